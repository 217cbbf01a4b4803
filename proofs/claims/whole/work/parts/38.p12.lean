/-! ===== the findings ===== -/
theorem m3_ne {a : Nat} (ha : a < 2147483648) : nI a ≠ -3 := fun q => by
  have := congrArg Int32.toInt q
  rw [t_k a ha] at this
  have e : (-3 : Int32).toInt = -3 := by decide
  rw [e] at this; omega
theorem un_3 {v : Int32} (h : v = -1 ∨ isL v) : un v ≠ -3 := by
  unfold un
  rcases h with e | h
  · rw [if_pos e]; decide
  · rw [if_neg (isL_n2 h).2]
    intro q
    have := h.1
    rw [q] at this
    exact absurd this (by decide)
theorem tX_3 {x : Xs} (hx : xI x) {k a : Nat} (hq : qOk k a) : tX x k a ≠ -3 := by
  have ha : a < 10 := by have := hq; unfold qOk at this; omega
  unfold tX tlF
  by_cases k0 : k = 0
  · rw [if_pos k0, Nat.zero_add]
    exact un_3 (xI_p hx (by unfold qOk at hq; omega))
  · rw [if_neg k0]
    by_cases k3 : k = 3
    · rw [if_pos k3]
      exact m3_ne (by have := hc2_le x 0 (nI a) 10; omega)
    · rw [if_neg k3]
      obtain ⟨v1, v2, v3⟩ := hx.2 a ha
      by_cases k2 : k = 2
      · rw [if_pos k2, Nat.zero_add, Nat.zero_add]
        rcases v1 with e | ⟨p, hp, e⟩
        · rw [if_pos e]; split <;> decide
        · rw [if_neg (by rw [e]; exact m1_ne (by omega)), e]; exact m3_ne (by omega)
      · rw [if_neg k2]
        refine un_3 ?_
        unfold tlP
        rw [Nat.zero_add, Nat.zero_add, Nat.zero_add]
        rcases v1 with e | ⟨p, hp, e⟩
        · rw [if_pos e]; split
          · exact v3
          · exact Or.inl rfl
        · rw [if_neg (by rw [e]; exact m1_ne (by omega)), e, nI_clamp (by omega), Nat.zero_add]
          exact xI_p hx hp
theorem qOk_q {q : Nat} (h : q < 36) : qOk (qk q) (qa q) := by
  unfold qOk qk qa
  by_cases h1 : q < 8
  · simp [h1]
  · by_cases h2 : q < 18
    · simp [h1, h2]; omega
    · by_cases h3 : q < 28
      · simp [h1, h2, h3]; omega
      · simp [h1, h2, h3]; omega
theorem AN_1 (x : Xs) (k a : Nat) : AN [x] k a = tX x k a := by unfold AN; simp
theorem AN_s {l : List Xs} {x : Xs} {k a : Nat} (hl : l ≠ []) (h3 : tX x k a ≠ -3) : AN (l ++ [x]) k a = if AN l k a = tX x k a then AN l k a else -3 := by
  cases l with
  | nil => exact absurd rfl hl
  | cons y l =>
    unfold AN
    rw [List.cons_append, List.headD_cons, List.headD_cons, ← List.cons_append, List.all_append]
    cases e : (y :: l).all (fun x => decide (tX x k a = tX y k a)) with
    | true =>
      simp only [List.all_cons, List.all_nil, Bool.and_true, Bool.true_and, if_true, decide_eq_true_eq]
      by_cases q : tX x k a = tX y k a
      · rw [if_pos q, if_pos q.symm]
      · rw [if_neg q, if_neg (fun z => q z.symm)]
    | false =>
      simp only [Bool.false_and, if_false, Bool.false_eq_true]
      rw [if_neg (fun z => h3 z.symm)]
theorem LV_s (l : List Xs) (x : Xs) (k a : Nat) : LV (l ++ [x]) k a = mx (LV l k a) (bsF (bX x k a) 14) := by unfold LV; rw [List.foldl_append]; rfl
theorem bsN_le (m : Nat) : ∀ k, bsN m k ≤ k
  | 0 => Nat.le_refl _
  | k + 1 => by have := bsN_le m k; unfold bsN; omega
theorem mx_0 {n : Nat} (h : n < 2147483648) : mx (nI 0) (nI n) = nI n := by
  unfold mx
  by_cases e : nI 0 < nI n
  · rw [if_pos e]
  · rw [if_neg e]
    rw [i_lt, t_k 0 (by decide), t_k n h] at e
    rw [show n = 0 by omega]
theorem LV_1 {x : Xs} {k a : Nat} (h : bd (bX x k a)) : LV [x] k a = bsF (bX x k a) 14 := by
  obtain ⟨m, hm, e⟩ := h
  show mx (nI 0) (bsF (bX x k a) 14) = _
  rw [e, bsF_n (by omega) 14 (by omega)]
  exact mx_0 (by have := bsN_le m 14; omega)
def AKp (l : List Xs) (k a : Nat) : Int32 := AKl k a l.tail (bX (l.headD iniV) k a)
theorem AKp_s {l : List Xs} (hl : l ≠ []) (x : Xs) (k a : Nat) : AKp (l ++ [x]) k a = AKp l k a &&& bX x k a := by
  cases l with
  | nil => exact absurd rfl hl
  | cons y l =>
    unfold AKp AKl
    rw [List.cons_append, List.headD_cons, List.headD_cons, List.tail_cons, List.tail_cons, List.foldl_append]
    rfl
theorem hr_35 {S : Sx} {k fb q : Nat} (hq : q < 36) : hrF S k fb 36 (35 + k) q = if fb = 0 then (if S (35 + k) q = vq S q then S (35 + k) q else -3) else vq S q := by unfold hrF; rw [if_pos hq, if_pos rfl]
theorem hr_50 {S : Sx} {k fb q : Nat} (hk : k < 15) (hq : q < 36) : hrF S k fb 36 (50 + k) q = if fb = 0 then mx (S (50 + k) q) (bcF (bq S q)) else bcF (bq S q) := by unfold hrF; rw [if_pos hq, if_neg (by omega), if_pos rfl]
theorem hr_65 {S : Sx} {k fb q : Nat} (hk : k < 15) (hq : q < 36) : hrF S k fb 36 (65 + k) q = if fb = 0 then S (65 + k) q &&& bq S q else bq S q := by unfold hrF; rw [if_pos hq, if_neg (by omega), if_neg (by omega), if_pos rfl]
theorem fa_rep {S : Sx} {g : Nat → Int32} {k z : Nat} {L : List Xs} (hk : k ≤ 14) (hT : TX S g k) (hok : ∀ s, s < k → okM g s) (hP : PW S g k z L) (hb : ∀ x ∈ L, ∀ a b, qOk a b → bd (bX x a b)) {q : Nat} (hq : q < 36) : ∀ r, r < z → faS S k (r + 1) (35 + k) q = AN (L.take (r + 1)) (qk q) (qa q) ∧ faS S k (r + 1) (50 + k) q = LV (L.take (r + 1)) (qk q) (qa q) ∧ faS S k (r + 1) (65 + k) q = AKp (L.take (r + 1)) (qk q) (qa q) := by
  have hqo := qOk_q hq
  intro r
  induction r with
  | zero =>
    intro hr
    have hlt : 0 < L.length := by rw [← hP.1]; exact hr
    obtain ⟨C, hC, hsp⟩ := hP.2.2 0 _ (List.getElem?_eq_getElem hlt)
    obtain ⟨r1, r2, -⟩ := SP_rw0 hk hT hok hsp
    have hbd := hb _ (List.getElem_mem hlt) _ _ hqo
    have e1 : L.take (0 + 1) = [L[0]] := by rw [List.take_succ_eq_append_getElem hlt]; simp
    unfold faS
    rw [if_pos rfl, e1, hr_35 hq, hr_50 (by omega) hq, hr_65 (by omega) hq, if_neg (by decide), if_neg (by decide), if_neg (by decide), AN_1, LV_1 hbd]
    have ev : vq (goT (faS S k 0) (S (20 + k) 0) k) q = tX L[0] (qk q) (qa q) := by
      show vl (goT S (S (20 + k) 0) k) _ _ = _
      rw [hC]; exact vl_x r1 r2 hqo
    have eb : bq (goT (faS S k 0) (S (20 + k) 0) k) q = bX L[0] (qk q) (qa q) := by
      show bs (goT S (S (20 + k) 0) k) _ _ = _
      rw [hC]; exact bs_x r1 r2 hqo
    rw [ev, eb, bc_bs hbd]
    exact ⟨rfl, rfl, rfl⟩
  | succ r ih =>
    intro hr
    obtain ⟨i1, i2, i3⟩ := ih (by omega)
    have hlt : r + 1 < L.length := by rw [← hP.1]; exact hr
    obtain ⟨C, hC, hsp⟩ := hP.2.2 (r + 1) _ (List.getElem?_eq_getElem hlt)
    have hT1 : TX (faS S k (r + 1)) g k := ⟨by rw [faS_ne (by omega)]; exact hT.1, fun s hs => by rw [faS_ne (by omega)]; exact hT.2 s hs⟩
    obtain ⟨r1, r2, -⟩ := SP_rw0 hk hT1 hok hsp
    have hbd := hb _ (List.getElem_mem hlt) _ _ hqo
    have e1 : L.take (r + 1 + 1) = L.take (r + 1) ++ [L[r + 1]] := List.take_succ_eq_append_getElem hlt
    have hne : L.take (r + 1) ≠ [] := by
      intro z0
      have := congrArg List.length z0
      rw [List.length_take, List.length_nil] at this
      omega
    have ev : vq (goT (faS S k (r + 1)) (S (20 + k) (r + 1)) k) q = tX L[r + 1] (qk q) (qa q) := by
      show vl (goT (faS S k (r + 1)) (S (20 + k) (r + 1)) k) _ _ = _
      rw [hC]; exact vl_x r1 r2 hqo
    have eb : bq (goT (faS S k (r + 1)) (S (20 + k) (r + 1)) k) q = bX L[r + 1] (qk q) (qa q) := by
      show bs (goT (faS S k (r + 1)) (S (20 + k) (r + 1)) k) _ _ = _
      rw [hC]; exact bs_x r1 r2 hqo
    rw [e1, AN_s hne (tX_3 r2 hqo), LV_s, AKp_s hne]
    rw [faS, if_neg (by omega), hr_35 hq, hr_50 (by omega) hq, hr_65 (by omega) hq, if_pos rfl, if_pos rfl, if_pos rfl, ev, eb, bc_bs hbd, goT_ne (show 35 + k < 8 ∨ 13 < 35 + k by omega), goT_ne (show 50 + k < 8 ∨ 13 < 50 + k by omega), goT_ne (show 65 + k < 8 ∨ 13 < 65 + k by omega), i1, i2, i3]
    exact ⟨rfl, rfl, rfl⟩
def FD (S : Sx) (g : Nat → Int32) (k : Nat) : Prop := ∀ q, q < 36 → S (35 + k) q = AN (rdX g k) (qk q) (qa q) ∧ S (50 + k) q = LV (rdX g k) (qk q) (qa q) ∧ S (65 + k) q = AK (rdX g k) (qk q) (qa q)
theorem rdX_bd {g : Nat → Int32} {k : Nat} (hk : k ≤ 14) (hok : ∀ s, s < k → okM g s) : ∀ x ∈ rdX g k, ∀ a b, qOk a b → bd (bX x a b) := fun x hx _ _ h => bX_g (rdX_g k hk hok x hx) (rdX_ok k hok x hx) h
theorem fa_FD {S : Sx} {g : Nat → Int32} {k z : Nat} (hk : k ≤ 14) (hT : TX S g k) (hok : ∀ s, s < k → okM g s) (hP : PW S g k z (rdX g k)) (h1 : 1 ≤ z) : FD (clF (faS S k z) k 36) g k := by
  intro q hq
  obtain ⟨e1, e2, e3⟩ := fa_rep hk hT hok hP (rdX_bd hk hok) hq (z - 1) (by omega)
  rw [show z - 1 + 1 = z by omega, hP.1, List.take_length] at e1 e2 e3
  rw [← hP.1] at e1 e2 e3
  have c1 : clF (faS S k z) k 36 (35 + k) q = AN (rdX g k) (qk q) (qa q) := by rw [clF_a]; exact e1
  refine ⟨c1, ?_, ?_⟩
  · unfold clF; rw [if_neg (by omega)]; exact e2
  · unfold clF AK
    rw [e1]
    by_cases n : AN (rdX g k) (qk q) (qa q) < 0
    · rw [if_pos ⟨rfl, hq, n⟩, if_pos n]
    · rw [if_neg (fun z => n z.2.2), if_neg n]; exact e3
/-! ===== what the ways rest on ===== -/
theorem nmN_loc {g g' : Nat → Int32} {s : Nat} (h : ∀ j, j < 5 * (s + 1) → g j = g' j) : nmN g s = nmN g' s := by
  unfold nmN saN sbN; rw [h (s * 5 + 0) (by omega), h (s * 5 + 1) (by omega), h (s * 5 + 3) (by omega)]
theorem cdN_loc {g g' : Nat → Int32} {t : Nat} : ∀ k, (∀ j, j < 5 * k → g j = g' j) → cdN g t k = cdN g' t k
  | 0, _ => rfl
  | k + 1, h => by unfold cdN; rw [nmN_loc h, cdN_loc k (fun j hj => h j (by omega))]
theorem mkN_loc {g g' : Nat → Int32} {a s : Nat} (h : ∀ j, j < 5 * s → g j = g' j) : mkN g a s = mkN g' a s := by unfold mkN; rw [cdN_loc s h]
theorem m0_loc {g g' : Nat → Int32} {s : Nat} (h : ∀ j, j < 5 * (s + 1) → g j = g' j) : m0 g s = m0 g' s := by
  unfold m0 saN; rw [h (s * 5 + 0) (by omega), mkN_loc (fun j hj => h j (by omega))]
theorem m1_loc {g g' : Nat → Int32} {s : Nat} (h : ∀ j, j < 5 * (s + 1) → g j = g' j) : m1 g s = m1 g' s := by
  unfold m1 sbN; rw [h (s * 5 + 1) (by omega), h (s * 5 + 3) (by omega), mkN_loc (fun j hj => h j (by omega))]
theorem SP_loc {g g' : Nat → Int32} : ∀ (k : Nat) (C : Nat) (x : Xs), (∀ j, j < 5 * k → g j = g' j) → SP g k C x → SP g' k C x
  | 0, C, x, _, h => h
  | k + 1, C, x, e, h => by
    obtain ⟨C0, i, j, a, x0, hC, hi, hj, hC0, h0, ha, ea, eb, hst⟩ := h
    refine ⟨C0, i, j, a, x0, hC, hi, hj, hC0, SP_loc k C0 x0 (fun j hj => e j (by omega)) h0, ha, ?_, ?_, ?_⟩
    · rw [← m0_loc e]; exact ea
    · rw [← m1_loc e, ← e (k * 5 + 1) (by omega)]; exact eb
    · rw [← m1_loc e, ← stp_loc (e (k * 5 + 1) (by omega)) (e (k * 5 + 2) (by omega))]; exact hst
/-- the class's notes of the first n sentences -/
def CI (S : Sx) (n : Nat) : Prop := (∀ s, s < n → S 3 (2 * s + 0) = nI (m0 (S 2) s) ∧ S 3 (2 * s + 1) = nI (m1 (S 2) s)) ∧ ∀ k, k ≤ n → PW S (S 2) k (rdN (S 2) k) (rdX (S 2) k) ∧ FD S (S 2) k
theorem CI_le {S : Sx} {n m : Nat} (h : CI S n) (hm : m ≤ n) : CI S m := ⟨fun s hs => h.1 s (by omega), fun k hk => h.2 k (by omega)⟩
theorem CI_congr {S S' : Sx} {n : Nat} (h : CI S n) (h2 : ∀ j, j < 5 * n → S 2 j = S' 2 j) (h3 : ∀ j, j < 2 * n → S' 3 j = S 3 j) (h6 : ∀ k, k ≤ n → S' 6 k = S 6 k) (h20 : ∀ k, k ≤ n → S' (20 + k) = S (20 + k)) (h35 : ∀ k, k ≤ n → S' (35 + k) = S (35 + k) ∧ S' (50 + k) = S (50 + k) ∧ S' (65 + k) = S (65 + k)) : CI S' n := by
  refine ⟨fun s hs => ?_, fun k hk => ⟨?_, ?_⟩⟩
  · rw [h3 _ (by omega), h3 _ (by omega), ← m0_loc (fun j hj => h2 j (by omega)), ← m1_loc (fun j hj => h2 j (by omega))]
    exact h.1 s hs
  · obtain ⟨p1, p2, p3⟩ := (h.2 k hk).1
    have e : rdX (S' 2) k = rdX (S 2) k := (rdX_loc k (fun j hj => h2 j (by omega))).symm
    refine ⟨by unfold rdN; rfl, ?_, fun r x hx => ?_⟩
    · rw [h6 k hk]; unfold rdN; rw [e]; exact p2
    · rw [e] at hx
      obtain ⟨C, c1, c2⟩ := p3 r x hx
      exact ⟨C, by rw [h20 k hk]; exact c1, SP_loc k C x (fun j hj => h2 j (by omega)) c2⟩
  · have e : rdX (S' 2) k = rdX (S 2) k := (rdX_loc k (fun j hj => h2 j (by omega))).symm
    intro q hq
    obtain ⟨c1, c2, c3⟩ := h35 k hk
    rw [c1, c2, c3, e]; exact (h.2 k hk).2 q hq
