/-! ===== the class's ways and the model's readings ===== -/
def pw (m i : Nat) : Int32 := if i = 0 then prq (nI m) else prq (nI m &&& (nI m - nI 1))
theorem pp_w {S : Sx} {s w m D : Nat} (h3 : S 3 (2 * s + w) = nI m) (hD : D < 2147483648) (ht : 2 * s + w < 32) : pp S s w (nI D) = pw m (D / 2 ^ (2 * s + w) % 2) := by
  unfold pp prs pw
  rw [h3, bit_N hD ht]
  by_cases e : D / 2 ^ (2 * s + w) % 2 = 0
  · rw [if_pos (by rw [e]; rfl), if_pos e]
  · rw [if_neg (fun q => e ((nI_z (by omega)).mp q)), if_neg e]
theorem psl_lt {m p : Nat} (h : p ∈ psl m) : p < 8 := List.mem_range.mp (List.mem_filter.mp h).1
theorem pw_at {m i : Nat} (hm : m < 256) (h2 : (psl m).length ≤ 2) (hi : i < (psl m).length) : (psl m).getD i 0 < 8 ∧ pw m i = nI ((psl m).getD i 0) := by
  obtain ⟨-, h1, h3⟩ := psl_f m hm
  have h3 := h3 h2
  have h8 : ∀ p ∈ psl m, p < 8 := fun p hp => psl_lt hp
  unfold pw
  rw [h1, h3]
  generalize psl m = l at *
  match l, h2, hi, h8 with
  | [], _, hi, _ => simp at hi
  | [p], _, hi, h8 =>
    have : i = 0 := by simp at hi; exact hi
    subst this
    exact ⟨h8 p (by simp), rfl⟩
  | [p, q], _, hi, h8 =>
    have : i = 0 ∨ i = 1 := by simp at hi; omega
    rcases this with rfl | rfl
    · exact ⟨h8 p (by simp), rfl⟩
    · exact ⟨h8 q (by simp), rfl⟩
  | p :: q :: r :: l, h2, _, _ => simp at h2
def m0 (g : Nat → Int32) (s : Nat) : Nat := mkN g (saN g s) s
def m1 (g : Nat → Int32) (s : Nat) : Nat := if g (s * 5 + 1) = nI 33 then mkN g (sbN g s) s else 0
def n0 (g : Nat → Int32) (s : Nat) : Nat := (psl (m0 g s)).length
def n1 (g : Nat → Int32) (s : Nat) : Nat := if g (s * 5 + 1) = nI 33 then (psl (m1 g s)).length else 1
theorem m0_lt (g : Nat → Int32) (s : Nat) : m0 g s < 256 := mkN_lt g _ s
theorem m1_lt (g : Nat → Int32) (s : Nat) : m1 g s < 256 := by unfold m1; split; exact mkN_lt g _ s; decide
theorem n0_2 {g : Nat → Int32} {s : Nat} (h : ∀ k, k ≤ s → wfM g k) : n0 g s ≤ 2 := psl_2 (sa_n (h s (Nat.le_refl s))).1 (fun k hk => h k (by omega))
theorem n1_2 {g : Nat → Int32} {s : Nat} (h : ∀ k, k ≤ s → wfM g k) : n1 g s ≤ 2 := by
  unfold n1 m1; split
  · rename_i e; exact psl_2 (sb_n (h s (Nat.le_refl s)) e).1 (fun k hk => h k (by omega))
  · decide
theorem pw0 : pw 0 0 = -1 := by decide
theorem a_of {g : Nat → Int32} {s i : Nat} (h : ∀ k, k ≤ s → wfM g k) (hi : i < n0 g s) : (psl (m0 g s)).getD i 0 < 8 ∧ pw (m0 g s) i = nI ((psl (m0 g s)).getD i 0) := pw_at (m0_lt g s) (n0_2 h) hi
theorem b_of {g : Nat → Int32} {s j : Nat} (h : ∀ k, k ≤ s → wfM g k) (hj : j < n1 g s) (e : g (s * 5 + 1) = nI 33) : (psl (m1 g s)).getD j 0 < 8 ∧ pw (m1 g s) j = nI ((psl (m1 g s)).getD j 0) := by
  have h2 := n1_2 h
  unfold n1 at hj h2
  rw [if_pos e] at hj h2
  exact pw_at (m1_lt g s) h2 hj
def pri (ns nr : Nat) : List (Nat × Nat) := (List.range ns).flatMap (fun i => (List.range nr).map (fun j => (i, j)))
theorem pri_mem {ns nr : Nat} {p : Nat × Nat} (h : p ∈ pri ns nr) : p.1 < ns ∧ p.2 < nr := by
  unfold pri at h
  obtain ⟨i, hi, h2⟩ := List.mem_flatMap.mp h
  obtain ⟨j, hj, rfl⟩ := List.mem_map.mp h2
  exact ⟨List.mem_range.mp hi, List.mem_range.mp hj⟩
theorem cin_m {s i : Nat} {ch : Int32} : ∀ m j, cin s ch i m j = (List.range' j m).map (fun j => lg s ch i j)
  | 0, _ => rfl
  | m + 1, j => by unfold cin; rw [cin_m m (j + 1), List.range'_succ, List.map_cons]
theorem cou_m {s nr : Nat} {ch : Int32} : ∀ m i, cou s ch nr m i = (List.range' i m).flatMap (fun i => cin s ch i nr 0)
  | 0, _ => rfl
  | m + 1, i => by unfold cou; rw [cou_m m (i + 1), List.range'_succ, List.flatMap_cons]
theorem cou_p (s ns nr : Nat) (ch : Int32) : cou s ch nr ns 0 = (pri ns nr).map (fun p => lg s ch p.1 p.2) := by
  unfold pri
  simp only [List.range_eq_range']
  rw [cou_m, List.map_flatMap]
  congr 1
  funext i
  rw [cin_m, List.map_map]
  rfl
theorem rng_get (l : List Nat) : (List.range l.length).map (fun i => l.getD i 0) = l := by
  apply List.ext_getElem
  · simp
  · intro i h1 h2
    simp [List.getD_eq_getElem?_getD, h2]
theorem cds_p {g : Nat → Int32} {s : Nat} (h : ∀ k, k ≤ s → wfM g k) : cds g s = (pri (n0 g s) (n1 g s)).map (fun p => ((psl (m0 g s)).getD p.1 0, pw (m1 g s) p.2)) := by
  rw [cds_m h]
  unfold pri
  rw [List.map_flatMap]
  have e1 : psl (mkN g (saN g s) s) = (List.range (n0 g s)).map (fun i => (psl (m0 g s)).getD i 0) := (rng_get (psl (m0 g s))).symm
  rw [e1, List.flatMap_map]
  congr 1
  funext i
  rw [List.map_map]
  by_cases e : g (s * 5 + 1) = nI 33
  · have e2 : mkN g (sbN g s) s = m1 g s := by unfold m1; rw [if_pos e]
    have e3 : n1 g s = (psl (m1 g s)).length := by unfold n1; rw [if_pos e]
    rw [if_pos e, e2]
    have e4 : psl (m1 g s) = (List.range (n1 g s)).map (fun j => (psl (m1 g s)).getD j 0) := by rw [e3]; exact (rng_get _).symm
    conv => lhs; rw [e4]
    rw [List.map_map]
    apply List.map_congr_left
    intro j hj
    show (_, nI _) = (_, pw _ _)
    rw [(b_of h (List.mem_range.mp hj) e).2]
  · rw [if_neg e]
    have e3 : n1 g s = 1 := by unfold n1; rw [if_neg e]
    have e2 : m1 g s = 0 := by unfold m1; rw [if_neg e]
    rw [e3, e2]
    show [(_, -1)] = [(_, pw 0 0)]
    rw [pw0]
/-- a way spells a reading -/
def SP (g : Nat → Int32) : Nat → Nat → Xs → Prop
  | 0, C, x => C = 0 ∧ x = iniV
  | k + 1, C, x => ∃ (C0 i j a : Nat) (x0 : Xs), C = LG k C0 i j ∧ i < 2 ∧ j < 2 ∧ C0 < 4 ^ k ∧ SP g k C0 x0 ∧ a < 8 ∧ pw (m0 g k) i = nI a ∧ (g (k * 5 + 1) = nI 33 → ∃ b, b < 8 ∧ pw (m1 g k) j = nI b) ∧ stp g k a (pw (m1 g k) j) x0 = some x
theorem SP_lt {g : Nat → Int32} : ∀ {k C : Nat} {x : Xs}, SP g k C x → C < 4 ^ k
  | 0, C, x, h => by rw [h.1]; decide
  | k + 1, C, x, h => by
    obtain ⟨C0, i, j, a, x0, rfl, hi, hj, hC, -⟩ := h
    exact LG_lt hC hi hj
theorem p4_lt {k C : Nat} (hk : k ≤ 14) (h : C < 4 ^ k) : C < 2147483648 := by
  have : 4 ^ k ≤ 4 ^ 14 := Nat.pow_le_pow_right (by decide) hk
  have e : (4 : Nat) ^ 14 = 268435456 := by decide
  omega
def TX (S : Sx) (g : Nat → Int32) (k : Nat) : Prop := S 2 = g ∧ ∀ s, s < k → S 3 (2 * s + 0) = nI (m0 g s) ∧ S 3 (2 * s + 1) = nI (m1 g s)
theorem ini_RW (S : Sx) : RW (clr S) iniV ∧ xI iniV := by
  have i1 : ∀ j, iniP j → iniV j = -1 := fun j hj => if_pos hj
  have i0 : ∀ j, ¬ iniP j → iniV j = nI 0 := fun j hj => if_neg hj
  refine ⟨⟨fun p hp => ?_, fun t ht => ?_⟩, fun p hp => Or.inl ⟨i1 _ (by omega), i0 _ (by omega)⟩, fun t ht => ⟨Or.inl (i1 _ (by omega)), Or.inl (i1 _ (by omega)), Or.inl (i1 _ (by omega))⟩⟩
  · rw [i1 p (by omega), i0 (8 + p) (by omega)]
    unfold clr clB clA un
    constructor
    · simp [hp]
    · simp [hp]
  · unfold hd hgd
    rw [i1 (16 + t) (by omega), i0 (36 + t) (by omega), if_pos rfl, if_pos rfl, if_neg (by decide), if_neg (by decide)]
    unfold clr clB clA
    refine ⟨by simp [ht], by simp [ht], fun _ z => absurd z (by decide)⟩
theorem pp_go {S : Sx} {s w k : Nat} {c d : Int32} : pp (goT S d k) s w c = pp S s w c := by unfold pp; rw [goT_ne (by omega)]
theorem SP_rw {S : Sx} {g : Nat → Int32} : ∀ k, k ≤ 14 → TX S g k → (∀ s, s < k → okM g s) → ∀ (C : Nat) (x : Xs), SP g k C x → ∀ D, D < 2147483648 → (∀ t, t < 2 * k → D / 2 ^ t % 2 = C / 2 ^ t % 2) → RW (goT S (nI D) k) x ∧ xI x ∧ ∀ s w, s < k → w < 2 → x (66 + 2 * s + w) = pp S s w (nI D)
  | 0, _, _, _, C, x, h, D, _, _ => by
    rw [h.2]
    exact ⟨(ini_RW S).1, (ini_RW S).2, fun s w hs => absurd hs (by omega)⟩
  | k + 1, hk, hT, hok, C, x, h, D, hD, hb => by
    obtain ⟨C0, i, j, a, x0, hC, hi, hj, hC0, h0, ha, ea, eb, hst⟩ := h
    obtain ⟨r1, r2, r3⟩ := SP_rw k (by omega) ⟨hT.1, fun s hs => hT.2 s (by omega)⟩ (fun s hs => hok s (by omega)) C0 x0 h0 D hD (fun t ht => by rw [hb t (by omega), hC, LG_old ht])
    have b0 : D / 2 ^ (2 * k + 0) % 2 = i := by rw [hb _ (by omega), hC, LG_0 hC0 hi]
    have b1 : D / 2 ^ (2 * k + 1) % 2 = j := by rw [hb _ (by omega), hC, LG_1 hC0 hi hj]
    have p0 : pp S k 0 (nI D) = nI a := by rw [pp_w (hT.2 k (by omega)).1 hD (by omega), b0]; exact ea
    have p1 : pp S k 1 (nI D) = pw (m1 g k) j := by rw [pp_w (hT.2 k (by omega)).2 hD (by omega), b1]
    rcases stp_x (S := goT S (nI D) k) (x := x0) (g := g) (s := k) (a := a) (c := nI D) (bv := pw (m1 g k) j) (by rw [goT_ne (by omega)]; exact hT.1) r1 r2 (by omega) ha (hok k (by omega)) (by rw [pp_go]; exact p0) (fun e => by obtain ⟨b, hb8, hb2⟩ := eb e; exact ⟨b, hb8, hb2, by rw [pp_go, p1]; exact hb2⟩) with ⟨-, q⟩ | ⟨-, y, q1, q2, q3, q4⟩
    · rw [q] at hst; cases hst
    · rw [q1] at hst; cases hst
      refine ⟨q2, q3, fun s w hs hw => ?_⟩
      rw [q4 _ (by omega) (by omega)]
      unfold trX upd
      by_cases e : s = k
      · subst e
        rcases (show w = 0 ∨ w = 1 by omega) with rfl | rfl
        · rw [if_neg (by omega), if_pos (by omega)]; exact p0.symm
        · rw [if_pos (by omega)]; exact p1.symm
      · rw [if_neg (by omega), if_neg (by omega)]
        exact r3 s w (by omega) hw
theorem SP_rw0 {S : Sx} {g : Nat → Int32} {k C : Nat} {x : Xs} (hk : k ≤ 14) (hT : TX S g k) (hok : ∀ s, s < k → okM g s) (h : SP g k C x) : RW (goT S (nI C) k) x ∧ xI x ∧ ∀ s w, s < k → w < 2 → x (66 + 2 * s + w) = pp S s w (nI C) := SP_rw k hk hT hok C x h C (p4_lt hk (SP_lt h)) (fun _ _ => rfl)
/-- the ways that are kept are these readings -/
def PW (S : Sx) (g : Nat → Int32) (k z : Nat) (l : List Xs) : Prop := z = l.length ∧ S 6 k = nI z ∧ ∀ (r : Nat) (x : Xs), l[r]? = some x → ∃ C, S (20 + k) r = nI C ∧ SP g k C x
theorem PW_congr {S S' : Sx} {g : Nat → Int32} {k z : Nat} {l : List Xs} (h : PW S g k z l) (h6 : S' 6 k = S 6 k) (h2 : S' (20 + k) = S (20 + k)) : PW S' g k z l := ⟨h.1, by rw [h6]; exact h.2.1, fun r x hx => by rw [h2]; exact h.2.2 r x hx⟩
theorem PW_add {S : Sx} {g : Nat → Int32} {k z C : Nat} {l : List Xs} {x : Xs} (h : PW S g k z l) (hx : SP g k C x) : PW (adS S k z (nI C)) g k (z + 1) (l ++ [x]) := by
  refine ⟨by rw [List.length_append, ← h.1]; rfl, by rw [adS_6, if_pos rfl], fun r y hy => ?_⟩
  unfold adS
  rw [st_ne (show 20 + k ≠ 6 by omega), st_at]
  by_cases e : r = z
  · subst e
    rw [if_pos ⟨rfl, rfl⟩]
    rw [h.1, List.getElem?_append_right (Nat.le_refl _), Nat.sub_self] at hy
    cases hy
    exact ⟨C, rfl, hx⟩
  · rw [if_neg (fun q => e q.2)]
    have hr : r < l.length := by
      have := (List.getElem?_eq_some_iff.mp hy).1
      rw [List.length_append] at this
      have h1 := h.1
      simp at this; omega
    rw [List.getElem?_append_left hr] at hy
    exact h.2.2 r y hy
theorem alF_congr {S S' : Sx} {s : Nat} {c : Int32} (h2 : S' 2 = S 2) (h3 : S' 3 = S 3) (h8 : S' 8 = S 8) (h10 : S' 10 = S 10) (h12 : S' 12 = S 12) : alF S' s c = alF S s c := by
  unfold alF pp
  simp only [atP, agP, opP, mhP, h2, h3, h8, h10, h12]
/-- one way made longer -/
def fX (g : Nat → Int32) (s : Nat) (x : Xs) (p : Nat × Nat) : Option Xs := stp g s ((psl (m0 g s)).getD p.1 0) (pw (m1 g s) p.2) x
theorem ewF_rep {S0 : Sx} {g : Nat → Int32} {s C0 : Nat} {x0 : Xs} (hs : s ≤ 13) (hg : S0 2 = g) (h30 : S0 3 (2 * s + 0) = nI (m0 g s)) (h31 : S0 3 (2 * s + 1) = nI (m1 g s)) (hR : RW S0 x0) (hx : xI x0) (hsp : SP g s C0 x0) (hw : ∀ k, k ≤ s → wfM g k) : ∀ (ps : List (Nat × Nat)) (S : Sx) (z : Nat) (l : List Xs), (∀ p ∈ ps, p.1 < n0 g s ∧ p.2 < n1 g s) → (∀ q, q ≠ 6 → q ≠ 20 + (s + 1) → S q = S0 q) → PW S g (s + 1) z l → z ≤ 64 →
    ((ewF s (ps.map (fun p => lg s (nI C0) p.1 p.2)) S z).2.2 = true ∧ PW (ewF s (ps.map (fun p => lg s (nI C0) p.1 p.2)) S z).1 g (s + 1) (ewF s (ps.map (fun p => lg s (nI C0) p.1 p.2)) S z).2.1 (l ++ ps.filterMap (fX g s x0)) ∧ (ewF s (ps.map (fun p => lg s (nI C0) p.1 p.2)) S z).2.1 ≤ 64) ∨ ((ewF s (ps.map (fun p => lg s (nI C0) p.1 p.2)) S z).2.2 = false ∧ 64 < (l ++ ps.filterMap (fX g s x0)).length)
  | [], S, z, l, _, _, hP, hz => by
    left
    simp only [List.map_nil, List.filterMap_nil, List.append_nil, ewF]
    exact ⟨trivial, hP, hz⟩
  | p :: ps, S, z, l, hps, hS, hP, hz => by
    obtain ⟨pi, pj⟩ := hps p List.mem_cons_self
    obtain ⟨a8, ea⟩ := a_of hw pi
    have hi2 : p.1 < 2 := Nat.lt_of_lt_of_le pi (n0_2 hw)
    have hj2 : p.2 < 2 := Nat.lt_of_lt_of_le pj (n1_2 hw)
    have hC := SP_lt hsp
    have hl : lg s (nI C0) p.1 p.2 = nI (LG s C0 p.1 p.2) := lg_N hs hC hi2 hj2
    have hL := LG_lt hC hi2 hj2
    have hL31 := p4_lt (show s + 1 ≤ 14 by omega) hL
    have p0 : pp S0 s 0 (nI (LG s C0 p.1 p.2)) = nI ((psl (m0 g s)).getD p.1 0) := by rw [pp_w h30 hL31 (by omega), LG_0 hC hi2]; exact ea
    have p1 : pp S0 s 1 (nI (LG s C0 p.1 p.2)) = pw (m1 g s) p.2 := by rw [pp_w h31 hL31 (by omega), LG_1 hC hi2 hj2]
    have al : alF S s (nI (LG s C0 p.1 p.2)) = alF S0 s (nI (LG s C0 p.1 p.2)) := alF_congr (hS 2 (by omega) (by omega)) (hS 3 (by omega) (by omega)) (hS 8 (by omega) (by omega)) (hS 10 (by omega) (by omega)) (hS 12 (by omega) (by omega))
    have hb : g (s * 5 + 1) = nI 33 → ∃ b, b < 8 ∧ pw (m1 g s) p.2 = nI b := fun e => ⟨_, (b_of hw pj e).1, (b_of hw pj e).2⟩
    have ih := ewF_rep hs hg h30 h31 hR hx hsp hw ps
    have hps2 : ∀ q ∈ ps, q.1 < n0 g s ∧ q.2 < n1 g s := fun q hq => hps q (List.mem_cons_of_mem _ hq)
    rw [List.map_cons, hl]
    unfold ewF
    rw [al]
    rcases stp_x (S := S0) (x := x0) (g := g) (s := s) (a := (psl (m0 g s)).getD p.1 0) (c := nI (LG s C0 p.1 p.2)) (bv := pw (m1 g s) p.2) hg hR hx (by omega) a8 (hw s (Nat.le_refl s)).2.1 p0 (fun e => by obtain ⟨b, hb8, hb2⟩ := hb e; exact ⟨b, hb8, hb2, by rw [p1]; exact hb2⟩) with ⟨q1, q2⟩ | ⟨q1, y, q2, -, -, -⟩
    · have e2 : fX g s x0 p = none := q2
      rw [if_pos q1, List.filterMap_cons_none e2]
      exact ih S z l hps2 hS hP hz
    · have e2 : fX g s x0 p = some y := q2
      rw [if_neg q1, List.filterMap_cons_some e2]
      have hy : SP g (s + 1) (LG s C0 p.1 p.2) y := ⟨C0, p.1, p.2, _, x0, rfl, hi2, hj2, hC, hsp, a8, ea, hb, q2⟩
      by_cases hz64 : z < 64
      · rw [if_pos hz64]
        have := ih (adS S (s + 1) z (nI (LG s C0 p.1 p.2))) (z + 1) (l ++ [y]) hps2 (fun q k1 k2 => by rw [adS_ne k1 k2]; exact hS q k1 k2) (PW_add hP hy) (by omega)
        rw [List.append_assoc, List.singleton_append] at this
        exact this
      · rw [if_neg hz64]
        right
        refine ⟨rfl, ?_⟩
        have h1 := hP.1
        rw [List.length_append, List.length_cons]; omega
theorem goX_p {g : Nat → Int32} {s : Nat} (h : ∀ k, k ≤ s → wfM g k) (l : List Xs) : goX g s l = l.flatMap (fun x => (pri (n0 g s) (n1 g s)).filterMap (fX g s x)) := by
  unfold goX
  rw [cds_p h]
  congr 1
  funext x
  rw [List.filterMap_map]
  rfl
theorem ews_rep {S0 : Sx} {g : Nat → Int32} {s : Nat} {L : List Xs} (hs : s ≤ 13) (hT : TX S0 g (s + 1)) (hw : ∀ k, k ≤ s → wfM g k) (hL : ∀ (r : Nat) (x : Xs), L[r]? = some x → ∃ C, S0 (20 + s) r = nI C ∧ SP g s C x) : ∀ (m r : Nat) (S : Sx) (z : Nat) (l : List Xs), r + m = L.length → (∀ q, q ≠ 6 → q ≠ 20 + (s + 1) → (q < 8 ∨ 13 < q) → S q = S0 q) → PW S g (s + 1) z l → z ≤ 64 →
    ((ews s (n0 g s) (n1 g s) m r S z).2.2 = true ∧ PW (ews s (n0 g s) (n1 g s) m r S z).1 g (s + 1) (ews s (n0 g s) (n1 g s) m r S z).2.1 (l ++ goX g s (L.drop r)) ∧ (ews s (n0 g s) (n1 g s) m r S z).2.1 ≤ 64) ∨ ((ews s (n0 g s) (n1 g s) m r S z).2.2 = false ∧ 64 < (l ++ goX g s (L.drop r)).length)
  | 0, r, S, z, l, hr, hS, hP, hz => by
    left
    simp only [ews]
    rw [List.drop_eq_nil_of_le (by omega)]
    simp only [goX, List.flatMap_nil, List.append_nil]
    exact ⟨trivial, hP, hz⟩
  | m + 1, r, S, z, l, hr, hS, hP, hz => by
    have hlt : r < L.length := by omega
    have hgx : L[r]? = some L[r] := List.getElem?_eq_getElem hlt
    obtain ⟨C, hC, hsp⟩ := hL r _ hgx
    have hSr : S (20 + s) r = nI C := by rw [hS (20 + s) (by omega) (by omega) (by omega)]; exact hC
    have hok : ∀ t, t < s → okM g t := fun t ht => (hw t (by omega)).2.1
    have hTS : TX S g s := ⟨by rw [hS 2 (by omega) (by omega) (by omega)]; exact hT.1, fun t ht => by rw [hS 3 (by omega) (by omega) (by omega)]; exact hT.2 t (by omega)⟩
    obtain ⟨r1, r2, -⟩ := SP_rw0 (by omega) hTS hok hsp
    have h3 : goT S (nI C) s 3 = S0 3 := by rw [goT_ne (by omega)]; exact hS 3 (by omega) (by omega) (by omega)
    have hrep := ewF_rep (S0 := goT S (nI C) s) hs (by rw [goT_ne (by omega)]; exact hTS.1) (by rw [h3]; exact (hT.2 s (by omega)).1) (by rw [h3]; exact (hT.2 s (by omega)).2) r1 r2 hsp hw (pri (n0 g s) (n1 g s)) (goT S (nI C) s) z l (fun p hp => pri_mem hp) (fun _ _ _ => rfl) (PW_congr hP (by rw [goT_ne (by omega)]) (by rw [goT_ne (by omega)])) hz
    rw [List.drop_eq_getElem_cons hlt]
    have eX : goX g s (L[r] :: L.drop (r + 1)) = (pri (n0 g s) (n1 g s)).filterMap (fX g s L[r]) ++ goX g s (L.drop (r + 1)) := by
      rw [goX_p hw, goX_p hw, List.flatMap_cons]
    rw [eX, ← List.append_assoc]
    unfold ews
    rw [hSr, cou_p]
    have keep : ∀ q, q ≠ 6 → q ≠ 20 + (s + 1) → (q < 8 ∨ 13 < q) → (ewF s ((pri (n0 g s) (n1 g s)).map (fun p => lg s (nI C) p.1 p.2)) (goT S (nI C) s) z).1 q = S0 q := fun q k1 k2 k3 => by
      rw [ewF_keep s _ _ _ q k1 k2, goT_ne k3]; exact hS q k1 k2 k3
    rcases hrep with ⟨e1, e2, e3⟩ | ⟨e1, e2⟩
    · rw [if_pos e1]
      exact ews_rep hs hT hw hL m (r + 1) _ _ _ (by omega) keep e2 e3
    · rw [if_neg (by rw [e1]; decide)]
      right
      refine ⟨e1, ?_⟩
      rw [List.length_append]; omega
