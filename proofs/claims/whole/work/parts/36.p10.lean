/-! ===== grounds are sets of sentences ===== -/
abbrev bd (v : Int32) : Prop := ∃ m, m < 16384 ∧ v = nI m
theorem bd_or {v w : Int32} (h : bd v) (h2 : bd w) : bd (v ||| w) := by
  obtain ⟨m, hm, rfl⟩ := h
  obtain ⟨k, hk, rfl⟩ := h2
  exact ⟨m ||| k, Nat.or_lt_two_pow (n := 14) hm hk, or_n (by omega) (by omega)⟩
theorem bd_and {v w : Int32} (h : bd v) (h2 : bd w) : bd (v &&& w) := by
  obtain ⟨m, hm, rfl⟩ := h
  obtain ⟨k, hk, rfl⟩ := h2
  exact ⟨m &&& k, Nat.lt_of_le_of_lt Nat.and_le_left hm, and_n (by omega) (by omega)⟩
theorem bd_0 : bd (nI 0) := ⟨0, by decide, rfl⟩
theorem bS_n : ∀ s, s < 14 → bS s = nI (2 ^ s) := by decide +kernel
theorem bd_bS {s : Nat} (hs : s < 14) : bd (bS s) := ⟨2 ^ s, Nat.lt_of_lt_of_le (Nat.pow_lt_pow_right (by decide) hs) (by decide), bS_n s hs⟩
abbrev gC (j : Nat) : Prop := (8 ≤ j ∧ j < 16) ∨ (26 ≤ j ∧ j < 36) ∨ (56 ≤ j ∧ j < 66) ∨ (94 ≤ j ∧ j < 104)
def gZ (T : Sx) : Prop := ∀ j, gC j → bd (T 84 j)
theorem gZ_st {T : Sx} {i : Nat} {v : Int32} (h : gZ T) (hv : ¬ gC i ∨ bd v) : gZ (st T 84 i v) := by
  intro j hj
  rw [st_at]
  by_cases e : j = i
  · rw [if_pos ⟨rfl, e⟩]
    rcases hv with q | q
    · rw [e] at hj; exact absurd hj q
    · exact q
  · rw [if_neg (fun q => e q.2)]; exact h j hj
theorem hs_g {T : Sx} {s a t : Nat} (h : gZ T) (hs : s < 14) (ht : t < 10) : gZ (hsS T 0 s a t) := by
  unfold hsS
  exact gZ_st (gZ_st (gZ_st (gZ_st (gZ_st h (Or.inl (by omega))) (Or.inr (bd_bS hs))) (Or.inl (by omega))) (Or.inl (by omega))) (Or.inr bd_0)
theorem tkE_g {T : Sx} {s a t : Nat} (h : gZ T) (hs : s < 14) (ht : t < 10) : gZ (tkE T 0 s a t) := by
  unfold tkE; split
  · exact h
  · exact hs_g h hs ht
theorem tk_g {T : Sx} {s a t : Nat} (h : gZ T) (hs : s < 14) (ha : a < 8) (ht : t < 10) : gZ (tkF T 0 s a t).2 := by
  unfold tkF
  split
  · exact h
  · split
    · split
      · refine tkE_g ?_ hs ht
        unfold tkA
        have h1 : gZ (st T 84 (0 + 0 + a) (T 84 (0 + 46 + t))) := gZ_st h (Or.inl (by omega))
        exact gZ_st h1 (Or.inr (bd_or (bd_bS hs) (h1 _ (by omega))))
      · split
        · exact tkE_g h hs ht
        · exact h
    · exact tkE_g h hs ht
theorem dp_g {T : Sx} {s a t : Nat} (h : gZ T) (hs : s < 14) (ha : a < 8) (ht : t < 10) : gZ (dpF T 0 s a t).2 := by
  unfold dpF
  split
  · exact h
  · show gZ (dpE T 0 s a t)
    have h5 : gZ (dp5 T 0 s a t) := by
      unfold dp5 dp3
      exact gZ_st (gZ_st (gZ_st (gZ_st (gZ_st h (Or.inl (by omega))) (Or.inr bd_0)) (Or.inl (by omega))) (Or.inl (by omega))) (Or.inr (bd_bS hs))
    unfold dpE
    refine gZ_st h5 (Or.inr (bd_or (bd_bS hs) ?_))
    split
    · exact bd_0
    · exact h5 _ (by omega)
theorem gvA_g {T : Sx} {s a b : Nat} (h : gZ T) (hs : s < 14) (ha : a < 8) (hb : b < 8) : gZ (gvA T 0 s a b) := by
  unfold gvA
  have h1 : gZ (st T 84 (0 + 0 + a) (T 84 (0 + 0 + b))) := gZ_st h (Or.inl (by omega))
  exact gZ_st h1 (Or.inr (bd_or (bd_bS hs) (h1 _ (by omega))))
theorem gv_g {T : Sx} {s a t b : Nat} (h : gZ T) (hs : s < 14) (ha : a < 8) (hb : b < 8) (ht : t < 10) : gZ (gvF T 0 s a t b).2 := by
  unfold gvF
  split
  · exact h
  · split
    · split
      · exact hs_g h hs ht
      · exact hs_g (gvA_g h hs ha hb) hs ht
    · split
      · exact hs_g (gvA_g h hs hb ha) hs ht
      · split
        · exact hs_g h hs ht
        · exact h
theorem vb_g {T : Sx} {s a : Nat} {bv : Int32} {g : Nat → Int32} (h : gZ T) (hs : s < 14) (ha : a < 8) (ok : okM g s) (hbv : g (s * 5 + 1) = nI 33 → ∃ b, b < 8 ∧ bv = nI b) : gZ (vbF T 0 s a bv g).2 := by
  by_cases h30 : g (s * 5 + 1) = nI 30
  · rw [vb_30 h30]
    show gZ (wkS T 0 s a _)
    unfold wkS; exact gZ_st (gZ_st h (Or.inl (by omega))) (Or.inr (bd_bS hs))
  · obtain ⟨t, ht, et⟩ := okM_T ok h30
    by_cases h31 : g (s * 5 + 1) = nI 31
    · rw [vb_31 h30 h31 ht et]; exact tk_g h hs ha ht
    · by_cases h32 : g (s * 5 + 1) = nI 32
      · rw [vb_32 h30 h31 h32 ht et]; exact dp_g h hs ha ht
      · obtain ⟨b, hb, rfl⟩ := hbv (okM_not ok h30 h31 h32)
        rw [vb_33 h30 h31 h32 ht hb et]; exact gv_g h hs ha hb ht
def gX (x : Xs) : Prop := ∀ j, gC j → bd (x j)
theorem stp_g {g : Nat → Int32} {s a : Nat} {bv : Int32} {x y : Xs} (h : gX x) (hs : s < 14) (ha : a < 8) (ok : okM g s) (hbv : g (s * 5 + 1) = nI 33 → ∃ b, b < 8 ∧ bv = nI b) (e : stp g s a bv x = some y) : gX y := by
  unfold stp at e
  split at e
  · cases e
  · cases e
    refine vb_g (T := eX (trX x s a bv)) ?_ hs ha ok hbv
    intro j hj
    show bd (trX x s a bv j)
    rw [trX_e hs j (by omega) (by omega)]
    exact h j hj
theorem rdX_g {g : Nat → Int32} : ∀ k, k ≤ 14 → (∀ s, s < k → okM g s) → ∀ x, x ∈ rdX g k → gX x
  | 0, _, _, x, h => by
    simp [rdX] at h; subst h
    intro j hj
    unfold iniV; rw [if_neg (by unfold iniP; omega)]; exact bd_0
  | k + 1, hk, hok, x, h => by
    unfold rdX goX at h
    obtain ⟨y, hy, h2⟩ := List.mem_flatMap.mp h
    obtain ⟨c, hc, h3⟩ := List.mem_filterMap.mp h2
    obtain ⟨h4, h5⟩ := gWl_in 8 0 c (by omega) hc
    exact stp_g (rdX_g k (by omega) (fun s hs => hok s (by omega)) y hy) (by omega) h4 (hok k (by omega)) h5 h3
theorem hb2_g {x : Xs} (h : gX x) (v : Int32) : ∀ n, n ≤ 10 → bd (hb2 x 0 v n)
  | 0, _ => bd_0
  | n + 1, hn => by
    unfold hb2
    refine bd_or (hb2_g h v n (by omega)) ?_
    split
    · exact h _ (by omega)
    · exact bd_0
theorem bX_g {x : Xs} (h : gX x) (hx : okX x) {k a : Nat} (hq : qOk k a) : bd (bX x k a) := by
  unfold qOk at hq
  unfold bX byF
  split
  · exact bd_0
  · split
    · exact h _ (by omega)
    · split
      · exact hb2_g h _ 10 (by omega)
      · split
        · split
          · exact h _ (by omega)
          · exact h _ (by omega)
        · rename_i h1 h2 h3 h4
          refine bd_or (h _ (by omega)) ?_
          split
          · rcases okX_at hx (t := a) (by omega) with e | ⟨p, hp, e⟩
            · exact absurd e h4
            · rw [e, nI_clamp (by omega)]; exact h _ (by omega)
          · exact bd_0
theorem and_N {a b : Nat} (ha : a < 2147483648) (hb : b < 2147483648) : nI a &&& nI b = nI (a &&& b) := by
  have h : a &&& b < 2147483648 := Nat.lt_of_le_of_lt Nat.and_le_left ha
  apply Int32.toBitVec_inj.mp
  apply BitVec.eq_of_toNat_eq
  rw [Int32.toBitVec_and, BitVec.toNat_and, pk_tn (by omega), pk_tn (by omega), pk_tn (by omega)]
def bc1 (m : Nat) : Nat := m - (m / 2 ^ 1 &&& 1431655765)
def bc2 (m : Nat) : Nat := (m &&& 858993459) + (m / 2 ^ 2 &&& 858993459)
def bc3 (m : Nat) : Nat := (m + m / 2 ^ 4) &&& 252645135
def bc4 (m : Nat) : Nat := m + m / 2 ^ 8
def bc5 (m : Nat) : Nat := (m + m / 2 ^ 16) &&& 63
def bcN (m : Nat) : Nat := bc5 (bc4 (bc3 (bc2 (bc1 m))))
theorem usn {m : Nat} (hm : m < 2147483648) (k : Nat) (hk : (((nI k).toUInt32 &&& Int32.toUInt32 31).toBitVec % 32).toNat = k) : ((nI m).toUInt32 >>> ((nI k).toUInt32 &&& Int32.toUInt32 31)).toInt32 = nI (m / 2 ^ k) := pk_ushrN (by omega) (nI k) k hk
theorem bcF_n {m : Nat} (hm : m < 16384) : bcF (nI m) = nI (bcN m) := by
  have b1 : bc1 m < 16384 := Nat.lt_of_le_of_lt (Nat.sub_le _ _) hm
  have b2 : bc2 (bc1 m) < 32768 := by
    have h1 : bc1 m &&& 858993459 ≤ bc1 m := Nat.and_le_left
    have h2 : bc1 m / 2 ^ 2 &&& 858993459 ≤ bc1 m / 2 ^ 2 := Nat.and_le_left
    have h3 : bc1 m / 2 ^ 2 ≤ bc1 m := Nat.div_le_self _ _
    unfold bc2; omega
  have b3 : bc3 (bc2 (bc1 m)) < 65536 := by
    have h1 : (bc2 (bc1 m) + bc2 (bc1 m) / 2 ^ 4) &&& 252645135 ≤ bc2 (bc1 m) + bc2 (bc1 m) / 2 ^ 4 := Nat.and_le_left
    have h3 : bc2 (bc1 m) / 2 ^ 4 ≤ bc2 (bc1 m) := Nat.div_le_self _ _
    unfold bc3; omega
  have b4 : bc4 (bc3 (bc2 (bc1 m))) < 131072 := by
    have h3 : bc3 (bc2 (bc1 m)) / 2 ^ 8 ≤ bc3 (bc2 (bc1 m)) := Nat.div_le_self _ _
    unfold bc4; omega
  have s1 : nI m - (((nI m).toUInt32 >>> ((nI 1).toUInt32 &&& Int32.toUInt32 31)).toInt32 &&& 1431655765) = nI (bc1 m) := by
    rw [usn (by omega) 1 (by decide), show (1431655765 : Int32) = nI 1431655765 by decide, and_N (by omega) (by decide), pk_sub (Nat.le_trans Nat.and_le_left (Nat.div_le_self _ _))]; rfl
  have s2 : (nI (bc1 m) &&& 858993459) + (((nI (bc1 m)).toUInt32 >>> ((nI 2).toUInt32 &&& Int32.toUInt32 31)).toInt32 &&& 858993459) = nI (bc2 (bc1 m)) := by
    rw [usn (by omega) 2 (by decide), show (858993459 : Int32) = nI 858993459 by decide, and_N (by omega) (by decide), and_N (by omega) (by decide), nI_add]; rfl
  have s3 : (nI (bc2 (bc1 m)) + ((nI (bc2 (bc1 m))).toUInt32 >>> ((nI 4).toUInt32 &&& Int32.toUInt32 31)).toInt32) &&& 252645135 = nI (bc3 (bc2 (bc1 m))) := by
    rw [usn (by omega) 4 (by decide), show (252645135 : Int32) = nI 252645135 by decide, nI_add, and_N (by omega) (by decide)]; rfl
  have s4 : nI (bc3 (bc2 (bc1 m))) + ((nI (bc3 (bc2 (bc1 m)))).toUInt32 >>> ((nI 8).toUInt32 &&& Int32.toUInt32 31)).toInt32 = nI (bc4 (bc3 (bc2 (bc1 m)))) := by
    rw [usn (by omega) 8 (by decide), nI_add]; rfl
  have s5 : (nI (bc4 (bc3 (bc2 (bc1 m)))) + ((nI (bc4 (bc3 (bc2 (bc1 m))))).toUInt32 >>> ((nI 16).toUInt32 &&& Int32.toUInt32 31)).toInt32) &&& nI 63 = nI (bcN m) := by
    rw [usn (by omega) 16 (by decide), nI_add, and_N (by omega) (by decide)]; rfl
  unfold bcF
  dsimp only
  rw [s1, s2, s3, s4, s5]
def bsN (m : Nat) : Nat → Nat
  | 0 => 0
  | k + 1 => bsN m k + m / 2 ^ k % 2
theorem bsF_n {m : Nat} (hm : m < 2147483648) : ∀ k, k ≤ 31 → bsF (nI m) k = nI (bsN m k)
  | 0, _ => rfl
  | k + 1, hk => by
    unfold bsF bsN
    rw [bsF_n hm k (by omega), bit_N hm (by omega), nI_add]
set_option maxRecDepth 100000 in
theorem bc_bs1 : ∀ i, i < 128 → ∀ j, j < 128 → bcN (128 * i + j) = bsN (128 * i + j) 14 := by decide +kernel
theorem bcN_s {m : Nat} (hm : m < 16384) : bcN m = bsN m 14 := by
  have := bc_bs1 (m / 128) (by omega) (m % 128) (by omega)
  rw [Nat.div_add_mod] at this; exact this
theorem bc_bs {v : Int32} (h : bd v) : bcF v = bsF v 14 := by
  obtain ⟨m, hm, rfl⟩ := h
  rw [bcF_n hm, bsF_n (by omega) 14 (by omega), bcN_s hm]
/-! ===== the readings look at the text's beginning alone ===== -/
theorem stp_loc {g g' : Nat → Int32} {s a : Nat} {bv : Int32} {x : Xs} (e1 : g (s * 5 + 1) = g' (s * 5 + 1)) (e2 : g (s * 5 + 2) = g' (s * 5 + 2)) : stp g s a bv x = stp g' s a bv x := by
  unfold stp vbF; rw [e1, e2]
theorem nmP_loc {g g' : Nat → Int32} {s : Nat} {v : Int32} (h : ∀ j, j < 5 * (s + 1) → g j = g' j) : nmP g s v ↔ nmP g' s v := by
  unfold nmP; rw [h _ (by omega), h _ (by omega), h _ (by omega)]
theorem anN_loc {g g' : Nat → Int32} {s t : Nat} (h : ∀ j, j < 5 * (s + 1) → g j = g' j) : anN g s t = anN g' s t := by
  unfold anN; simp only [nmP_loc h]
theorem mmL_loc {g g' : Nat → Int32} {t p : Nat} : ∀ k, (∀ j, j < 5 * k → g j = g' j) → mmL g t p k = mmL g' t p k
  | 0, _ => rfl
  | k + 1, h => by
    unfold mmL; rw [anN_loc h, mmL_loc k (fun j hj => h j (by omega))]
    unfold bi; simp only [nmP_loc h]
theorem mmF_loc {g g' : Nat → Int32} {a s p : Nat} (h : ∀ j, j < 5 * s → g j = g' j) : mmF g a s p = mmF g' a s p := by
  unfold mmF; rw [mmL_loc s h]
theorem gBl_loc {g g' : Nat → Int32} {s a : Nat} (h : ∀ j, j < 5 * (s + 1) → g j = g' j) : ∀ k j, gBl g s a k j = gBl g' s a k j
  | 0, _ => rfl
  | k + 1, j => by
    unfold gBl sbN; rw [gBl_loc h k (j + 1), h _ (by omega), mmF_loc (fun i hi => h i (by omega))]
theorem gWl_loc {g g' : Nat → Int32} {s : Nat} (h : ∀ j, j < 5 * (s + 1) → g j = g' j) : ∀ k a, gWl g s k a = gWl g' s k a
  | 0, _ => rfl
  | k + 1, a => by
    unfold gWl saN; rw [gWl_loc h k (a + 1), gBl_loc h, h (s * 5 + 0) (by omega), h (s * 5 + 1) (by omega), mmF_loc (fun i hi => h i (by omega))]
theorem rdX_loc {g g' : Nat → Int32} : ∀ k, (∀ j, j < 5 * k → g j = g' j) → rdX g k = rdX g' k
  | 0, _ => rfl
  | k + 1, h => by
    unfold rdX goX cds
    rw [rdX_loc k (fun j hj => h j (by omega)), gWl_loc h]
    congr 1
    funext x
    congr 1
    funext c
    exact stp_loc (h _ (by omega)) (h _ (by omega))
theorem wfM_loc {g g' : Nat → Int32} {s : Nat} (h : ∀ j, j < 5 * (s + 1) → g j = g' j) (w : wfM g s) : wfM g' s := by
  unfold wfM okM at *
  rw [← h (s * 5 + 0) (by omega), ← h (s * 5 + 1) (by omega), ← h (s * 5 + 2) (by omega), ← h (s * 5 + 3) (by omega)]; exact w
theorem GT_loc {g g' : Nat → Int32} {n : Nat} (h : ∀ j, j < 5 * n → g j = g' j) (w : GT g n) : GT g' n := by
  refine ⟨w.1, fun s hs => wfM_loc (fun j hj => h j (by omega)) (w.2.1 s hs), fun s hs => ?_⟩
  unfold rdN
  rw [← rdX_loc s (fun j hj => h j (by omega))]; exact w.2.2 s hs

