/-- what reading the first k sentences needs and gives -/
def MR (S : Sx) (k : Nat) : Prop := k ≤ 14 ∧ (∀ s, s < k → wfM (S 81) s) ∧ (∀ s, s < k → (rdL S s).2 ≤ 64) ∧ 1 ≤ (rdL S k).2 ∧ (rdL S k).2 ≤ 64 ∧ ∀ r, r < (rdL S k).2 → okR ((rdL S k).1 83) (104 * r)
theorem dv_toInt {l : Nat} (h : l < 1000) : (dv l).toInt = (l : Int) - 1 := by
  cases l with
  | zero => decide
  | succ k => rw [dv_s, nI_toInt (by omega)]; omega
theorem in_dv {y : Int32} {l : Nat} (h : l < 1000) : inP y (nI 0) (dv l) ↔ (0 ≤ y.toInt ∧ y.toInt < l) := by
  unfold inP; rw [i_le, i_le, t_k 0 (by decide), dv_toInt h]; omega

theorem tAt_out3 {n b s : Nat} {g : Nat → Int32} {y : Int32} (hs : s < 14) (h : ¬ (0 ≤ y.toInt ∧ y.toInt < tl n b g s)) : (-1 : Int32) = tAt n b g (nI s) y := by
  unfold tAt
  rw [nI_clamp (by omega), if_neg]
  omega

set_option maxRecDepth 100000 in
set_option maxHeartbeats 4000000 in
theorem kX6_told {G : Cx} {S : Sx} (hN : 88 ≤ gN G) {x y : Int32} {n b : Nat} (hn : S 80 0 = nI n) (hn14 : n ≤ 14) (hb5 : b < 5) (hL : ∀ s, s ≤ n → s < 14 → S 82 s = nI (tl n b (S 81) s)) : CT G (1) yX6_told cX6_told 3 (some .int) [ra G 80, .int x, .int y] S (tAt n b (S 81) x y) (S) := by
  refine CT_of (by decide) (Nat.le_of_ble_eq_true rfl) (by intro v hv; simp only [List.mem_cons, List.not_mem_nil, or_false] at hv; rcases hv with rfl | rfl | rfl <;> rfl) (fun F X E => ?_)
  have hR := RI_R E
  refine V_iload_n X dX6_told_0 rfl ?_
  refine V_iconst X (nI 0) dX6_told_1 (by decide) ?_
  refine V_aload_n X dX6_told_2 rfl ?_
  refine V_geti X flX6_35 (ltN (by decide) hN) rfl rfl dX6_told_3 ?_
  refine V_top (nI (n)) (by first | exact hn | (rw [(rdL_I S n).2.2]; exact hn)) ?_
  refine V_bipush X (nI 14) dX6_told_6 (by decide) ?_
  refine V_cN_ge X 18 (by omega) (by omega) dX6_told_8 (by decide) (fun h8 => ?_) (fun h8 => ?_)
  · refine V_bipush X (nI 13) dX6_told_18 (by decide) ?_
    refine V_csi X (kX6_in ) cwX6_31 rfl (rm_ok hR (by decide) (by decide)) (Nat.le_of_ble_eq_true rfl) dX6_told_20 ?_
    refine V_if_eq X 51 dX6_told_23 (by decide) (fun h23 => ?_) (fun h23 => ?_)
    · refine V_iconst X (-1) dX6_told_51 (by decide) ?_
      exact V_iret X E dX6_told_52 (tAt_out (by have h23x : ¬ (((0 : Nat) : Int) ≤ x.toInt ∧ x.toInt ≤ ((13 : Nat) : Int)) := (fun q => bi_eq.mp h23 ((in_n (by decide) (by omega)).mpr q)); omega)) rfl
    · obtain ⟨s, hs, rfl⟩ := pf_nat (n := 13) (by omega) ((in_n (by decide) (by omega)).mp (Classical.byContradiction (fun z => h23 (bi_eq.mpr z))))
      have hs14 : s < 14 := by omega
      have hls := hL s (by omega) hs14
      have htl := tl_5 (n := n) (b := b) (by omega) (S 81) s
      refine V_iload_n X dX6_told_26 rfl ?_
      refine V_iconst X (nI 0) dX6_told_27 (by decide) ?_
      refine V_aload_n X dX6_told_28 rfl ?_
      refine V_getr X flX6_13 (ltN (by decide) hN) rfl rfl dX6_told_29 ?_
      refine V_iload_n X dX6_told_32 rfl ?_
      refine V_ialdN X (ltN (by decide) hN) rfl (by omega) (by decide) dX6_told_33 ?_
      refine V_top (nI (tl n b (S 81) s)) (hls) ?_
      refine V_iconst X (nI 1) dX6_told_34 (by decide) ?_
      refine V_isub X dX6_told_35 ?_
      refine V_top (dv (tl n b (S 81) s)) (rfl) ?_
      refine V_csi X (kX6_in ) cwX6_31 rfl (rm_ok hR (by decide) (by decide)) (Nat.le_of_ble_eq_true rfl) dX6_told_36 ?_
      refine V_if_eq X 51 dX6_told_39 (by decide) (fun h39 => ?_) (fun h39 => ?_)
      · refine V_iconst X (-1) dX6_told_51 (by decide) ?_
        exact V_iret X E dX6_told_52 (by first | exact tAt_in (by omega) hs14 hj (by omega) | exact tAt_out3 hs14 (fun q => bi_eq.mp h39 ((in_dv (by omega)).mpr q))) rfl
      · obtain ⟨j, hj, rfl⟩ := rd_nat (n := tl n b (S 81) s) (by omega) ((in_dv (by omega)).mp (Classical.byContradiction (fun z => h39 (bi_eq.mpr z))))
        refine V_aload_n X dX6_told_42 rfl ?_
        refine V_iload_n X dX6_told_43 rfl ?_
        refine V_iload_n X dX6_told_44 rfl ?_
        refine V_cvi X (ltN (by decide) hN) rfl rfl rfl (kX6_signAt hN (by omega) (by omega)) cwX6_39 rfl (rm_ok hR (by decide) (by decide)) (Nat.le_of_ble_eq_true rfl) dX6_told_45 ?_
        refine V_goto X 52 dX6_told_48 (by decide) ?_
        exact V_iret X E dX6_told_52 (by first | exact tAt_in (by omega) hs14 hj (by omega) | exact tAt_out3 hs14 (fun q => bi_eq.mp h39 ((in_dv (by omega)).mpr q))) rfl
  · refine V_aload_n X dX6_told_11 rfl ?_
    refine V_geti X flX6_35 (ltN (by decide) hN) rfl rfl dX6_told_12 ?_
    refine V_top (nI (n)) (by first | exact hn | (rw [(rdL_I S n).2.2]; exact hn)) ?_
    refine V_goto X 20 dX6_told_15 (by decide) ?_
    refine V_csi X (kX6_in ) cwX6_31 rfl (rm_ok hR (by decide) (by decide)) (Nat.le_of_ble_eq_true rfl) dX6_told_20 ?_
    refine V_if_eq X 51 dX6_told_23 (by decide) (fun h23 => ?_) (fun h23 => ?_)
    · refine V_iconst X (-1) dX6_told_51 (by decide) ?_
      exact V_iret X E dX6_told_52 (tAt_out (by have h23x : ¬ (((0 : Nat) : Int) ≤ x.toInt ∧ x.toInt ≤ ((n : Nat) : Int)) := (fun q => bi_eq.mp h23 ((in_n (by decide) (by omega)).mpr q)); omega)) rfl
    · obtain ⟨s, hs, rfl⟩ := pf_nat (n := n) (by omega) ((in_n (by decide) (by omega)).mp (Classical.byContradiction (fun z => h23 (bi_eq.mpr z))))
      have hs14 : s < 14 := by omega
      have hls := hL s (by omega) hs14
      have htl := tl_5 (n := n) (b := b) (by omega) (S 81) s
      refine V_iload_n X dX6_told_26 rfl ?_
      refine V_iconst X (nI 0) dX6_told_27 (by decide) ?_
      refine V_aload_n X dX6_told_28 rfl ?_
      refine V_getr X flX6_13 (ltN (by decide) hN) rfl rfl dX6_told_29 ?_
      refine V_iload_n X dX6_told_32 rfl ?_
      refine V_ialdN X (ltN (by decide) hN) rfl (by omega) (by decide) dX6_told_33 ?_
      refine V_top (nI (tl n b (S 81) s)) (hls) ?_
      refine V_iconst X (nI 1) dX6_told_34 (by decide) ?_
      refine V_isub X dX6_told_35 ?_
      refine V_top (dv (tl n b (S 81) s)) (rfl) ?_
      refine V_csi X (kX6_in ) cwX6_31 rfl (rm_ok hR (by decide) (by decide)) (Nat.le_of_ble_eq_true rfl) dX6_told_36 ?_
      refine V_if_eq X 51 dX6_told_39 (by decide) (fun h39 => ?_) (fun h39 => ?_)
      · refine V_iconst X (-1) dX6_told_51 (by decide) ?_
        exact V_iret X E dX6_told_52 (by first | exact tAt_in (by omega) hs14 hj (by omega) | exact tAt_out3 hs14 (fun q => bi_eq.mp h39 ((in_dv (by omega)).mpr q))) rfl
      · obtain ⟨j, hj, rfl⟩ := rd_nat (n := tl n b (S 81) s) (by omega) ((in_dv (by omega)).mp (Classical.byContradiction (fun z => h39 (bi_eq.mpr z))))
        refine V_aload_n X dX6_told_42 rfl ?_
        refine V_iload_n X dX6_told_43 rfl ?_
        refine V_iload_n X dX6_told_44 rfl ?_
        refine V_cvi X (ltN (by decide) hN) rfl rfl rfl (kX6_signAt hN (by omega) (by omega)) cwX6_39 rfl (rm_ok hR (by decide) (by decide)) (Nat.le_of_ble_eq_true rfl) dX6_told_45 ?_
        refine V_goto X 52 dX6_told_48 (by decide) ?_
        exact V_iret X E dX6_told_52 (by first | exact tAt_in (by omega) hs14 hj (by omega) | exact tAt_out3 hs14 (fun q => bi_eq.mp h39 ((in_dv (by omega)).mpr q))) rfl

set_option maxRecDepth 100000 in
set_option maxHeartbeats 4000000 in
theorem kX6_back {G : Cx} {S : Sx} (hN : 88 ≤ gN G) {n b : Nat} (hn : S 80 0 = nI n) (hn14 : n ≤ 14) (hb5 : b < 5) (hb : n < 14 → S 82 n = nI b) (hb0 : n = 14 → b = 0) : CT G (0) yX6_back cX6_back 1 (some .boolean) [ra G 80] S (bi (0 < b ∨ 0 < n)) (if 0 < b then st S 82 n (nI 0) else if 0 < n then st (st S 80 0 (nI (n - 1))) 82 (n - 1) (nI 0) else S) := by
  refine CT_of (by decide) (Nat.le_of_ble_eq_true rfl) (by intro v hv; simp only [List.mem_cons, List.not_mem_nil, or_false] at hv; rcases hv with rfl <;> rfl) (fun F X E => ?_)
  have hR := RI_R E
  refine V_aload_n X dX6_back_0 rfl ?_
  refine V_geti X flX6_35 (ltN (by decide) hN) rfl rfl dX6_back_1 ?_
  refine V_top (nI (n)) (hn) ?_
  refine V_bipush X (nI 14) dX6_back_4 (by decide) ?_
  refine V_cN_ge X 33 (by omega) (by omega) dX6_back_6 (by decide) (fun h6 => ?_) (fun h6 => ?_)
  · refine V_aload_n X dX6_back_33 rfl ?_
    refine V_geti X flX6_35 (ltN (by decide) hN) rfl rfl dX6_back_34 ?_
    refine V_top (nI (n)) (hn) ?_
    refine V_iN_ne X 42 (by omega) dX6_back_37 (by decide) (fun h37 => ?_) (fun h37 => ?_)
    · refine V_aload_n X dX6_back_42 rfl ?_
      refine V_dupr X dX6_back_43 ?_
      refine V_geti X flX6_35 (ltN (by decide) hN) rfl rfl dX6_back_44 ?_
      refine V_top (nI (n)) (hn) ?_
      refine V_iconst X (nI 1) dX6_back_47 (by decide) ?_
      refine V_subN X dX6_back_48 (by omega) ?_
      refine V_puti X fpX6_35 (ltN (by decide) hN) rfl rfl dX6_back_49 ?_
      refine V_aload_n X dX6_back_52 rfl ?_
      refine V_getr X flX6_13 (ltN (by decide) hN) rfl rfl dX6_back_53 ?_
      refine V_aload_n X dX6_back_56 rfl ?_
      refine V_geti X flX6_35 (ltN (by decide) hN) rfl rfl dX6_back_57 ?_
      refine V_top (nI (n - 1)) (by rw [st_at, if_pos ⟨rfl, rfl⟩]) ?_
      refine V_iconst X (nI 0) dX6_back_60 (by decide) ?_
      refine V_iastN X (ltN (by decide) hN) rfl (by omega) (by decide) dX6_back_61 ?_
      refine V_iconst X (nI 1) dX6_back_62 (by decide) ?_
      exact V_zret X E dX6_back_63 (by first | exact Or.inl rfl | exact Or.inr rfl | exact bi_01 _) (by first | exact bi_t (by omega) | exact bi_f (by omega)) (by first | (rw [if_pos (by omega)]; done) | (rw [if_neg (by omega), if_pos (by omega)]; done) | (rw [if_neg (by omega), if_neg (by omega)]; done))
    · refine V_iconst X (nI 0) dX6_back_40 (by decide) ?_
      exact V_zret X E dX6_back_41 (by first | exact Or.inl rfl | exact Or.inr rfl | exact bi_01 _) (by first | exact bi_t (by omega) | exact bi_f (by omega)) (by first | (rw [if_pos (by omega)]; done) | (rw [if_neg (by omega), if_pos (by omega)]; done) | (rw [if_neg (by omega), if_neg (by omega)]; done))
  · refine V_aload_n X dX6_back_9 rfl ?_
    refine V_getr X flX6_13 (ltN (by decide) hN) rfl rfl dX6_back_10 ?_
    refine V_aload_n X dX6_back_13 rfl ?_
    refine V_geti X flX6_35 (ltN (by decide) hN) rfl rfl dX6_back_14 ?_
    refine V_top (nI (n)) (hn) ?_
    refine V_ialdN X (ltN (by decide) hN) rfl (by omega) (by decide) dX6_back_17 ?_
    refine V_top (nI (b)) (hb h6) ?_
    refine V_iN_le X 33 (by omega) dX6_back_18 (by decide) (fun h18 => ?_) (fun h18 => ?_)
    · refine V_aload_n X dX6_back_33 rfl ?_
      refine V_geti X flX6_35 (ltN (by decide) hN) rfl rfl dX6_back_34 ?_
      refine V_top (nI (n)) (hn) ?_
      refine V_iN_ne X 42 (by omega) dX6_back_37 (by decide) (fun h37 => ?_) (fun h37 => ?_)
      · refine V_aload_n X dX6_back_42 rfl ?_
        refine V_dupr X dX6_back_43 ?_
        refine V_geti X flX6_35 (ltN (by decide) hN) rfl rfl dX6_back_44 ?_
        refine V_top (nI (n)) (hn) ?_
        refine V_iconst X (nI 1) dX6_back_47 (by decide) ?_
        refine V_subN X dX6_back_48 (by omega) ?_
        refine V_puti X fpX6_35 (ltN (by decide) hN) rfl rfl dX6_back_49 ?_
        refine V_aload_n X dX6_back_52 rfl ?_
        refine V_getr X flX6_13 (ltN (by decide) hN) rfl rfl dX6_back_53 ?_
        refine V_aload_n X dX6_back_56 rfl ?_
        refine V_geti X flX6_35 (ltN (by decide) hN) rfl rfl dX6_back_57 ?_
        refine V_top (nI (n - 1)) (by rw [st_at, if_pos ⟨rfl, rfl⟩]) ?_
        refine V_iconst X (nI 0) dX6_back_60 (by decide) ?_
        refine V_iastN X (ltN (by decide) hN) rfl (by omega) (by decide) dX6_back_61 ?_
        refine V_iconst X (nI 1) dX6_back_62 (by decide) ?_
        exact V_zret X E dX6_back_63 (by first | exact Or.inl rfl | exact Or.inr rfl | exact bi_01 _) (by first | exact bi_t (by omega) | exact bi_f (by omega)) (by first | (rw [if_pos (by omega)]; done) | (rw [if_neg (by omega), if_pos (by omega)]; done) | (rw [if_neg (by omega), if_neg (by omega)]; done))
      · refine V_iconst X (nI 0) dX6_back_40 (by decide) ?_
        exact V_zret X E dX6_back_41 (by first | exact Or.inl rfl | exact Or.inr rfl | exact bi_01 _) (by first | exact bi_t (by omega) | exact bi_f (by omega)) (by first | (rw [if_pos (by omega)]; done) | (rw [if_neg (by omega), if_pos (by omega)]; done) | (rw [if_neg (by omega), if_neg (by omega)]; done))
    · refine V_aload_n X dX6_back_21 rfl ?_
      refine V_getr X flX6_13 (ltN (by decide) hN) rfl rfl dX6_back_22 ?_
      refine V_aload_n X dX6_back_25 rfl ?_
      refine V_geti X flX6_35 (ltN (by decide) hN) rfl rfl dX6_back_26 ?_
      refine V_top (nI (n)) (hn) ?_
      refine V_iconst X (nI 0) dX6_back_29 (by decide) ?_
      refine V_iastN X (ltN (by decide) hN) rfl (by omega) (by decide) dX6_back_30 ?_
      refine V_iconst X (nI 1) dX6_back_31 (by decide) ?_
      exact V_zret X E dX6_back_32 (by first | exact Or.inl rfl | exact Or.inr rfl | exact bi_01 _) (by first | exact bi_t (by omega) | exact bi_f (by omega)) (by first | (rw [if_pos (by omega)]; done) | (rw [if_neg (by omega), if_pos (by omega)]; done) | (rw [if_neg (by omega), if_neg (by omega)]; done))

set_option maxRecDepth 100000 in
set_option maxHeartbeats 4000000 in
theorem kX6_sign_no {G : Cx} {S : Sx} (hN : 88 ≤ gN G) {x : Int32} {n b : Nat} (hn : S 80 0 = nI n) (hn14 : n ≤ 14) (hb5 : b < 5) (hb : n < 14 → S 82 n = nI b) (hf : fitF n b (S 81) x = 0) : CT G (5) yX6_sign cX6_sign 2 (some .boolean) [ra G 80, .int x] S (nI 0) (S) := by
  refine CT_of (by decide) (Nat.le_of_ble_eq_true rfl) (by intro v hv; simp only [List.mem_cons, List.not_mem_nil, or_false] at hv; rcases hv with rfl | rfl <;> rfl) (fun F X E => ?_)
  have hR := RI_R E
  refine V_aload_n X dX6_sign_0 rfl ?_
  refine V_geti X flX6_35 (ltN (by decide) hN) rfl rfl dX6_sign_1 ?_
  refine V_top (nI (n)) (hn) ?_
  refine V_bipush X (nI 14) dX6_sign_4 (by decide) ?_
  refine V_cN_eq X 17 (by omega) (by omega) dX6_sign_6 (by decide) (fun h6 => ?_) (fun h6 => ?_)
  · refine V_iconst X (nI 0) dX6_sign_17 (by decide) ?_
    exact V_zret X E dX6_sign_18 (by first | exact Or.inl rfl | exact Or.inr rfl | exact bi_01 _) rfl rfl
  · refine V_aload_n X dX6_sign_9 rfl ?_
    refine V_iload_n X dX6_sign_10 rfl ?_
    refine V_cvi X (ltN (by decide) hN) rfl rfl rfl (kX6_canStand hN hn (hb (by omega)) (by omega) hb5) cwX6_47 rfl (rm_ok hR (by decide) (by decide)) (Nat.le_of_ble_eq_true rfl) dX6_sign_11 ?_
    refine V_if_ne X 19 dX6_sign_14 (by decide) (fun h14 => ?_) (fun h14 => ?_)
    · exact absurd hf h14
    · refine V_iconst X (nI 0) dX6_sign_17 (by decide) ?_
      exact V_zret X E dX6_sign_18 (by first | exact Or.inl rfl | exact Or.inr rfl | exact bi_01 _) rfl rfl

def adM (S : Sx) (n b : Nat) (x : Int32) : Sx := st (st S 81 (5 * n + b) x) 82 n (nI (b + 1))
theorem adM_ne {S : Sx} {n b q : Nat} {x : Int32} (h1 : q ≠ 81) (h2 : q ≠ 82) : adM S n b x q = S q := by unfold adM; rw [st_ne h2, st_ne h1]
set_option maxRecDepth 100000 in
set_option maxHeartbeats 4000000 in
theorem kX6_sign_go {G : Cx} {S : Sx} (hN : 88 ≤ gN G) {x : Int32} {n b : Nat} (hn : S 80 0 = nI n) (hn13 : n < 14) (hb5 : b < 5) (hb : S 82 n = nI b) (hf : fitF n b (S 81) x ≠ 0) (hx : x ≠ nI 50) : CT G (5) yX6_sign cX6_sign 2 (some .boolean) [ra G 80, .int x] S (nI 1) (adM S n b x) := by
  refine CT_of (by decide) (Nat.le_of_ble_eq_true rfl) (by intro v hv; simp only [List.mem_cons, List.not_mem_nil, or_false] at hv; rcases hv with rfl | rfl <;> rfl) (fun F X E => ?_)
  have hR := RI_R E
  refine V_aload_n X dX6_sign_0 rfl ?_
  refine V_geti X flX6_35 (ltN (by decide) hN) rfl rfl dX6_sign_1 ?_
  refine V_top (nI (n)) (by first | exact hn | (rw [st_ne (by decide)]; exact hn)) ?_
  refine V_bipush X (nI 14) dX6_sign_4 (by decide) ?_
  refine V_cN_eq X 17 (by omega) (by omega) dX6_sign_6 (by decide) (fun h6 => ?_) (fun h6 => ?_)
  · omega
  · refine V_aload_n X dX6_sign_9 rfl ?_
    refine V_iload_n X dX6_sign_10 rfl ?_
    refine V_cvi X (ltN (by decide) hN) rfl rfl rfl (kX6_canStand hN hn hb hn13 hb5) cwX6_47 rfl (rm_ok hR (by decide) (by decide)) (Nat.le_of_ble_eq_true rfl) dX6_sign_11 ?_
    refine V_if_ne X 19 dX6_sign_14 (by decide) (fun h14 => ?_) (fun h14 => ?_)
    · refine V_aload_n X dX6_sign_19 rfl ?_
      refine V_getr X flX6_9 (ltN (by decide) hN) rfl rfl dX6_sign_20 ?_
      refine V_iconst X (nI 5) dX6_sign_23 (by decide) ?_
      refine V_aload_n X dX6_sign_24 rfl ?_
      refine V_geti X flX6_35 (ltN (by decide) hN) rfl rfl dX6_sign_25 ?_
      refine V_top (nI (n)) (by first | exact hn | (rw [st_ne (by decide)]; exact hn)) ?_
      refine V_mulN X dX6_sign_28 ?_
      refine V_aload_n X dX6_sign_29 rfl ?_
      refine V_getr X flX6_13 (ltN (by decide) hN) rfl rfl dX6_sign_30 ?_
      refine V_aload_n X dX6_sign_33 rfl ?_
      refine V_geti X flX6_35 (ltN (by decide) hN) rfl rfl dX6_sign_34 ?_
      refine V_top (nI (n)) (by first | exact hn | (rw [st_ne (by decide)]; exact hn)) ?_
      refine V_ialdN X (ltN (by decide) hN) rfl (by omega) (by decide) dX6_sign_37 ?_
      refine V_top (nI (b)) (hb) ?_
      refine V_addN X dX6_sign_38 ?_
      refine V_iload_n X dX6_sign_39 rfl ?_
      refine V_iastN X (ltN (by decide) hN) rfl (by omega) (by decide) dX6_sign_40 ?_
      refine V_aload_n X dX6_sign_41 rfl ?_
      refine V_getr X flX6_13 (ltN (by decide) hN) rfl rfl dX6_sign_42 ?_
      refine V_aload_n X dX6_sign_45 rfl ?_
      refine V_geti X flX6_35 (ltN (by decide) hN) rfl rfl dX6_sign_46 ?_
      refine V_top (nI (n)) (by first | exact hn | (rw [st_ne (by decide)]; exact hn)) ?_
      refine V_dup2 X dX6_sign_49 ?_
      refine V_ialdN X (ltN (by decide) hN) rfl (by omega) (by decide) dX6_sign_50 ?_
      refine V_top (nI (b)) (by rw [st_ne (by decide)]; exact hb) ?_
      refine V_iconst X (nI 1) dX6_sign_51 (by decide) ?_
      refine V_addN X dX6_sign_52 ?_
      refine V_iastN X (ltN (by decide) hN) rfl (by omega) (by decide) dX6_sign_53 ?_
      refine V_iload_n X dX6_sign_54 rfl ?_
      refine V_bipush X (nI 50) dX6_sign_55 (by decide) ?_
      refine V_icmp_eq X 62 dX6_sign_57 (by decide) (fun h57 => ?_) (fun h57 => ?_)
      · exact absurd h57 hx
      · refine V_iconst X (nI 1) dX6_sign_60 (by decide) ?_
        exact V_zret X E dX6_sign_61 (by first | exact Or.inl rfl | exact Or.inr rfl | exact bi_01 _) rfl rfl
    · exact absurd (ts_nn h14) hf

def mS2 (S : Sx) (n b : Nat) : Sx := st (adM S n b (nI 50)) 80 0 (nI (n + 1))
def mS3 (S : Sx) (n b : Nat) : Sx := if 1 ≤ (rdL (mS2 S n b) (n + 1)).2 ∧ (rdL (mS2 S n b) (n + 1)).2 ≤ 64 then (if n + 1 < 14 then st (rdL (mS2 S n b) (n + 1)).1 82 (n + 1) (nI 0) else (rdL (mS2 S n b) (n + 1)).1) else st (st (rdL (mS2 S n b) (n + 1)).1 80 0 (nI n)) 82 n (nI 0)
theorem mS2_n {S : Sx} {n b : Nat} : (rdL (mS2 S n b) (n + 1)).1 80 0 = nI (n + 1) := by rw [(rdL_I _ _).2.2]; unfold mS2; rw [st_at, if_pos ⟨rfl, rfl⟩]
theorem in_m {m : Nat} (h : m < 1000) : inP (nI m) (nI 1) (nI 64) ↔ (1 ≤ m ∧ m ≤ 64) := by unfold inP; rw [nI_leI (by decide) (by omega), nI_leI (by omega) (by decide)]
set_option maxRecDepth 100000 in
set_option maxHeartbeats 4000000 in
theorem kX6_sign_end {G : Cx} {S : Sx} (hN : 88 ≤ gN G) {n b : Nat} (hn : S 80 0 = nI n) (hn13 : n < 14) (hb5 : b < 5) (hb : S 82 n = nI b) (hf : fitF n b (S 81) (nI 50) ≠ 0) (hwf : ∀ s, s < n + 1 → wfM (mS2 S n b 81) s) (hM : ∀ s, s < n + 1 → (rdL (mS2 S n b) s).2 ≤ 64) (h256 : (rdL (mS2 S n b) (n + 1)).2 ≤ 256) : CT G (5) yX6_sign cX6_sign 2 (some .boolean) [ra G 80, .int (nI 50)] S (bi (1 ≤ (rdL (mS2 S n b) (n + 1)).2 ∧ (rdL (mS2 S n b) (n + 1)).2 ≤ 64)) (mS3 S n b) := by
  refine CT_of (by decide) (Nat.le_of_ble_eq_true rfl) (by intro v hv; simp only [List.mem_cons, List.not_mem_nil, or_false] at hv; rcases hv with rfl | rfl <;> rfl) (fun F X E => ?_)
  have hR := RI_R E
  refine V_aload_n X dX6_sign_0 rfl ?_
  refine V_geti X flX6_35 (ltN (by decide) hN) rfl rfl dX6_sign_1 ?_
  refine V_top (nI (n)) (by first | exact hn | (rw [st_ne (by decide)]; exact hn)) ?_
  refine V_bipush X (nI 14) dX6_sign_4 (by decide) ?_
  refine V_cN_eq X 17 (by omega) (by omega) dX6_sign_6 (by decide) (fun h6 => ?_) (fun h6 => ?_)
  · omega
  · refine V_aload_n X dX6_sign_9 rfl ?_
    refine V_iload_n X dX6_sign_10 rfl ?_
    refine V_cvi X (ltN (by decide) hN) rfl rfl rfl (kX6_canStand hN hn hb hn13 hb5) cwX6_47 rfl (rm_ok hR (by decide) (by decide)) (Nat.le_of_ble_eq_true rfl) dX6_sign_11 ?_
    refine V_if_ne X 19 dX6_sign_14 (by decide) (fun h14 => ?_) (fun h14 => ?_)
    · refine V_aload_n X dX6_sign_19 rfl ?_
      refine V_getr X flX6_9 (ltN (by decide) hN) rfl rfl dX6_sign_20 ?_
      refine V_iconst X (nI 5) dX6_sign_23 (by decide) ?_
      refine V_aload_n X dX6_sign_24 rfl ?_
      refine V_geti X flX6_35 (ltN (by decide) hN) rfl rfl dX6_sign_25 ?_
      refine V_top (nI (n)) (by first | exact hn | (rw [st_ne (by decide)]; exact hn)) ?_
      refine V_mulN X dX6_sign_28 ?_
      refine V_aload_n X dX6_sign_29 rfl ?_
      refine V_getr X flX6_13 (ltN (by decide) hN) rfl rfl dX6_sign_30 ?_
      refine V_aload_n X dX6_sign_33 rfl ?_
      refine V_geti X flX6_35 (ltN (by decide) hN) rfl rfl dX6_sign_34 ?_
      refine V_top (nI (n)) (by first | exact hn | (rw [st_ne (by decide)]; exact hn)) ?_
      refine V_ialdN X (ltN (by decide) hN) rfl (by omega) (by decide) dX6_sign_37 ?_
      refine V_top (nI (b)) (hb) ?_
      refine V_addN X dX6_sign_38 ?_
      refine V_iload_n X dX6_sign_39 rfl ?_
      refine V_iastN X (ltN (by decide) hN) rfl (by omega) (by decide) dX6_sign_40 ?_
      refine V_aload_n X dX6_sign_41 rfl ?_
      refine V_getr X flX6_13 (ltN (by decide) hN) rfl rfl dX6_sign_42 ?_
      refine V_aload_n X dX6_sign_45 rfl ?_
      refine V_geti X flX6_35 (ltN (by decide) hN) rfl rfl dX6_sign_46 ?_
      refine V_top (nI (n)) (by first | exact hn | (rw [st_ne (by decide)]; exact hn)) ?_
      refine V_dup2 X dX6_sign_49 ?_
      refine V_ialdN X (ltN (by decide) hN) rfl (by omega) (by decide) dX6_sign_50 ?_
      refine V_top (nI (b)) (by rw [st_ne (by decide)]; exact hb) ?_
      refine V_iconst X (nI 1) dX6_sign_51 (by decide) ?_
      refine V_addN X dX6_sign_52 ?_
      refine V_iastN X (ltN (by decide) hN) rfl (by omega) (by decide) dX6_sign_53 ?_
      refine V_iload_n X dX6_sign_54 rfl ?_
      refine V_bipush X (nI 50) dX6_sign_55 (by decide) ?_
      refine V_icmp_eq X 62 dX6_sign_57 (by decide) (fun h57 => ?_) (fun h57 => ?_)
      · refine V_aload_n X dX6_sign_62 rfl ?_
        refine V_dupr X dX6_sign_63 ?_
        refine V_geti X flX6_35 (ltN (by decide) hN) rfl rfl dX6_sign_64 ?_
        refine V_top (nI (n)) (by first | exact hn | (show adM S n b (nI 50) 80 0 = nI n; rw [adM_ne (by decide) (by decide)]; exact hn)) ?_
        refine V_iconst X (nI 1) dX6_sign_67 (by decide) ?_
        refine V_addN X dX6_sign_68 ?_
        refine V_puti X fpX6_35 (ltN (by decide) hN) rfl rfl dX6_sign_69 ?_
        refine V_aload_n X dX6_sign_72 rfl ?_
        refine V_aload_n X dX6_sign_73 rfl ?_
        refine V_geti X flX6_35 (ltN (by decide) hN) rfl rfl dX6_sign_74 ?_
        refine V_top (nI (n + 1)) (by first | exact mS2_n | rfl | (show mS2 S n b 80 0 = nI (n + 1); unfold mS2; rw [st_at, if_pos ⟨rfl, rfl⟩])) ?_
        refine V_cvv X (ltN (by decide) hN) rfl rfl rfl (kX6_reads hN (by omega) hwf hM) cwX6_50 rfl (rm_ok hR (by decide) (by decide)) (Nat.le_of_ble_eq_true rfl) dX6_sign_77 ?_
        refine V_aload_n X dX6_sign_80 rfl ?_
        refine V_geti X flX6_54 (ltN (by decide) hN) rfl rfl dX6_sign_81 ?_
        refine V_top (nI ((rdL (mS2 S n b) (n + 1)).2)) ((rdL_I (mS2 S n b) (n + 1)).2.1) ?_
        refine V_iconst X (nI 1) dX6_sign_84 (by decide) ?_
        refine V_bipush X (nI 64) dX6_sign_85 (by decide) ?_
        refine V_csi X (kX6_in ) cwX6_31 rfl (rm_ok hR (by decide) (by decide)) (Nat.le_of_ble_eq_true rfl) dX6_sign_87 ?_
        refine V_if_eq X 114 dX6_sign_90 (by decide) (fun h90 => ?_) (fun h90 => ?_)
        · refine V_aload_n X dX6_sign_114 rfl ?_
          refine V_dupr X dX6_sign_115 ?_
          refine V_geti X flX6_35 (ltN (by decide) hN) rfl rfl dX6_sign_116 ?_
          refine V_top (nI (n + 1)) (mS2_n) ?_
          refine V_iconst X (nI 1) dX6_sign_119 (by decide) ?_
          refine V_subN X dX6_sign_120 (by omega) ?_
          refine V_top (nI (n)) (congrArg nI (by omega)) ?_
          refine V_puti X fpX6_35 (ltN (by decide) hN) rfl rfl dX6_sign_121 ?_
          refine V_aload_n X dX6_sign_124 rfl ?_
          refine V_getr X flX6_13 (ltN (by decide) hN) rfl rfl dX6_sign_125 ?_
          refine V_aload_n X dX6_sign_128 rfl ?_
          refine V_geti X flX6_35 (ltN (by decide) hN) rfl rfl dX6_sign_129 ?_
          refine V_top (nI (n)) (by rw [st_at, if_pos ⟨rfl, rfl⟩]) ?_
          refine V_iconst X (nI 0) dX6_sign_132 (by decide) ?_
          refine V_iastN X (ltN (by decide) hN) rfl (by omega) (by decide) dX6_sign_133 ?_
          refine V_iconst X (nI 0) dX6_sign_134 (by decide) ?_
          exact V_zret X E dX6_sign_135 (by first | exact Or.inl rfl | exact Or.inr rfl | exact bi_01 _) (bi_f (fun q => bi_eq.mp h90 ((in_m (by omega)).mpr q))) (by unfold mS3; rw [if_neg (fun q => bi_eq.mp h90 ((in_m (by omega)).mpr q))]; rfl)
        · refine V_aload_n X dX6_sign_93 rfl ?_
          refine V_geti X flX6_35 (ltN (by decide) hN) rfl rfl dX6_sign_94 ?_
          refine V_top (nI (n + 1)) (mS2_n) ?_
          refine V_bipush X (nI 14) dX6_sign_97 (by decide) ?_
          refine V_cN_ge X 112 (by omega) (by omega) dX6_sign_99 (by decide) (fun h99 => ?_) (fun h99 => ?_)
          · refine V_iconst X (nI 1) dX6_sign_112 (by decide) ?_
            exact V_zret X E dX6_sign_113 (by first | exact Or.inl rfl | exact Or.inr rfl | exact bi_01 _) (bi_t (Classical.byContradiction (fun z => h90 (bi_eq.mpr (fun y => z ((in_m (by omega)).mp y)))))) (by unfold mS3; rw [if_pos (Classical.byContradiction (fun z => h90 (bi_eq.mpr (fun y => z ((in_m (by omega)).mp y)))))]; first | (rw [if_pos h99]; rfl) | (rw [if_neg (by omega)]; rfl))
          · refine V_aload_n X dX6_sign_102 rfl ?_
            refine V_getr X flX6_13 (ltN (by decide) hN) rfl rfl dX6_sign_103 ?_
            refine V_aload_n X dX6_sign_106 rfl ?_
            refine V_geti X flX6_35 (ltN (by decide) hN) rfl rfl dX6_sign_107 ?_
            refine V_top (nI (n + 1)) (mS2_n) ?_
            refine V_iconst X (nI 0) dX6_sign_110 (by decide) ?_
            refine V_iastN X (ltN (by decide) hN) rfl (by omega) (by decide) dX6_sign_111 ?_
            refine V_iconst X (nI 1) dX6_sign_112 (by decide) ?_
            exact V_zret X E dX6_sign_113 (by first | exact Or.inl rfl | exact Or.inr rfl | exact bi_01 _) (bi_t (Classical.byContradiction (fun z => h90 (bi_eq.mpr (fun y => z ((in_m (by omega)).mp y)))))) (by unfold mS3; rw [if_pos (Classical.byContradiction (fun z => h90 (bi_eq.mpr (fun y => z ((in_m (by omega)).mp y)))))]; first | (rw [if_pos h99]; rfl) | (rw [if_neg (by omega)]; rfl))
      · exact absurd rfl h57
    · exact absurd (ts_nn h14) hf

set_option maxRecDepth 100000 in
set_option maxHeartbeats 4000000 in
theorem kX6_readings_no {G : Cx} {S : Sx} (hN : 88 ≤ gN G) {n : Nat} (hn : S 80 0 = nI n) (hn14 : n ≤ 14) {x : Int32} (hno : ¬ pfP n x) : CT G (5) yX6_readings cX6_readings 2 (some .int) [ra G 80, .int x] S (-1) (S) := by
  refine CT_of (by decide) (Nat.le_of_ble_eq_true rfl) (by intro v hv; simp only [List.mem_cons, List.not_mem_nil, or_false] at hv; rcases hv with rfl | rfl <;> rfl) (fun F X E => ?_)
  have hR := RI_R E
  refine V_iload_n X dX6_readings_0 rfl ?_
  refine V_iconst X (nI 0) dX6_readings_1 (by decide) ?_
  refine V_aload_n X dX6_readings_2 rfl ?_
  refine V_geti X flX6_35 (ltN (by decide) hN) rfl rfl dX6_readings_3 ?_
  refine V_top (nI (n)) (hn) ?_
  refine V_csi X (kX6_in ) cwX6_31 rfl (rm_ok hR (by decide) (by decide)) (Nat.le_of_ble_eq_true rfl) dX6_readings_6 ?_
  refine V_if_ne X 14 dX6_readings_9 (by decide) (fun h9 => ?_) (fun h9 => ?_)
  · exact absurd ((in_n (by decide) (by omega)).mp (bi_ne.mp h9)) hno
  · refine V_iconst X (-1) dX6_readings_12 (by decide) ?_
    exact V_iret X E dX6_readings_13 rfl rfl

theorem in_k {k n : Nat} (hn : n < 1000) (hk : k ≤ n) : inP (nI k) (nI 0) (nI n) := ⟨nI_le (by omega) (by omega), nI_le hk (by omega)⟩
set_option maxRecDepth 100000 in
set_option maxHeartbeats 4000000 in
theorem kX6_readings {G : Cx} {S : Sx} (hN : 88 ≤ gN G) {n : Nat} (hn : S 80 0 = nI n) (hn14 : n ≤ 14) {k : Nat} (hk : k ≤ n) (hMR : MR S k) : CT G (5) yX6_readings cX6_readings 2 (some .int) [ra G 80, .int (nI k)] S (nI (rdL S k).2) ((rdL S k).1) := by
  refine CT_of (by decide) (Nat.le_of_ble_eq_true rfl) (by intro v hv; simp only [List.mem_cons, List.not_mem_nil, or_false] at hv; rcases hv with rfl | rfl <;> rfl) (fun F X E => ?_)
  have hR := RI_R E
  refine V_iload_n X dX6_readings_0 rfl ?_
  refine V_iconst X (nI 0) dX6_readings_1 (by decide) ?_
  refine V_aload_n X dX6_readings_2 rfl ?_
  refine V_geti X flX6_35 (ltN (by decide) hN) rfl rfl dX6_readings_3 ?_
  refine V_top (nI (n)) (hn) ?_
  refine V_csi X (kX6_in ) cwX6_31 rfl (rm_ok hR (by decide) (by decide)) (Nat.le_of_ble_eq_true rfl) dX6_readings_6 ?_
  refine V_if_ne X 14 dX6_readings_9 (by decide) (fun h9 => ?_) (fun h9 => ?_)
  · refine V_aload_n X dX6_readings_14 rfl ?_
    refine V_iload_n X dX6_readings_15 rfl ?_
    refine V_cvv X (ltN (by decide) hN) rfl rfl rfl (kX6_reads hN hMR.1 hMR.2.1 hMR.2.2.1) cwX6_50 rfl (rm_ok hR (by decide) (by decide)) (Nat.le_of_ble_eq_true rfl) dX6_readings_16 ?_
    refine V_aload_n X dX6_readings_19 rfl ?_
    refine V_geti X flX6_54 (ltN (by decide) hN) rfl rfl dX6_readings_20 ?_
    refine V_top (nI ((rdL S k).2)) ((rdL_I S k).2.1) ?_
    exact V_iret X E dX6_readings_23 rfl rfl
  · exact absurd (bi_eq.mp (ts_nn h9)) (fun q => q (in_k (by omega) hk))

set_option maxRecDepth 100000 in
set_option maxHeartbeats 4000000 in
theorem kX6_means_no1 {G : Cx} {S : Sx} (hN : 88 ≤ gN G) {n : Nat} (hn : S 80 0 = nI n) (hn14 : n ≤ 14) {x w r : Int32} (hno : ¬ ((0 ≤ x.toInt ∧ x.toInt < n) ∧ (w = nI 0 ∨ w = nI 1) ∧ 0 ≤ r.toInt)) : CT G (5) yX6_means cX6_means 4 (some .int) [ra G 80, .int x, .int w, .int r] S (-1) (S) := by
  refine CT_of (by decide) (Nat.le_of_ble_eq_true rfl) (by intro v hv; simp only [List.mem_cons, List.not_mem_nil, or_false] at hv; rcases hv with rfl | rfl | rfl | rfl <;> rfl) (fun F X E => ?_)
  have hR := RI_R E
  refine V_iload_n X dX6_means_0 rfl ?_
  refine V_iconst X (nI 0) dX6_means_1 (by decide) ?_
  refine V_aload_n X dX6_means_2 rfl ?_
  refine V_geti X flX6_35 (ltN (by decide) hN) rfl rfl dX6_means_3 ?_
  refine V_top (nI (n)) (hn) ?_
  refine V_iconst X (nI 1) dX6_means_6 (by decide) ?_
  refine V_isub X dX6_means_7 ?_
  refine V_top (dv n) (rfl) ?_
  refine V_csi X (kX6_in ) cwX6_31 rfl (rm_ok hR (by decide) (by decide)) (Nat.le_of_ble_eq_true rfl) dX6_means_8 ?_
  refine V_if_eq X 27 dX6_means_11 (by decide) (fun h11 => ?_) (fun h11 => ?_)
  · refine V_iconst X (-1) dX6_means_27 (by decide) ?_
    exact V_iret X E dX6_means_28 rfl rfl
  · refine V_iload_n X dX6_means_14 rfl ?_
    refine V_iconst X (nI 0) dX6_means_15 (by decide) ?_
    refine V_iconst X (nI 1) dX6_means_16 (by decide) ?_
    refine V_csi X (kX6_in ) cwX6_31 rfl (rm_ok hR (by decide) (by decide)) (Nat.le_of_ble_eq_true rfl) dX6_means_17 ?_
    refine V_if_eq X 27 dX6_means_20 (by decide) (fun h20 => ?_) (fun h20 => ?_)
    · refine V_iconst X (-1) dX6_means_27 (by decide) ?_
      exact V_iret X E dX6_means_28 rfl rfl
    · refine V_iload_n X dX6_means_23 rfl ?_
      refine V_if_ge X 29 dX6_means_24 (by decide) (fun h24 => ?_) (fun h24 => ?_)
      · exfalso
        apply hno
        refine ⟨(in_dv (by omega)).mp (Classical.byContradiction (fun z => h11 (bi_eq.mpr z))), ?_, by rw [i_le, t_0] at h24; exact h24⟩
        have h9 := (in_n (by decide) (by decide)).mp (Classical.byContradiction (fun z => h20 (bi_eq.mpr z)))
        rcases (show w.toInt = 0 ∨ w.toInt = 1 by omega) with q | q
        · exact Or.inl (i_of q (by decide))
        · exact Or.inr (i_of q (by decide))
      · refine V_iconst X (-1) dX6_means_27 (by decide) ?_
        exact V_iret X E dX6_means_28 rfl rfl

set_option maxRecDepth 100000 in
set_option maxHeartbeats 4000000 in
theorem kX6_means {G : Cx} {S : Sx} (hN : 88 ≤ gN G) {n : Nat} (hn : S 80 0 = nI n) (hn14 : n ≤ 14) {s u t : Nat} (hs : s < n) (hu : u < 2) (hMR : MR S n) (ht : t < (rdL S n).2) : CT G (5) yX6_means cX6_means 4 (some .int) [ra G 80, .int (nI s), .int (nI u), .int (nI t)] S ((rdL S n).1 83 (104 * t + 66 + 2 * s + u)) ((rdL S n).1) := by
  have hM64 := hMR.2.2.2.2.1
  refine CT_of (by decide) (Nat.le_of_ble_eq_true rfl) (by intro v hv; simp only [List.mem_cons, List.not_mem_nil, or_false] at hv; rcases hv with rfl | rfl | rfl | rfl <;> rfl) (fun F X E => ?_)
  have hR := RI_R E
  refine V_iload_n X dX6_means_0 rfl ?_
  refine V_iconst X (nI 0) dX6_means_1 (by decide) ?_
  refine V_aload_n X dX6_means_2 rfl ?_
  refine V_geti X flX6_35 (ltN (by decide) hN) rfl rfl dX6_means_3 ?_
  refine V_top (nI (n)) (hn) ?_
  refine V_iconst X (nI 1) dX6_means_6 (by decide) ?_
  refine V_isub X dX6_means_7 ?_
  refine V_top (dv n) (rfl) ?_
  refine V_csi X (kX6_in ) cwX6_31 rfl (rm_ok hR (by decide) (by decide)) (Nat.le_of_ble_eq_true rfl) dX6_means_8 ?_
  refine V_if_eq X 27 dX6_means_11 (by decide) (fun h11 => ?_) (fun h11 => ?_)
  · exact absurd ((in_dv (by omega)).mpr ⟨by rw [nI_toInt (by omega)]; omega, by rw [nI_toInt (by omega)]; omega⟩) (bi_eq.mp h11)
  · refine V_iload_n X dX6_means_14 rfl ?_
    refine V_iconst X (nI 0) dX6_means_15 (by decide) ?_
    refine V_iconst X (nI 1) dX6_means_16 (by decide) ?_
    refine V_csi X (kX6_in ) cwX6_31 rfl (rm_ok hR (by decide) (by decide)) (Nat.le_of_ble_eq_true rfl) dX6_means_17 ?_
    refine V_if_eq X 27 dX6_means_20 (by decide) (fun h20 => ?_) (fun h20 => ?_)
    · exact absurd (in_k (by decide) (by omega)) (bi_eq.mp h20)
    · refine V_iload_n X dX6_means_23 rfl ?_
      refine V_iN_ge X 29 (by omega) dX6_means_24 (by decide) ?_
      refine V_aload_n X dX6_means_29 rfl ?_
      refine V_aload_n X dX6_means_30 rfl ?_
      refine V_geti X flX6_35 (ltN (by decide) hN) rfl rfl dX6_means_31 ?_
      refine V_top (nI (n)) (hn) ?_
      refine V_cvv X (ltN (by decide) hN) rfl rfl rfl (kX6_reads hN hMR.1 hMR.2.1 hMR.2.2.1) cwX6_50 rfl (rm_ok hR (by decide) (by decide)) (Nat.le_of_ble_eq_true rfl) dX6_means_34 ?_
      refine V_iload_n X dX6_means_37 rfl ?_
      refine V_aload_n X dX6_means_38 rfl ?_
      refine V_geti X flX6_54 (ltN (by decide) hN) rfl rfl dX6_means_39 ?_
      refine V_top (nI ((rdL S n).2)) ((rdL_I S n).2.1) ?_
      refine V_cN_ge X 66 (by omega) (by omega) dX6_means_42 (by decide) (fun h42 => ?_) (fun h42 => ?_)
      · omega
      · refine V_aload_n X dX6_means_45 rfl ?_
        refine V_getr X flX6_16 (ltN (by decide) hN) rfl rfl dX6_means_46 ?_
        refine V_bipush X (nI 104) dX6_means_49 (by decide) ?_
        refine V_iload_n X dX6_means_51 rfl ?_
        refine V_mulN X dX6_means_52 ?_
        refine V_bipush X (nI 66) dX6_means_53 (by decide) ?_
        refine V_addN X dX6_means_55 ?_
        refine V_iconst X (nI 2) dX6_means_56 (by decide) ?_
        refine V_iload_n X dX6_means_57 rfl ?_
        refine V_mulN X dX6_means_58 ?_
        refine V_addN X dX6_means_59 ?_
        refine V_iload_n X dX6_means_60 rfl ?_
        refine V_addN X dX6_means_61 ?_
        refine V_ialdN X (ltN (by decide) hN) rfl (by omega) (by decide) dX6_means_62 ?_
        refine V_goto X 67 dX6_means_63 (by decide) ?_
        exact V_iret X E dX6_means_67 rfl rfl

set_option maxRecDepth 100000 in
set_option maxHeartbeats 4000000 in
theorem kX6_means_no2 {G : Cx} {S : Sx} (hN : 88 ≤ gN G) {n : Nat} (hn : S 80 0 = nI n) (hn14 : n ≤ 14) {s u : Nat} {r : Int32} (hs : s < n) (hu : u < 2) (hMR : MR S n) (hr0 : 0 ≤ r.toInt) (ht : ((rdL S n).2 : Int) ≤ r.toInt) : CT G (5) yX6_means cX6_means 4 (some .int) [ra G 80, .int (nI s), .int (nI u), .int r] S (-1) ((rdL S n).1) := by
  have hM64 := hMR.2.2.2.2.1
  refine CT_of (by decide) (Nat.le_of_ble_eq_true rfl) (by intro v hv; simp only [List.mem_cons, List.not_mem_nil, or_false] at hv; rcases hv with rfl | rfl | rfl | rfl <;> rfl) (fun F X E => ?_)
  have hR := RI_R E
  refine V_iload_n X dX6_means_0 rfl ?_
  refine V_iconst X (nI 0) dX6_means_1 (by decide) ?_
  refine V_aload_n X dX6_means_2 rfl ?_
  refine V_geti X flX6_35 (ltN (by decide) hN) rfl rfl dX6_means_3 ?_
  refine V_top (nI (n)) (hn) ?_
  refine V_iconst X (nI 1) dX6_means_6 (by decide) ?_
  refine V_isub X dX6_means_7 ?_
  refine V_top (dv n) (rfl) ?_
  refine V_csi X (kX6_in ) cwX6_31 rfl (rm_ok hR (by decide) (by decide)) (Nat.le_of_ble_eq_true rfl) dX6_means_8 ?_
  refine V_if_eq X 27 dX6_means_11 (by decide) (fun h11 => ?_) (fun h11 => ?_)
  · exact absurd ((in_dv (by omega)).mpr ⟨by rw [nI_toInt (by omega)]; omega, by rw [nI_toInt (by omega)]; omega⟩) (bi_eq.mp h11)
  · refine V_iload_n X dX6_means_14 rfl ?_
    refine V_iconst X (nI 0) dX6_means_15 (by decide) ?_
    refine V_iconst X (nI 1) dX6_means_16 (by decide) ?_
    refine V_csi X (kX6_in ) cwX6_31 rfl (rm_ok hR (by decide) (by decide)) (Nat.le_of_ble_eq_true rfl) dX6_means_17 ?_
    refine V_if_eq X 27 dX6_means_20 (by decide) (fun h20 => ?_) (fun h20 => ?_)
    · exact absurd (in_k (by decide) (by omega)) (bi_eq.mp h20)
    · refine V_iload_n X dX6_means_23 rfl ?_
      refine V_if_ge X 29 dX6_means_24 (by decide) (fun h24 => ?_) (fun h24 => ?_)
      · refine V_aload_n X dX6_means_29 rfl ?_
        refine V_aload_n X dX6_means_30 rfl ?_
        refine V_geti X flX6_35 (ltN (by decide) hN) rfl rfl dX6_means_31 ?_
        refine V_top (nI (n)) (hn) ?_
        refine V_cvv X (ltN (by decide) hN) rfl rfl rfl (kX6_reads hN hMR.1 hMR.2.1 hMR.2.2.1) cwX6_50 rfl (rm_ok hR (by decide) (by decide)) (Nat.le_of_ble_eq_true rfl) dX6_means_34 ?_
        refine V_iload_n X dX6_means_37 rfl ?_
        refine V_aload_n X dX6_means_38 rfl ?_
        refine V_geti X flX6_54 (ltN (by decide) hN) rfl rfl dX6_means_39 ?_
        refine V_top (nI ((rdL S n).2)) ((rdL_I S n).2.1) ?_
        refine V_icmp_ge X 66 dX6_means_42 (by decide) (fun h42 => ?_) (fun h42 => ?_)
        · refine V_iconst X (-1) dX6_means_66 (by decide) ?_
          exact V_iret X E dX6_means_67 rfl rfl
        · exact absurd (by rw [i_le, t_k _ (by omega)]; exact ht) h42
      · exact absurd (by rw [i_le, t_0]; exact hr0) h24

set_option maxRecDepth 100000 in
set_option maxHeartbeats 4000000 in
theorem kX6_answer_no {G : Cx} {S : Sx} (hN : 88 ≤ gN G) {n : Nat} (hn : S 80 0 = nI n) (hn14 : n ≤ 14) {x y k : Int32} (hno : ¬ (okQ x y ∧ pfP n k)) : CT G (5) yX6_answer cX6_answer 4 (some .int) [ra G 80, .int x, .int y, .int k] S (-1) (S) := by
  refine CT_of (by decide) (Nat.le_of_ble_eq_true rfl) (by intro v hv; simp only [List.mem_cons, List.not_mem_nil, or_false] at hv; rcases hv with rfl | rfl | rfl | rfl <;> rfl) (fun F X E => ?_)
  have hR := RI_R E
  refine V_iload_n X dX6_answer_0 rfl ?_
  refine V_iload_n X dX6_answer_1 rfl ?_
  refine V_csi X (kX6_isQuestion ) cwX6_95 rfl (rm_ok hR (by decide) (by decide)) (Nat.le_of_ble_eq_true rfl) dX6_answer_2 ?_
  refine V_if_eq X 20 dX6_answer_5 (by decide) (fun h5 => ?_) (fun h5 => ?_)
  · refine V_iconst X (-1) dX6_answer_20 (by decide) ?_
    exact V_iret X E dX6_answer_21 rfl rfl
  · refine V_iload_n X dX6_answer_8 rfl ?_
    refine V_iconst X (nI 0) dX6_answer_9 (by decide) ?_
    refine V_aload_n X dX6_answer_10 rfl ?_
    refine V_geti X flX6_35 (ltN (by decide) hN) rfl rfl dX6_answer_11 ?_
    refine V_top (nI (n)) (hn) ?_
    refine V_csi X (kX6_in ) cwX6_31 rfl (rm_ok hR (by decide) (by decide)) (Nat.le_of_ble_eq_true rfl) dX6_answer_14 ?_
    refine V_if_ne X 22 dX6_answer_17 (by decide) (fun h17 => ?_) (fun h17 => ?_)
    · exact absurd ⟨Classical.byContradiction (fun z => h5 (bi_eq.mpr z)), (in_n (by decide) (by omega)).mp (bi_ne.mp h17)⟩ hno
    · refine V_iconst X (-1) dX6_answer_20 (by decide) ?_
      exact V_iret X E dX6_answer_21 rfl rfl

set_option maxRecDepth 100000 in
set_option maxHeartbeats 4000000 in
theorem kX6_level_no {G : Cx} {S : Sx} (hN : 88 ≤ gN G) {n : Nat} (hn : S 80 0 = nI n) (hn14 : n ≤ 14) {x y k : Int32} (hno : ¬ (okQ x y ∧ pfP n k)) : CT G (5) yX6_level cX6_level 7 (some .int) [ra G 80, .int x, .int y, .int k] S (-1) (S) := by
  refine CT_of (by decide) (Nat.le_of_ble_eq_true rfl) (by intro v hv; simp only [List.mem_cons, List.not_mem_nil, or_false] at hv; rcases hv with rfl | rfl | rfl | rfl <;> rfl) (fun F X E => ?_)
  have hR := RI_R E
  refine V_iload_n X dX6_level_0 rfl ?_
  refine V_iload_n X dX6_level_1 rfl ?_
  refine V_csi X (kX6_isQuestion ) cwX6_95 rfl (rm_ok hR (by decide) (by decide)) (Nat.le_of_ble_eq_true rfl) dX6_level_2 ?_
  refine V_if_eq X 20 dX6_level_5 (by decide) (fun h5 => ?_) (fun h5 => ?_)
  · refine V_iconst X (-1) dX6_level_20 (by decide) ?_
    exact V_iret X E dX6_level_21 rfl rfl
  · refine V_iload_n X dX6_level_8 rfl ?_
    refine V_iconst X (nI 0) dX6_level_9 (by decide) ?_
    refine V_aload_n X dX6_level_10 rfl ?_
    refine V_geti X flX6_35 (ltN (by decide) hN) rfl rfl dX6_level_11 ?_
    refine V_top (nI (n)) (hn) ?_
    refine V_csi X (kX6_in ) cwX6_31 rfl (rm_ok hR (by decide) (by decide)) (Nat.le_of_ble_eq_true rfl) dX6_level_14 ?_
    refine V_if_ne X 22 dX6_level_17 (by decide) (fun h17 => ?_) (fun h17 => ?_)
    · exact absurd ⟨Classical.byContradiction (fun z => h5 (bi_eq.mpr z)), (in_n (by decide) (by omega)).mp (bi_ne.mp h17)⟩ hno
    · refine V_iconst X (-1) dX6_level_20 (by decide) ?_
      exact V_iret X E dX6_level_21 rfl rfl

set_option maxRecDepth 100000 in
set_option maxHeartbeats 4000000 in
theorem kX6_answer {G : Cx} {S : Sx} (hN : 88 ≤ gN G) {n : Nat} (hn : S 80 0 = nI n) (hn14 : n ≤ 14) {k a j : Nat} (hq : qOk k a) (hj : j ≤ n) (hMR : MR S j) : CT G (5) yX6_answer cX6_answer 4 (some .int) [ra G 80, .int (nI k), .int (nI a), .int (nI j)] S (anF ((rdL S j).1 83) k a (rdL S j).2) ((rdL S j).1) := by
  refine CT_of (by decide) (Nat.le_of_ble_eq_true rfl) (by intro v hv; simp only [List.mem_cons, List.not_mem_nil, or_false] at hv; rcases hv with rfl | rfl | rfl | rfl <;> rfl) (fun F X E => ?_)
  have hR := RI_R E
  refine V_iload_n X dX6_answer_0 rfl ?_
  refine V_iload_n X dX6_answer_1 rfl ?_
  refine V_csi X (kX6_isQuestion ) cwX6_95 rfl (rm_ok hR (by decide) (by decide)) (Nat.le_of_ble_eq_true rfl) dX6_answer_2 ?_
  refine V_if_eq X 20 dX6_answer_5 (by decide) (fun h5 => ?_) (fun h5 => ?_)
  · exact absurd ((okQ_n (by have := hq.1; omega) (by have := hq.2; omega)).mpr (okQ_q.mpr hq)) (bi_eq.mp h5)
  · refine V_iload_n X dX6_answer_8 rfl ?_
    refine V_iconst X (nI 0) dX6_answer_9 (by decide) ?_
    refine V_aload_n X dX6_answer_10 rfl ?_
    refine V_geti X flX6_35 (ltN (by decide) hN) rfl rfl dX6_answer_11 ?_
    refine V_top (nI (n)) (hn) ?_
    refine V_csi X (kX6_in ) cwX6_31 rfl (rm_ok hR (by decide) (by decide)) (Nat.le_of_ble_eq_true rfl) dX6_answer_14 ?_
    refine V_if_ne X 22 dX6_answer_17 (by decide) (fun h17 => ?_) (fun h17 => ?_)
    · refine V_aload_n X dX6_answer_22 rfl ?_
      refine V_iload_n X dX6_answer_23 rfl ?_
      refine V_cvv X (ltN (by decide) hN) rfl rfl rfl (kX6_reads hN hMR.1 hMR.2.1 hMR.2.2.1) cwX6_50 rfl (rm_ok hR (by decide) (by decide)) (Nat.le_of_ble_eq_true rfl) dX6_answer_24 ?_
      refine V_aload_n X dX6_answer_27 rfl ?_
      refine V_iload_n X dX6_answer_28 rfl ?_
      refine V_iload_n X dX6_answer_29 rfl ?_
      refine V_cvi X (ltN (by decide) hN) rfl rfl rfl (kX6_answers hN hq (rdL_I S j).2.1 hMR.2.2.2.1 hMR.2.2.2.2.1 hMR.2.2.2.2.2) cwX6_98 rfl (rm_ok hR (by decide) (by decide)) (Nat.le_of_ble_eq_true rfl) dX6_answer_30 ?_
      exact V_iret X E dX6_answer_33 rfl rfl
    · exact absurd (bi_eq.mp (ts_nn h17)) (fun q => q (in_k (by omega) hj))

set_option maxRecDepth 100000 in
set_option maxHeartbeats 4000000 in
theorem kX6_level {G : Cx} {S : Sx} (hN : 88 ≤ gN G) {n : Nat} (hn : S 80 0 = nI n) (hn14 : n ≤ 14) {k a j : Nat} (hq : qOk k a) (hj : j ≤ n) (hMR : MR S j) : CT G (5) yX6_level cX6_level 7 (some .int) [ra G 80, .int (nI k), .int (nI a), .int (nI j)] S (lvF ((rdL S j).1 83) k a (rdL S j).2) ((rdL S j).1) := by
  refine CT_of (by decide) (Nat.le_of_ble_eq_true rfl) (by intro v hv; simp only [List.mem_cons, List.not_mem_nil, or_false] at hv; rcases hv with rfl | rfl | rfl | rfl <;> rfl) (fun F X E => ?_)
  have hR := RI_R E
  have hM64 := hMR.2.2.2.2.1
  have loop : ∀ (f i : Nat) (z : Int32) (w : Option Value), i ≤ (rdL S j).2 → (rdL S j).2 - i < f → z = lvF ((rdL S j).1 83) k a i → V F G (rdL S j).1 33 [some (ra G 80), some (.int (nI k)), some (.int (nI a)), some (.int (nI j)), some (.int z), some (.int (nI i)), w] [] := by
    intro f
    induction f with
    | zero => intro i z w h1 h2; omega
    | succ f ih =>
      intro i z w h1 h2 hz
      refine V_iload X dX6_level_33 rfl ?_
      refine V_aload_n X dX6_level_35 rfl ?_
      refine V_geti X flX6_54 (ltN (by decide) hN) rfl rfl dX6_level_36 ?_
      refine V_top (nI ((rdL S j).2)) ((rdL_I S j).2.1) ?_
      refine V_cN_ge X 72 (by omega) (by omega) dX6_level_39 (by decide) (fun h39 => ?_) (fun h39 => ?_)
      · refine V_iload X dX6_level_72 rfl ?_
        exact V_iret X E dX6_level_74 (by rw [hz, show i = (rdL S j).2 by omega]) rfl
      · refine V_aload_n X dX6_level_42 rfl ?_
        refine V_iload_n X dX6_level_43 rfl ?_
        refine V_iload_n X dX6_level_44 rfl ?_
        refine V_iload X dX6_level_45 rfl ?_
        refine V_cvi X (ltN (by decide) hN) rfl rfl rfl (kX6_by hN hq (by omega) (hMR.2.2.2.2.2 i (by omega))) cwX6_101 rfl (rm_ok hR (by decide) (by decide)) (Nat.le_of_ble_eq_true rfl) dX6_level_47 ?_
        refine V_csi X (kX6_bits ) cwX6_104 rfl (rm_ok hR (by decide) (by decide)) (Nat.le_of_ble_eq_true rfl) dX6_level_50 ?_
        refine V_istore X dX6_level_53 (by rw [hR.2]; decide) ?_
        refine V_iload X dX6_level_55 rfl ?_
        refine V_iload X dX6_level_57 rfl ?_
        refine V_icmp_le X 66 dX6_level_59 (by decide) (fun h59 => ?_) (fun h59 => ?_)
        · refine V_iinc X (nI (_ + 1)) dX6_level_66 (by rw [hR.2]; decide) rfl (nI_add _ 1) ?_
          refine V_goto X 33 dX6_level_69 (by decide) ?_
          exact ih (i + 1) _ _ (by omega) (by omega) (by rw [lvF, mx, ← hz]; first | exact (if_neg (Int32.not_lt.mpr h59)).symm | exact (if_pos (Int32.not_le.mp h59)).symm)
        · refine V_iload X dX6_level_62 rfl ?_
          refine V_istore X dX6_level_64 (by rw [hR.2]; decide) ?_
          refine V_iinc X (nI (_ + 1)) dX6_level_66 (by rw [hR.2]; decide) rfl (nI_add _ 1) ?_
          refine V_goto X 33 dX6_level_69 (by decide) ?_
          exact ih (i + 1) _ _ (by omega) (by omega) (by rw [lvF, mx, ← hz]; first | exact (if_neg (Int32.not_lt.mpr h59)).symm | exact (if_pos (Int32.not_le.mp h59)).symm)
  refine V_iload_n X dX6_level_0 rfl ?_
  refine V_iload_n X dX6_level_1 rfl ?_
  refine V_csi X (kX6_isQuestion ) cwX6_95 rfl (rm_ok hR (by decide) (by decide)) (Nat.le_of_ble_eq_true rfl) dX6_level_2 ?_
  refine V_if_eq X 20 dX6_level_5 (by decide) (fun h5 => ?_) (fun h5 => ?_)
  · exact absurd ((okQ_n (by have := hq.1; omega) (by have := hq.2; omega)).mpr (okQ_q.mpr hq)) (bi_eq.mp h5)
  · refine V_iload_n X dX6_level_8 rfl ?_
    refine V_iconst X (nI 0) dX6_level_9 (by decide) ?_
    refine V_aload_n X dX6_level_10 rfl ?_
    refine V_geti X flX6_35 (ltN (by decide) hN) rfl rfl dX6_level_11 ?_
    refine V_top (nI (n)) (hn) ?_
    refine V_csi X (kX6_in ) cwX6_31 rfl (rm_ok hR (by decide) (by decide)) (Nat.le_of_ble_eq_true rfl) dX6_level_14 ?_
    refine V_if_ne X 22 dX6_level_17 (by decide) (fun h17 => ?_) (fun h17 => ?_)
    · refine V_aload_n X dX6_level_22 rfl ?_
      refine V_iload_n X dX6_level_23 rfl ?_
      refine V_cvv X (ltN (by decide) hN) rfl rfl rfl (kX6_reads hN hMR.1 hMR.2.1 hMR.2.2.1) cwX6_50 rfl (rm_ok hR (by decide) (by decide)) (Nat.le_of_ble_eq_true rfl) dX6_level_24 ?_
      refine V_iconst X (nI 0) dX6_level_27 (by decide) ?_
      refine V_istore X dX6_level_28 (by rw [hR.2]; decide) ?_
      refine V_iconst X (nI 0) dX6_level_30 (by decide) ?_
      refine V_istore X dX6_level_31 (by rw [hR.2]; decide) ?_
      exact loop ((rdL S j).2 + 1) 0 _ _ (by omega) (by omega) rfl
    · exact absurd (bi_eq.mp (ts_nn h17)) (fun q => q (in_k (by omega) hj))

set_option maxRecDepth 100000 in
set_option maxHeartbeats 4000000 in
theorem kX6_grounds_no1 {G : Cx} {S : Sx} (hN : 88 ≤ gN G) {n : Nat} (hn : S 80 0 = nI n) (hn14 : n ≤ 14) {x y r : Int32} (hno : ¬ (okQ x y ∧ 0 ≤ r.toInt)) : CT G (5) yX6_grounds cX6_grounds 4 (some .int) [ra G 80, .int x, .int y, .int r] S (-1) (S) := by
  refine CT_of (by decide) (Nat.le_of_ble_eq_true rfl) (by intro v hv; simp only [List.mem_cons, List.not_mem_nil, or_false] at hv; rcases hv with rfl | rfl | rfl | rfl <;> rfl) (fun F X E => ?_)
  have hR := RI_R E
  refine V_iload_n X dX6_grounds_0 rfl ?_
  refine V_iload_n X dX6_grounds_1 rfl ?_
  refine V_csi X (kX6_isQuestion ) cwX6_95 rfl (rm_ok hR (by decide) (by decide)) (Nat.le_of_ble_eq_true rfl) dX6_grounds_2 ?_
  refine V_if_eq X 12 dX6_grounds_5 (by decide) (fun h5 => ?_) (fun h5 => ?_)
  · refine V_iconst X (-1) dX6_grounds_12 (by decide) ?_
    exact V_iret X E dX6_grounds_13 rfl rfl
  · refine V_iload_n X dX6_grounds_8 rfl ?_
    refine V_if_ge X 14 dX6_grounds_9 (by decide) (fun h9 => ?_) (fun h9 => ?_)
    · exact absurd ⟨Classical.byContradiction (fun z => h5 (bi_eq.mpr z)), by rw [i_le, t_0] at h9; exact h9⟩ hno
    · refine V_iconst X (-1) dX6_grounds_12 (by decide) ?_
      exact V_iret X E dX6_grounds_13 rfl rfl

set_option maxRecDepth 100000 in
set_option maxHeartbeats 4000000 in
theorem kX6_grounds {G : Cx} {S : Sx} (hN : 88 ≤ gN G) {n : Nat} (hn : S 80 0 = nI n) (hn14 : n ≤ 14) {k a t : Nat} (hq : qOk k a) (hMR : MR S n) (ht : t < (rdL S n).2) : CT G (5) yX6_grounds cX6_grounds 4 (some .int) [ra G 80, .int (nI k), .int (nI a), .int (nI t)] S (byF ((rdL S n).1 83) (104 * t) k a) ((rdL S n).1) := by
  have hM64 := hMR.2.2.2.2.1
  refine CT_of (by decide) (Nat.le_of_ble_eq_true rfl) (by intro v hv; simp only [List.mem_cons, List.not_mem_nil, or_false] at hv; rcases hv with rfl | rfl | rfl | rfl <;> rfl) (fun F X E => ?_)
  have hR := RI_R E
  refine V_iload_n X dX6_grounds_0 rfl ?_
  refine V_iload_n X dX6_grounds_1 rfl ?_
  refine V_csi X (kX6_isQuestion ) cwX6_95 rfl (rm_ok hR (by decide) (by decide)) (Nat.le_of_ble_eq_true rfl) dX6_grounds_2 ?_
  refine V_if_eq X 12 dX6_grounds_5 (by decide) (fun h5 => ?_) (fun h5 => ?_)
  · exact absurd ((okQ_n (by have := hq.1; omega) (by have := hq.2; omega)).mpr (okQ_q.mpr hq)) (bi_eq.mp h5)
  · refine V_iload_n X dX6_grounds_8 rfl ?_
    refine V_iN_ge X 14 (by omega) dX6_grounds_9 (by decide) ?_
    refine V_aload_n X dX6_grounds_14 rfl ?_
    refine V_aload_n X dX6_grounds_15 rfl ?_
    refine V_geti X flX6_35 (ltN (by decide) hN) rfl rfl dX6_grounds_16 ?_
    refine V_top (nI (n)) (hn) ?_
    refine V_cvv X (ltN (by decide) hN) rfl rfl rfl (kX6_reads hN hMR.1 hMR.2.1 hMR.2.2.1) cwX6_50 rfl (rm_ok hR (by decide) (by decide)) (Nat.le_of_ble_eq_true rfl) dX6_grounds_19 ?_
    refine V_iload_n X dX6_grounds_22 rfl ?_
    refine V_aload_n X dX6_grounds_23 rfl ?_
    refine V_geti X flX6_54 (ltN (by decide) hN) rfl rfl dX6_grounds_24 ?_
    refine V_top (nI ((rdL S n).2)) ((rdL_I S n).2.1) ?_
    refine V_cN_ge X 40 (by omega) (by omega) dX6_grounds_27 (by decide) (fun h27 => ?_) (fun h27 => ?_)
    · omega
    · refine V_aload_n X dX6_grounds_30 rfl ?_
      refine V_iload_n X dX6_grounds_31 rfl ?_
      refine V_iload_n X dX6_grounds_32 rfl ?_
      refine V_iload_n X dX6_grounds_33 rfl ?_
      refine V_cvi X (ltN (by decide) hN) rfl rfl rfl (kX6_by hN hq (by omega) (hMR.2.2.2.2.2 t ht)) cwX6_101 rfl (rm_ok hR (by decide) (by decide)) (Nat.le_of_ble_eq_true rfl) dX6_grounds_34 ?_
      refine V_goto X 41 dX6_grounds_37 (by decide) ?_
      exact V_iret X E dX6_grounds_41 rfl rfl

set_option maxRecDepth 100000 in
set_option maxHeartbeats 4000000 in
theorem kX6_grounds_no2 {G : Cx} {S : Sx} (hN : 88 ≤ gN G) {n : Nat} (hn : S 80 0 = nI n) (hn14 : n ≤ 14) {k a : Nat} {r : Int32} (hq : qOk k a) (hMR : MR S n) (hr0 : 0 ≤ r.toInt) (ht : ((rdL S n).2 : Int) ≤ r.toInt) : CT G (5) yX6_grounds cX6_grounds 4 (some .int) [ra G 80, .int (nI k), .int (nI a), .int r] S (-1) ((rdL S n).1) := by
  have hM64 := hMR.2.2.2.2.1
  refine CT_of (by decide) (Nat.le_of_ble_eq_true rfl) (by intro v hv; simp only [List.mem_cons, List.not_mem_nil, or_false] at hv; rcases hv with rfl | rfl | rfl | rfl <;> rfl) (fun F X E => ?_)
  have hR := RI_R E
  refine V_iload_n X dX6_grounds_0 rfl ?_
  refine V_iload_n X dX6_grounds_1 rfl ?_
  refine V_csi X (kX6_isQuestion ) cwX6_95 rfl (rm_ok hR (by decide) (by decide)) (Nat.le_of_ble_eq_true rfl) dX6_grounds_2 ?_
  refine V_if_eq X 12 dX6_grounds_5 (by decide) (fun h5 => ?_) (fun h5 => ?_)
  · exact absurd ((okQ_n (by have := hq.1; omega) (by have := hq.2; omega)).mpr (okQ_q.mpr hq)) (bi_eq.mp h5)
  · refine V_iload_n X dX6_grounds_8 rfl ?_
    refine V_if_ge X 14 dX6_grounds_9 (by decide) (fun h9 => ?_) (fun h9 => ?_)
    · refine V_aload_n X dX6_grounds_14 rfl ?_
      refine V_aload_n X dX6_grounds_15 rfl ?_
      refine V_geti X flX6_35 (ltN (by decide) hN) rfl rfl dX6_grounds_16 ?_
      refine V_top (nI (n)) (hn) ?_
      refine V_cvv X (ltN (by decide) hN) rfl rfl rfl (kX6_reads hN hMR.1 hMR.2.1 hMR.2.2.1) cwX6_50 rfl (rm_ok hR (by decide) (by decide)) (Nat.le_of_ble_eq_true rfl) dX6_grounds_19 ?_
      refine V_iload_n X dX6_grounds_22 rfl ?_
      refine V_aload_n X dX6_grounds_23 rfl ?_
      refine V_geti X flX6_54 (ltN (by decide) hN) rfl rfl dX6_grounds_24 ?_
      refine V_top (nI ((rdL S n).2)) ((rdL_I S n).2.1) ?_
      refine V_icmp_ge X 40 dX6_grounds_27 (by decide) (fun h27 => ?_) (fun h27 => ?_)
      · refine V_iconst X (-1) dX6_grounds_40 (by decide) ?_
        exact V_iret X E dX6_grounds_41 rfl rfl
      · exact absurd (by rw [i_le, t_k _ (by omega)]; exact ht) h27
    · exact absurd (by rw [i_le, t_0]; exact hr0) h9

set_option maxRecDepth 100000 in
set_option maxHeartbeats 4000000 in
theorem kX6_asks_no {G : Cx} {S : Sx} (hN : 88 ≤ gN G) {n : Nat} (hn : S 80 0 = nI n) (hn14 : n ≤ 14) {x y : Int32} (hno : ¬ okQ x y) : CT G (5) yX6_asks cX6_asks 3 (some .int) [ra G 80, .int x, .int y] S (-1) (S) := by
  refine CT_of (by decide) (Nat.le_of_ble_eq_true rfl) (by intro v hv; simp only [List.mem_cons, List.not_mem_nil, or_false] at hv; rcases hv with rfl | rfl | rfl <;> rfl) (fun F X E => ?_)
  have hR := RI_R E
  refine V_iload_n X dX6_asks_0 rfl ?_
  refine V_iload_n X dX6_asks_1 rfl ?_
  refine V_csi X (kX6_isQuestion ) cwX6_95 rfl (rm_ok hR (by decide) (by decide)) (Nat.le_of_ble_eq_true rfl) dX6_asks_2 ?_
  refine V_if_ne X 10 dX6_asks_5 (by decide) (fun h5 => ?_) (fun h5 => ?_)
  · exact absurd (bi_ne.mp h5) hno
  · refine V_iconst X (-1) dX6_asks_8 (by decide) ?_
    exact V_iret X E dX6_asks_9 rfl rfl

set_option maxRecDepth 100000 in
set_option maxHeartbeats 4000000 in
theorem kX6_asks {G : Cx} {S : Sx} (hN : 88 ≤ gN G) {n : Nat} (hn : S 80 0 = nI n) (hn14 : n ≤ 14) {k a : Nat} (hq : qOk k a) (hMR : MR S n) : CT G (5) yX6_asks cX6_asks 3 (some .int) [ra G 80, .int (nI k), .int (nI a)] S (akF ((rdL S n).1 83) k a (rdL S n).2) ((rdL S n).1) := by
  refine CT_of (by decide) (Nat.le_of_ble_eq_true rfl) (by intro v hv; simp only [List.mem_cons, List.not_mem_nil, or_false] at hv; rcases hv with rfl | rfl | rfl <;> rfl) (fun F X E => ?_)
  have hR := RI_R E
  refine V_iload_n X dX6_asks_0 rfl ?_
  refine V_iload_n X dX6_asks_1 rfl ?_
  refine V_csi X (kX6_isQuestion ) cwX6_95 rfl (rm_ok hR (by decide) (by decide)) (Nat.le_of_ble_eq_true rfl) dX6_asks_2 ?_
  refine V_if_ne X 10 dX6_asks_5 (by decide) (fun h5 => ?_) (fun h5 => ?_)
  · refine V_aload_n X dX6_asks_10 rfl ?_
    refine V_aload_n X dX6_asks_11 rfl ?_
    refine V_geti X flX6_35 (ltN (by decide) hN) rfl rfl dX6_asks_12 ?_
    refine V_top (nI (n)) (hn) ?_
    refine V_cvv X (ltN (by decide) hN) rfl rfl rfl (kX6_reads hN hMR.1 hMR.2.1 hMR.2.2.1) cwX6_50 rfl (rm_ok hR (by decide) (by decide)) (Nat.le_of_ble_eq_true rfl) dX6_asks_15 ?_
    refine V_aload_n X dX6_asks_18 rfl ?_
    refine V_iload_n X dX6_asks_19 rfl ?_
    refine V_iload_n X dX6_asks_20 rfl ?_
    refine V_cvi X (ltN (by decide) hN) rfl rfl rfl (kX6_asked hN hq (rdL_I S n).2.1 hMR.2.2.2.1 hMR.2.2.2.2.1 hMR.2.2.2.2.2) cwX6_114 rfl (rm_ok hR (by decide) (by decide)) (Nat.le_of_ble_eq_true rfl) dX6_asks_21 ?_
    exact V_iret X E dX6_asks_24 rfl rfl
  · exact absurd ((okQ_n (by have := hq.1; omega) (by have := hq.2; omega)).mpr (okQ_q.mpr hq)) (bi_eq.mp (ts_nn h5))

set_option maxRecDepth 100000 in
set_option maxHeartbeats 4000000 in
theorem kX6_isOfKind {G : Cx} {S : Sx}  {k : Nat} {x : Int32} (hk : k < 4) : CT G (1) yX6_isOfKind cX6_isOfKind 2 (some .boolean) [.int (nI k), .int x] S (okF k x) (S) := by
  refine CT_of (by decide) (Nat.le_of_ble_eq_true rfl) (by intro v hv; simp only [List.mem_cons, List.not_mem_nil, or_false] at hv; rcases hv with rfl | rfl <;> rfl) (fun F X E => ?_)
  have hR := RI_R E
  refine V_iload_n X dX6_isOfKind_0 rfl ?_
  refine V_iconst X (nI 3) dX6_isOfKind_1 (by decide) ?_
  refine V_cN_ne X 13 (by omega) (by omega) dX6_isOfKind_2 (by decide) (fun h2 => ?_) (fun h2 => ?_)
  · refine V_iload_n X dX6_isOfKind_13 rfl ?_
    refine V_iconst X (nI 2) dX6_isOfKind_14 (by decide) ?_
    refine V_cN_ne X 40 (by omega) (by omega) dX6_isOfKind_15 (by decide) (fun h15 => ?_) (fun h15 => ?_)
    · refine V_iload_n X dX6_isOfKind_40 rfl ?_
      refine V_bipush X (nI 20) dX6_isOfKind_41 (by decide) ?_
      refine V_bipush X (nI 27) dX6_isOfKind_43 (by decide) ?_
      refine V_csi X (kX6_in ) cwX6_31 rfl (rm_ok hR (by decide) (by decide)) (Nat.le_of_ble_eq_true rfl) dX6_isOfKind_45 ?_
      exact V_zret X E dX6_isOfKind_48 (by first | exact Or.inl rfl | exact Or.inr rfl | exact bi_01 _) (by unfold okF; rw [if_neg (by omega), if_neg (by omega)]; exact bi_congr (in_lt (by decide) (by decide))) rfl
    · refine V_iload_n X dX6_isOfKind_18 rfl ?_
      refine V_iconst X (nI 0) dX6_isOfKind_19 (by decide) ?_
      refine V_bipush X (nI 7) dX6_isOfKind_20 (by decide) ?_
      refine V_csi X (kX6_in ) cwX6_31 rfl (rm_ok hR (by decide) (by decide)) (Nat.le_of_ble_eq_true rfl) dX6_isOfKind_22 ?_
      refine V_if_ne X 34 dX6_isOfKind_25 (by decide) (fun h25 => ?_) (fun h25 => ?_)
      · refine V_iconst X (nI 1) dX6_isOfKind_34 (by decide) ?_
        refine V_goto X 39 dX6_isOfKind_35 (by decide) ?_
        exact V_zret X E dX6_isOfKind_39 (by first | exact Or.inl rfl | exact Or.inr rfl | exact bi_01 _) (by unfold okF; rw [if_pos (by omega)]; exact bi_t (Or.inl ((in_lt (by decide) (by decide)).mp (bi_ne.mp h25)))) rfl
      · refine V_iload_n X dX6_isOfKind_28 rfl ?_
        refine V_bipush X (nI 9) dX6_isOfKind_29 (by decide) ?_
        refine V_icmp_ne X 38 dX6_isOfKind_31 (by decide) (fun h31 => ?_) (fun h31 => ?_)
        · refine V_iconst X (nI 0) dX6_isOfKind_38 (by decide) ?_
          exact V_zret X E dX6_isOfKind_39 (by first | exact Or.inl rfl | exact Or.inr rfl | exact bi_01 _) (by unfold okF; rw [if_pos (by omega)]; first | exact bi_t (Or.inr (ts_nn h31)) | exact bi_f (fun q => q.elim (fun z => h25 (bi_ne.mpr ((in_lt (by decide) (by decide)).mpr z))) h31)) rfl
        · refine V_iconst X (nI 1) dX6_isOfKind_34 (by decide) ?_
          refine V_goto X 39 dX6_isOfKind_35 (by decide) ?_
          exact V_zret X E dX6_isOfKind_39 (by first | exact Or.inl rfl | exact Or.inr rfl | exact bi_01 _) (by unfold okF; rw [if_pos (by omega)]; first | exact bi_t (Or.inr (ts_nn h31)) | exact bi_f (fun q => q.elim (fun z => h25 (bi_ne.mpr ((in_lt (by decide) (by decide)).mpr z))) h31)) rfl
  · refine V_iload_n X dX6_isOfKind_5 rfl ?_
    refine V_iconst X (nI 0) dX6_isOfKind_6 (by decide) ?_
    refine V_bipush X (nI 10) dX6_isOfKind_7 (by decide) ?_
    refine V_csi X (kX6_in ) cwX6_31 rfl (rm_ok hR (by decide) (by decide)) (Nat.le_of_ble_eq_true rfl) dX6_isOfKind_9 ?_
    exact V_zret X E dX6_isOfKind_12 (by first | exact Or.inl rfl | exact Or.inr rfl | exact bi_01 _) (by unfold okF; rw [if_neg (by omega), if_pos (by omega)]; exact bi_congr ⟨fun q => ⟨fun z => by have := lt0 z; have := (in_n (by decide) (by decide)).mp q; omega, fun z => by have := gtk (by decide) z; have := (in_n (by decide) (by decide)).mp q; omega⟩, fun q => (in_n (by decide) (by decide)).mpr ⟨nlt0 q.1, ngtk (by decide) q.2⟩⟩) rfl

def inB (g : Nat → Int32) (x : Int32) (s : Nat) : Bool := if nI 20 ≤ x then decide (g (s * 5 + 1) = nI 30 ∧ g (s * 5 + 2) = x) else decide (nmP g s x)
def inN (g : Nat → Int32) (x : Int32) (n : Nat) : Bool := (List.range n).any (fun s => inB g x s)
theorem inN_t {g : Nat → Int32} {x : Int32} {n s : Nat} (h : s < n) (e : inB g x s = true) : inN g x n = true := List.any_eq_true.mpr ⟨s, List.mem_range.mpr h, e⟩
theorem inN_f {g : Nat → Int32} {x : Int32} {n : Nat} (h : ∀ s, s < n → inB g x s = false) : inN g x n = false := by
  rw [← Bool.not_eq_true]; intro q
  obtain ⟨s, hs, e⟩ := List.any_eq_true.mp q
  rw [h s (List.mem_range.mp hs)] at e; cases e
theorem inB_1 {g : Nat → Int32} {x : Int32} {s : Nat} (h : ¬ x < nI 20) (h1 : ¬ g (s * 5 + 1) = nI 30) : inB g x s = false := by unfold inB; rw [if_pos (Int32.not_lt.mp h), decide_eq_false (fun q => h1 q.1)]
theorem inB_2 {g : Nat → Int32} {x : Int32} {s : Nat} (h : ¬ x < nI 20) (h1 : ¬ g (s * 5 + 2) = x) : inB g x s = false := by unfold inB; rw [if_pos (Int32.not_lt.mp h), decide_eq_false (fun q => h1 q.2)]
theorem inB_3 {g : Nat → Int32} {x : Int32} {s : Nat} (h : ¬ x < nI 20) (h1 : g (s * 5 + 1) = nI 30) (h2 : g (s * 5 + 2) = x) : inB g x s = true := by unfold inB; rw [if_pos (Int32.not_lt.mp h), decide_eq_true ⟨h1, h2⟩]
theorem inB_4 {g : Nat → Int32} {x : Int32} {s : Nat} (h : x < nI 20) : inB g x s = decide (nmP g s x) := by unfold inB; rw [if_neg (Int32.not_le.mpr h)]
set_option maxRecDepth 100000 in
set_option maxHeartbeats 4000000 in
theorem kX6_isNamed {G : Cx} {S : Sx} (hN : 88 ≤ gN G) {n : Nat} (hn : S 80 0 = nI n) (hn14 : n ≤ 14) {x : Int32} : CT G (2) yX6_isNamed cX6_isNamed 3 (some .boolean) [ra G 80, .int x] S (bb (inN (S 81) x n)) (S) := by
  refine CT_of (by decide) (Nat.le_of_ble_eq_true rfl) (by intro v hv; simp only [List.mem_cons, List.not_mem_nil, or_false] at hv; rcases hv with rfl | rfl <;> rfl) (fun F X E => ?_)
  have hR := RI_R E
  have loop : ∀ (f i : Nat), i ≤ n → n - i < f → (∀ j, j < i → inB (S 81) x j = false) → V F G S 2 [some (ra G 80), some (.int x), some (.int (nI i))] [] := by
    intro f
    induction f with
    | zero => intro i h1 h2; omega
    | succ f ih =>
      intro i h1 h2 hall
      refine V_iload_n X dX6_isNamed_2 rfl ?_
      refine V_aload_n X dX6_isNamed_3 rfl ?_
      refine V_geti X flX6_35 (ltN (by decide) hN) rfl rfl dX6_isNamed_4 ?_
      refine V_top (nI (n)) (hn) ?_
      refine V_cN_ge X 57 (by omega) (by omega) dX6_isNamed_7 (by decide) (fun h7 => ?_) (fun h7 => ?_)
      · refine V_iconst X (nI 0) dX6_isNamed_57 (by decide) ?_
        exact V_zret X E dX6_isNamed_58 (by first | exact Or.inl rfl | exact Or.inr rfl | exact bi_01 _) (by rw [inN_f (fun j hj => hall j (by omega))]; rfl) rfl
      · refine V_iload_n X dX6_isNamed_10 rfl ?_
        refine V_bipush X (nI 20) dX6_isNamed_11 (by decide) ?_
        refine V_icmp_lt X 40 dX6_isNamed_13 (by decide) (fun h13 => ?_) (fun h13 => ?_)
        · refine V_aload_n X dX6_isNamed_40 rfl ?_
          refine V_iload_n X dX6_isNamed_41 rfl ?_
          refine V_iload_n X dX6_isNamed_42 rfl ?_
          refine V_cvi X (ltN (by decide) hN) rfl rfl rfl (kX6_names hN (by omega)) cwX6_57 rfl (rm_ok hR (by decide) (by decide)) (Nat.le_of_ble_eq_true rfl) dX6_isNamed_43 ?_
          refine V_if_eq X 51 dX6_isNamed_46 (by decide) (fun h46 => ?_) (fun h46 => ?_)
          · refine V_iinc X (nI (_ + 1)) dX6_isNamed_51 (by rw [hR.2]; decide) rfl (nI_add _ 1) ?_
            refine V_goto X 2 dX6_isNamed_54 (by decide) ?_
            exact ih (i + 1) (by omega) (by omega) (fun j hj => by rcases Nat.lt_succ_iff_lt_or_eq.mp hj with z | z; exact hall j z; subst z; exact (inB_4 h13).trans (decide_eq_false (bi_eq.mp h46)))
          · refine V_iconst X (nI 1) dX6_isNamed_49 (by decide) ?_
            exact V_zret X E dX6_isNamed_50 (by first | exact Or.inl rfl | exact Or.inr rfl | exact bi_01 _) (by rw [inN_t h7 (((inB_4 h13).trans (decide_eq_true (Classical.byContradiction (fun z => h46 (bi_eq.mpr z))))))]; rfl) rfl
        · refine V_aload_n X dX6_isNamed_16 rfl ?_
          refine V_iload_n X dX6_isNamed_17 rfl ?_
          refine V_iconst X (nI 1) dX6_isNamed_18 (by decide) ?_
          refine V_cvi X (ltN (by decide) hN) rfl rfl rfl (kX6_signAt hN (by omega) (by omega)) cwX6_39 rfl (rm_ok hR (by decide) (by decide)) (Nat.le_of_ble_eq_true rfl) dX6_isNamed_19 ?_
          refine V_bipush X (nI 30) dX6_isNamed_22 (by decide) ?_
          refine V_icmp_ne X 51 dX6_isNamed_24 (by decide) (fun h24 => ?_) (fun h24 => ?_)
          · refine V_iinc X (nI (_ + 1)) dX6_isNamed_51 (by rw [hR.2]; decide) rfl (nI_add _ 1) ?_
            refine V_goto X 2 dX6_isNamed_54 (by decide) ?_
            exact ih (i + 1) (by omega) (by omega) (fun j hj => by rcases Nat.lt_succ_iff_lt_or_eq.mp hj with z | z; exact hall j z; subst z; exact inB_1 h13 h24)
          · refine V_aload_n X dX6_isNamed_27 rfl ?_
            refine V_iload_n X dX6_isNamed_28 rfl ?_
            refine V_iconst X (nI 2) dX6_isNamed_29 (by decide) ?_
            refine V_cvi X (ltN (by decide) hN) rfl rfl rfl (kX6_signAt hN (by omega) (by omega)) cwX6_39 rfl (rm_ok hR (by decide) (by decide)) (Nat.le_of_ble_eq_true rfl) dX6_isNamed_30 ?_
            refine V_iload_n X dX6_isNamed_33 rfl ?_
            refine V_icmp_ne X 51 dX6_isNamed_34 (by decide) (fun h34 => ?_) (fun h34 => ?_)
            · refine V_iinc X (nI (_ + 1)) dX6_isNamed_51 (by rw [hR.2]; decide) rfl (nI_add _ 1) ?_
              refine V_goto X 2 dX6_isNamed_54 (by decide) ?_
              exact ih (i + 1) (by omega) (by omega) (fun j hj => by rcases Nat.lt_succ_iff_lt_or_eq.mp hj with z | z; exact hall j z; subst z; exact inB_2 h13 h34)
            · refine V_goto X 49 dX6_isNamed_37 (by decide) ?_
              refine V_iconst X (nI 1) dX6_isNamed_49 (by decide) ?_
              exact V_zret X E dX6_isNamed_50 (by first | exact Or.inl rfl | exact Or.inr rfl | exact bi_01 _) (by rw [inN_t h7 (inB_3 h13 (ts_nn h24) (ts_nn h34))]; rfl) rfl
  refine V_iconst X (nI 0) dX6_isNamed_0 (by decide) ?_
  refine V_istore_n X dX6_isNamed_1 (by rw [hR.2]; decide) ?_
  exact loop (n + 1) 0 (by omega) (by omega) (fun j hj => absurd hj (by omega))

