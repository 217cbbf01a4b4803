theorem fitF_lt {n b : Nat} {g : Nat → Int32} {x : Int32} (h : fitF n b g x ≠ 0) : n < 14 := by
  by_cases q : n < 14
  · exact q
  · exact absurd (fitF_14 (b := b) (g := g) (x := x) (by omega)).symm h
set_option maxRecDepth 100000 in
set_option maxHeartbeats 4000000 in
theorem kX5_sign_no {G : Cx} {S : Sx} (hN : 80 ≤ gN G) {x : Int32} {n b : Nat} (hn : S 1 2 = nI n) (hb : S 1 3 = nI b) (hn14 : n ≤ 14) (hb5 : b < 5) (hf : fitF n b (S 2) x = 0) : CT G (7) yX5_sign cX5_sign 2 (some .boolean) [ra G 0, .int x] S (nI 0) (S) := by
  refine CT_of (by decide) (Nat.le_of_ble_eq_true rfl) (by intro v hv; simp only [List.mem_cons, List.not_mem_nil, or_false] at hv; rcases hv with rfl | rfl <;> rfl) (fun F X E => ?_)
  have hR := RI_R E
  refine V_aload_n X dX5_sign_0 rfl ?_
  refine V_getr X flX5_12 (ltN (by decide) hN) rfl rfl dX5_sign_1 ?_
  refine V_iload_n X dX5_sign_4 rfl ?_
  refine V_cvi X (ltN (by decide) hN) rfl rfl rfl (kX2_fits hN hn hb hn14 hb5) cwX5_48 rfl (rm_ok hR (by decide) (by decide)) (Nat.le_of_ble_eq_true rfl) dX5_sign_5 ?_
  refine V_if_ne X 13 dX5_sign_8 (by decide) (fun h8 => ?_) (fun h8 => ?_)
  · exact absurd hf h8
  · refine V_iconst X (nI 0) dX5_sign_11 (by decide) ?_
    exact V_zret X E dX5_sign_12 (by first | exact Or.inl rfl | exact Or.inr rfl | exact bi_01 _) rfl rfl

set_option maxRecDepth 100000 in
set_option maxHeartbeats 4000000 in
theorem kX5_sign_go {G : Cx} {S : Sx} (hN : 80 ≤ gN G) {x : Int32} {n b : Nat} (hn : S 1 2 = nI n) (hb : S 1 3 = nI b) (hn14 : n ≤ 14) (hb5 : b < 5) (hf : fitF n b (S 2) x ≠ 0) (hx : x ≠ nI 50) : CT G (7) yX5_sign cX5_sign 2 (some .boolean) [ra G 0, .int x] S (nI 1) (st (st S 2 (n * 5 + b) x) 1 3 (nI (b + 1))) := by
  refine CT_of (by decide) (Nat.le_of_ble_eq_true rfl) (by intro v hv; simp only [List.mem_cons, List.not_mem_nil, or_false] at hv; rcases hv with rfl | rfl <;> rfl) (fun F X E => ?_)
  have hR := RI_R E
  refine V_aload_n X dX5_sign_0 rfl ?_
  refine V_getr X flX5_12 (ltN (by decide) hN) rfl rfl dX5_sign_1 ?_
  refine V_iload_n X dX5_sign_4 rfl ?_
  refine V_cvi X (ltN (by decide) hN) rfl rfl rfl (kX2_fits hN hn hb hn14 hb5) cwX5_48 rfl (rm_ok hR (by decide) (by decide)) (Nat.le_of_ble_eq_true rfl) dX5_sign_5 ?_
  refine V_if_ne X 13 dX5_sign_8 (by decide) (fun h8 => ?_) (fun h8 => ?_)
  · refine V_aload_n X dX5_sign_13 rfl ?_
    refine V_getr X flX5_12 (ltN (by decide) hN) rfl rfl dX5_sign_14 ?_
    refine V_iload_n X dX5_sign_17 rfl ?_
    refine V_cvv X (ltN (by decide) hN) rfl rfl rfl (kX2_add hN hn hb (fitF_lt hf) hb5) cwX5_52 rfl (rm_ok hR (by decide) (by decide)) (Nat.le_of_ble_eq_true rfl) dX5_sign_18 ?_
    refine V_iload_n X dX5_sign_21 rfl ?_
    refine V_bipush X (nI 50) dX5_sign_22 (by decide) ?_
    refine V_icmp_ne X 34 dX5_sign_24 (by decide) (fun h24 => ?_) (fun h24 => ?_)
    · refine V_iconst X (nI 1) dX5_sign_34 (by decide) ?_
      refine V_goto X 39 dX5_sign_35 (by decide) ?_
      exact V_zret X E dX5_sign_39 (by first | exact Or.inl rfl | exact Or.inr rfl | exact bi_01 _) rfl rfl
    · exact absurd (ts_nn h24) hx
  · exact absurd (ts_nn h8) hf

def adT (S : Sx) (n b : Nat) (x : Int32) : Sx := st (st S 2 (n * 5 + b) x) 1 3 (nI (b + 1))
theorem adT_n {S : Sx} {n b : Nat} {x : Int32} : adT S n b x 1 2 = S 1 2 := by unfold adT; simp only [st_at]; simp
theorem adT_ne {S : Sx} {n b q : Nat} {x : Int32} (h1 : q ≠ 1) (h2 : q ≠ 2) : adT S n b x q = S q := by unfold adT; rw [st_ne h1, st_ne h2]
set_option maxRecDepth 100000 in
set_option maxHeartbeats 4000000 in
theorem kX5_sign_end {G : Cx} {S : Sx} (hN : 80 ≤ gN G) {n b : Nat} (hn : S 1 2 = nI n) (hb : S 1 3 = nI b) (hn14 : n ≤ 14) (hb5 : b < 5) {ns nr zs : Nat} {R : Sx × Nat × Bool} (hf : fitF n b (S 2) (nI 50) ≠ 0) (hzs : S 6 n = nI zs) (hzs64 : zs ≤ 64) (hok : ∀ t, t ≤ n → okS (castF (adT S n b (nI 50)) n) t) (hns : bcF (castF (adT S n b (nI 50)) n 3 (2 * n + 0)) = nI ns) (hnr : (if adT S n b (nI 50) 2 (n * 5 + 1) = nI 33 then bcF (castF (adT S n b (nI 50)) n 3 (2 * n + 1)) else nI 1) = nI nr) (hns8 : ns ≤ 8) (hnr8 : nr ≤ 8) (hR0 : ews n ns nr zs 0 (st (castF (adT S n b (nI 50)) n) 6 (n + 1) (nI 0)) 0 = R) : CT G (7) yX5_sign cX5_sign 2 (some .boolean) [ra G 0, .int (nI 50)] S (bb (R.2.2 && decide (0 < R.2.1))) (fnS R n) := by
  refine CT_of (by decide) (Nat.le_of_ble_eq_true rfl) (by intro v hv; simp only [List.mem_cons, List.not_mem_nil, or_false] at hv; rcases hv with rfl | rfl <;> rfl) (fun F X E => ?_)
  have hR := RI_R E
  refine V_aload_n X dX5_sign_0 rfl ?_
  refine V_getr X flX5_12 (ltN (by decide) hN) rfl rfl dX5_sign_1 ?_
  refine V_iload_n X dX5_sign_4 rfl ?_
  refine V_cvi X (ltN (by decide) hN) rfl rfl rfl (kX2_fits hN hn hb hn14 hb5) cwX5_48 rfl (rm_ok hR (by decide) (by decide)) (Nat.le_of_ble_eq_true rfl) dX5_sign_5 ?_
  refine V_if_ne X 13 dX5_sign_8 (by decide) (fun h8 => ?_) (fun h8 => ?_)
  · refine V_aload_n X dX5_sign_13 rfl ?_
    refine V_getr X flX5_12 (ltN (by decide) hN) rfl rfl dX5_sign_14 ?_
    refine V_iload_n X dX5_sign_17 rfl ?_
    refine V_cvv X (ltN (by decide) hN) rfl rfl rfl (kX2_add hN hn hb (fitF_lt hf) hb5) cwX5_52 rfl (rm_ok hR (by decide) (by decide)) (Nat.le_of_ble_eq_true rfl) dX5_sign_18 ?_
    refine V_iload_n X dX5_sign_21 rfl ?_
    refine V_bipush X (nI 50) dX5_sign_22 (by decide) ?_
    refine V_icmp_ne X 34 dX5_sign_24 (by decide) (fun h24 => ?_) (fun h24 => ?_)
    · exact absurd rfl h24
    · refine V_aload_n X dX5_sign_27 rfl ?_
      refine V_cvi X (ltN (by decide) hN) rfl rfl rfl (kX5_finishSentence hN (by show adT S n b (nI 50) 1 2 = _; rw [adT_n]; exact hn) (by have := fitF_lt hf; omega) (by show adT S n b (nI 50) 6 n = _; rw [adT_ne (by decide) (by decide)]; exact hzs) hzs64 hok hns hnr hns8 hnr8 hR0) cwX5_55 rfl (rm_ok hR (by decide) (by decide)) (Nat.le_of_ble_eq_true rfl) dX5_sign_28 ?_
      refine V_if_eq X 38 dX5_sign_31 (by decide) (fun h31 => ?_) (fun h31 => ?_)
      · refine V_iconst X (nI 0) dX5_sign_38 (by decide) ?_
        exact V_zret X E dX5_sign_39 (by first | exact Or.inl rfl | exact Or.inr rfl) (by first | (rw [bb_0.mp h31]; rfl) | (rw [bb_n.mp h31]; rfl)) rfl
      · refine V_iconst X (nI 1) dX5_sign_34 (by decide) ?_
        refine V_goto X 39 dX5_sign_35 (by decide) ?_
        exact V_zret X E dX5_sign_39 (by first | exact Or.inl rfl | exact Or.inr rfl) (by first | (rw [bb_0.mp h31]; rfl) | (rw [bb_n.mp h31]; rfl)) rfl
  · exact absurd (ts_nn h8) hf

set_option maxRecDepth 100000 in
set_option maxHeartbeats 4000000 in
theorem kX5_back {G : Cx} {S : Sx} (hN : 80 ≤ gN G) {n b : Nat} (hn : S 1 2 = nI n) (hb : S 1 3 = nI b) (hn14 : n ≤ 14) (hb5 : b < 5) : CT G (1) yX5_back cX5_back 1 (some .boolean) [ra G 0] S (bi (0 < b ∨ 0 < n)) (if 0 < b then st S 1 3 (nI 0) else if 0 < n then st S 1 2 (nI (n - 1)) else S) := by
  refine CT_of (by decide) (Nat.le_of_ble_eq_true rfl) (by intro v hv; simp only [List.mem_cons, List.not_mem_nil, or_false] at hv; rcases hv with rfl <;> rfl) (fun F X E => ?_)
  have hR := RI_R E
  refine V_aload_n X dX5_back_0 rfl ?_
  refine V_getr X flX5_12 (ltN (by decide) hN) rfl rfl dX5_back_1 ?_
  refine V_cvi X (ltN (by decide) hN) rfl rfl rfl (kX2_forgetLatest hN hn hb hn14 hb5) cwX5_59 rfl (rm_ok hR (by decide) (by decide)) (Nat.le_of_ble_eq_true rfl) dX5_back_4 ?_
  exact V_zret X E dX5_back_7 (by first | exact Or.inl rfl | exact Or.inr rfl | exact bi_01 _) rfl rfl

set_option maxRecDepth 100000 in
set_option maxHeartbeats 4000000 in
theorem kX5_told {G : Cx} {S : Sx} (hN : 80 ≤ gN G) {x y : Int32} {n b : Nat} (hn : S 1 2 = nI n) (hb : S 1 3 = nI b) (hn14 : n ≤ 14) (hb5 : b < 5) : CT G (3) yX5_told cX5_told 3 (some .int) [ra G 0, .int x, .int y] S (tAt n b (S 2) x y) (S) := by
  refine CT_of (by decide) (Nat.le_of_ble_eq_true rfl) (by intro v hv; simp only [List.mem_cons, List.not_mem_nil, or_false] at hv; rcases hv with rfl | rfl | rfl <;> rfl) (fun F X E => ?_)
  have hR := RI_R E
  refine V_aload_n X dX5_told_0 rfl ?_
  refine V_getr X flX5_12 (ltN (by decide) hN) rfl rfl dX5_told_1 ?_
  refine V_iload_n X dX5_told_4 rfl ?_
  refine V_iload_n X dX5_told_5 rfl ?_
  refine V_cvi X (ltN (by decide) hN) rfl rfl rfl (kX2_signAt hN hn hb hn14 hb5) cwX5_62 rfl (rm_ok hR (by decide) (by decide)) (Nat.le_of_ble_eq_true rfl) dX5_told_6 ?_
  exact V_iret X E dX5_told_9 rfl rfl

set_option maxRecDepth 100000 in
set_option maxHeartbeats 4000000 in
theorem kX5_readings {G : Cx} {S : Sx} (hN : 80 ≤ gN G) {n : Nat} (hn : S 1 2 = nI n) (hn14 : n ≤ 14) {x : Int32} : CT G (1) yX5_readings cX5_readings 2 (some .int) [ra G 0, .int x] S (if pfP n x then S 6 x.toNatClampNeg else -1) (S) := by
  refine CT_of (by decide) (Nat.le_of_ble_eq_true rfl) (by intro v hv; simp only [List.mem_cons, List.not_mem_nil, or_false] at hv; rcases hv with rfl | rfl <;> rfl) (fun F X E => ?_)
  have hR := RI_R E
  refine V_aload_n X dX5_readings_0 rfl ?_
  refine V_iload_n X dX5_readings_1 rfl ?_
  refine V_cvi X (ltN (by decide) hN) rfl rfl rfl (kX5_hasPrefix hN hn hn14) cwX5_66 rfl (rm_ok hR (by decide) (by decide)) (Nat.le_of_ble_eq_true rfl) dX5_readings_2 ?_
  refine V_if_eq X 19 dX5_readings_5 (by decide) (fun h5 => ?_) (fun h5 => ?_)
  · refine V_iconst X (-1) dX5_readings_19 (by decide) ?_
    exact V_iret X E dX5_readings_20 (by first | (rw [if_neg (bi_eq.mp h5)]; done) | (rw [if_pos (Classical.byContradiction (fun z => h5 (bi_eq.mpr z))), nI_clamp (by omega)])) rfl
  · obtain ⟨k, hk, rfl⟩ := pf_nat (by omega) (Classical.byContradiction (fun z => h5 (bi_eq.mpr z)))
    refine V_aload_n X dX5_readings_8 rfl ?_
    refine V_getr X flX5_19 (ltN (by decide) hN) rfl rfl dX5_readings_9 ?_
    refine V_iload_n X dX5_readings_12 rfl ?_
    refine V_cvi X (ltN (by decide) hN) rfl rfl rfl (kX3_size hN (by omega)) cwX5_69 rfl (rm_ok hR (by decide) (by decide)) (Nat.le_of_ble_eq_true rfl) dX5_readings_13 ?_
    refine V_goto X 20 dX5_readings_16 (by decide) ?_
    exact V_iret X E dX5_readings_20 (by first | (rw [if_neg (bi_eq.mp h5)]; done) | (rw [if_pos (Classical.byContradiction (fun z => h5 (bi_eq.mpr z))), nI_clamp (by omega)])) rfl

set_option maxRecDepth 100000 in
set_option maxHeartbeats 4000000 in
theorem kX5_means_no {G : Cx} {S : Sx} (hN : 80 ≤ gN G) {n : Nat} (hn : S 1 2 = nI n) (hn14 : n ≤ 14) {z : Nat} (hz : S 6 n = nI z) (hz64 : z ≤ 64) {x w r : Int32} (hno : ¬ ((0 ≤ x.toInt ∧ x.toInt < n) ∧ rdP z r ∧ (w = nI 0 ∨ w = nI 1))) : CT G (2) yX5_means cX5_means 4 (some .int) [ra G 0, .int x, .int w, .int r] S (-1) (S) := by
  refine CT_of (by decide) (Nat.le_of_ble_eq_true rfl) (by intro v hv; simp only [List.mem_cons, List.not_mem_nil, or_false] at hv; rcases hv with rfl | rfl | rfl | rfl <;> rfl) (fun F X E => ?_)
  have hR := RI_R E
  refine V_iload_n X dX5_means_0 rfl ?_
  refine V_if_lt X 23 dX5_means_1 (by decide) (fun h1 => ?_) (fun h1 => ?_)
  · refine V_iconst X (-1) dX5_means_23 (by decide) ?_
    exact V_iret X E dX5_means_24 rfl rfl
  · refine V_iload_n X dX5_means_4 rfl ?_
    refine V_aload_n X dX5_means_5 rfl ?_
    refine V_getr X flX5_12 (ltN (by decide) hN) rfl rfl dX5_means_6 ?_
    refine V_getNi X fnX5_73 (ltN (by decide) hN) rfl rfl dX5_means_9 ?_
    refine V_top (nI (n)) (by first | exact hn | (simp only [st_at]; simp; exact hn)) ?_
    refine V_icmp_ge X 23 dX5_means_12 (by decide) (fun h12 => ?_) (fun h12 => ?_)
    · refine V_iconst X (-1) dX5_means_23 (by decide) ?_
      exact V_iret X E dX5_means_24 rfl rfl
    · refine V_aload_n X dX5_means_15 rfl ?_
      refine V_iload_n X dX5_means_16 rfl ?_
      refine V_cvi X (ltN (by decide) hN) rfl rfl rfl (kX5_hasReading hN hn hn14 hz hz64) cwX5_77 rfl (rm_ok hR (by decide) (by decide)) (Nat.le_of_ble_eq_true rfl) dX5_means_17 ?_
      refine V_if_ne X 25 dX5_means_20 (by decide) (fun h20 => ?_) (fun h20 => ?_)
      · refine V_iload_n X dX5_means_25 rfl ?_
        refine V_if_eq X 36 dX5_means_26 (by decide) (fun h26 => ?_) (fun h26 => ?_)
        · exact absurd ⟨⟨nlt0 h1, ngek (by omega) h12⟩, bi_ne.mp h20, Or.inl h26⟩ hno
        · refine V_iload_n X dX5_means_29 rfl ?_
          refine V_iconst X (nI 1) dX5_means_30 (by decide) ?_
          refine V_icmp_eq X 36 dX5_means_31 (by decide) (fun h31 => ?_) (fun h31 => ?_)
          · exact absurd ⟨⟨nlt0 h1, ngek (by omega) h12⟩, bi_ne.mp h20, Or.inr h31⟩ hno
          · refine V_iconst X (-1) dX5_means_34 (by decide) ?_
            exact V_iret X E dX5_means_35 rfl rfl
      · refine V_iconst X (-1) dX5_means_23 (by decide) ?_
        exact V_iret X E dX5_means_24 rfl rfl

set_option maxRecDepth 100000 in
set_option maxHeartbeats 4000000 in
theorem kX5_means {G : Cx} {S : Sx} (hN : 80 ≤ gN G) {n : Nat} (hn : S 1 2 = nI n) (hn14 : n ≤ 14) {z : Nat} (hz : S 6 n = nI z) (hz64 : z ≤ 64) {s u t : Nat} (hs : s < n) (hu : u < 2) (ht : t < z) : CT G (2) yX5_means cX5_means 4 (some .int) [ra G 0, .int (nI s), .int (nI u), .int (nI t)] S (pp S s u (S (20 + n) t)) (S) := by
  refine CT_of (by decide) (Nat.le_of_ble_eq_true rfl) (by intro v hv; simp only [List.mem_cons, List.not_mem_nil, or_false] at hv; rcases hv with rfl | rfl | rfl | rfl <;> rfl) (fun F X E => ?_)
  have hR := RI_R E
  refine V_iload_n X dX5_means_0 rfl ?_
  refine V_iN_lt X 23 (by omega) dX5_means_1 (by decide) ?_
  refine V_iload_n X dX5_means_4 rfl ?_
  refine V_aload_n X dX5_means_5 rfl ?_
  refine V_getr X flX5_12 (ltN (by decide) hN) rfl rfl dX5_means_6 ?_
  refine V_getNi X fnX5_73 (ltN (by decide) hN) rfl rfl dX5_means_9 ?_
  refine V_top (nI (n)) (by first | exact hn | (simp only [st_at]; simp; exact hn)) ?_
  refine V_cN_ge X 23 (by omega) (by omega) dX5_means_12 (by decide) (fun h12 => ?_) (fun h12 => ?_)
  · omega
  · refine V_aload_n X dX5_means_15 rfl ?_
    refine V_iload_n X dX5_means_16 rfl ?_
    refine V_cvi X (ltN (by decide) hN) rfl rfl rfl (kX5_hasReading hN hn hn14 hz hz64) cwX5_77 rfl (rm_ok hR (by decide) (by decide)) (Nat.le_of_ble_eq_true rfl) dX5_means_17 ?_
    refine V_if_ne X 25 dX5_means_20 (by decide) (fun h20 => ?_) (fun h20 => ?_)
    · refine V_iload_n X dX5_means_25 rfl ?_
      refine V_iN_eq X 36 (by omega) dX5_means_26 (by decide) (fun h26 => ?_) (fun h26 => ?_)
      · refine V_aload_n X dX5_means_36 rfl ?_
        refine V_getr X flX5_12 (ltN (by decide) hN) rfl rfl dX5_means_37 ?_
        refine V_iload_n X dX5_means_40 rfl ?_
        refine V_iload_n X dX5_means_41 rfl ?_
        refine V_aload_n X dX5_means_42 rfl ?_
        refine V_getr X flX5_19 (ltN (by decide) hN) rfl rfl dX5_means_43 ?_
        refine V_aload_n X dX5_means_46 rfl ?_
        refine V_getr X flX5_12 (ltN (by decide) hN) rfl rfl dX5_means_47 ?_
        refine V_getNi X fnX5_73 (ltN (by decide) hN) rfl rfl dX5_means_50 ?_
        refine V_top (nI (n)) (by first | exact hn | (simp only [st_at]; simp; exact hn)) ?_
        refine V_iload_n X dX5_means_53 rfl ?_
        refine V_cvi X (ltN (by decide) hN) rfl rfl rfl (kX3_choices hN (by omega) (by omega)) cwX5_80 rfl (rm_ok hR (by decide) (by decide)) (Nat.le_of_ble_eq_true rfl) dX5_means_54 ?_
        refine V_cvi X (ltN (by decide) hN) rfl rfl rfl (kX2_person hN (by omega) (by omega)) cwX5_83 rfl (rm_ok hR (by decide) (by decide)) (Nat.le_of_ble_eq_true rfl) dX5_means_57 ?_
        exact V_iret X E dX5_means_60 rfl rfl
      · refine V_iload_n X dX5_means_29 rfl ?_
        refine V_iconst X (nI 1) dX5_means_30 (by decide) ?_
        refine V_cN_eq X 36 (by omega) (by omega) dX5_means_31 (by decide) (fun h31 => ?_) (fun h31 => ?_)
        · refine V_aload_n X dX5_means_36 rfl ?_
          refine V_getr X flX5_12 (ltN (by decide) hN) rfl rfl dX5_means_37 ?_
          refine V_iload_n X dX5_means_40 rfl ?_
          refine V_iload_n X dX5_means_41 rfl ?_
          refine V_aload_n X dX5_means_42 rfl ?_
          refine V_getr X flX5_19 (ltN (by decide) hN) rfl rfl dX5_means_43 ?_
          refine V_aload_n X dX5_means_46 rfl ?_
          refine V_getr X flX5_12 (ltN (by decide) hN) rfl rfl dX5_means_47 ?_
          refine V_getNi X fnX5_73 (ltN (by decide) hN) rfl rfl dX5_means_50 ?_
          refine V_top (nI (n)) (by first | exact hn | (simp only [st_at]; simp; exact hn)) ?_
          refine V_iload_n X dX5_means_53 rfl ?_
          refine V_cvi X (ltN (by decide) hN) rfl rfl rfl (kX3_choices hN (by omega) (by omega)) cwX5_80 rfl (rm_ok hR (by decide) (by decide)) (Nat.le_of_ble_eq_true rfl) dX5_means_54 ?_
          refine V_cvi X (ltN (by decide) hN) rfl rfl rfl (kX2_person hN (by omega) (by omega)) cwX5_83 rfl (rm_ok hR (by decide) (by decide)) (Nat.le_of_ble_eq_true rfl) dX5_means_57 ?_
          exact V_iret X E dX5_means_60 rfl rfl
        · omega
    · exact absurd (bi_eq.mp (ts_nn h20)) (fun q => q ⟨by rw [nI_toInt (by omega)]; omega, by rw [nI_toInt (by omega)]; omega⟩)

set_option maxRecDepth 100000 in
set_option maxHeartbeats 4000000 in
theorem kX5_answer_no {G : Cx} {S : Sx} (hN : 80 ≤ gN G) {n : Nat} (hn : S 1 2 = nI n) (hn14 : n ≤ 14) {x y k : Int32} (hno : ¬ (okQ x y ∧ pfP n k)) : CT G (2) yX5_answer cX5_answer 5 (some .int) [ra G 0, .int x, .int y, .int k] S (-1) (S) := by
  refine CT_of (by decide) (Nat.le_of_ble_eq_true rfl) (by intro v hv; simp only [List.mem_cons, List.not_mem_nil, or_false] at hv; rcases hv with rfl | rfl | rfl | rfl <;> rfl) (fun F X E => ?_)
  have hR := RI_R E
  refine V_iload_n X dX5_answer_0 rfl ?_
  refine V_iload_n X dX5_answer_1 rfl ?_
  refine V_csi X (kX5_questionNumber ) cwX5_87 rfl (rm_ok hR (by decide) (by decide)) (Nat.le_of_ble_eq_true rfl) dX5_answer_2 ?_
  refine V_istore X dX5_answer_5 (by rw [hR.2]; decide) ?_
  refine V_iload X dX5_answer_7 rfl ?_
  refine V_iconst X (-1) dX5_answer_9 (by decide) ?_
  refine V_icmp_eq X 21 dX5_answer_10 (by decide) (fun h10 => ?_) (fun h10 => ?_)
  · refine V_iconst X (-1) dX5_answer_21 (by decide) ?_
    refine V_goto X 37 dX5_answer_22 (by decide) ?_
    exact V_iret X E dX5_answer_37 rfl rfl
  · refine V_aload_n X dX5_answer_13 rfl ?_
    refine V_iload_n X dX5_answer_14 rfl ?_
    refine V_cvi X (ltN (by decide) hN) rfl rfl rfl (kX5_hasPrefix hN hn hn14) cwX5_66 rfl (rm_ok hR (by decide) (by decide)) (Nat.le_of_ble_eq_true rfl) dX5_answer_15 ?_
    refine V_if_ne X 25 dX5_answer_18 (by decide) (fun h18 => ?_) (fun h18 => ?_)
    · exfalso
      rcases qnF_or x y with ⟨-, e⟩ | ⟨kk, aa, hq, rfl, rfl, e⟩
      · exact h10 e
      · exact hno ⟨(okQ_n (by have := hq.1; omega) (by have := hq.2; omega)).mpr (okQ_q.mpr hq), bi_ne.mp h18⟩
    · refine V_iconst X (-1) dX5_answer_21 (by decide) ?_
      refine V_goto X 37 dX5_answer_22 (by decide) ?_
      exact V_iret X E dX5_answer_37 rfl rfl

set_option maxRecDepth 100000 in
set_option maxHeartbeats 4000000 in
theorem kX5_answer {G : Cx} {S : Sx} (hN : 80 ≤ gN G) {n : Nat} (hn : S 1 2 = nI n) (hn14 : n ≤ 14) {k a j : Nat} (hq : qOk k a) (hj : j ≤ n) : CT G (2) yX5_answer cX5_answer 5 (some .int) [ra G 0, .int (nI k), .int (nI a), .int (nI j)] S (S (35 + j) (qix k a)) (S) := by
  have hq36 := qix_36 hq
  refine CT_of (by decide) (Nat.le_of_ble_eq_true rfl) (by intro v hv; simp only [List.mem_cons, List.not_mem_nil, or_false] at hv; rcases hv with rfl | rfl | rfl | rfl <;> rfl) (fun F X E => ?_)
  have hR := RI_R E
  refine V_iload_n X dX5_answer_0 rfl ?_
  refine V_iload_n X dX5_answer_1 rfl ?_
  refine V_csi X (kX5_questionNumber ) cwX5_87 rfl (rm_ok hR (by decide) (by decide)) (Nat.le_of_ble_eq_true rfl) dX5_answer_2 ?_
  refine V_top (nI (qix k a)) (qnF_n hq) ?_
  refine V_istore X dX5_answer_5 (by rw [hR.2]; decide) ?_
  refine V_iload X dX5_answer_7 rfl ?_
  refine V_iconst X (-1) dX5_answer_9 (by decide) ?_
  refine V_icmp_eq X 21 dX5_answer_10 (by decide) (fun h10 => ?_) (fun h10 => ?_)
  · exact absurd h10 (m1_ne (by omega))
  · refine V_aload_n X dX5_answer_13 rfl ?_
    refine V_iload_n X dX5_answer_14 rfl ?_
    refine V_cvi X (ltN (by decide) hN) rfl rfl rfl (kX5_hasPrefix hN hn hn14) cwX5_66 rfl (rm_ok hR (by decide) (by decide)) (Nat.le_of_ble_eq_true rfl) dX5_answer_15 ?_
    refine V_if_ne X 25 dX5_answer_18 (by decide) (fun h18 => ?_) (fun h18 => ?_)
    · refine V_aload_n X dX5_answer_25 rfl ?_
      refine V_getr X flX5_33 (ltN (by decide) hN) rfl rfl dX5_answer_26 ?_
      refine V_getNr X fnX5_90 (ltN (by decide) hN) rfl rfl dX5_answer_29 ?_
      refine V_iload_n X dX5_answer_32 rfl ?_
      refine V_aaldN X (ltN (by decide) hN) rfl (by omega) dX5_answer_33 ?_
      refine V_iload X dX5_answer_34 rfl ?_
      refine V_ialdN X (ltN (by omega) hN) (ds_fnd (by omega) (by omega)) (by omega) (by decide) dX5_answer_36 ?_
      exact V_iret X E dX5_answer_37 rfl rfl
    · exact absurd (bi_eq.mp (ts_nn h18)) (fun q => q ⟨by rw [nI_toInt (by omega)]; omega, by rw [nI_toInt (by omega)]; omega⟩)

set_option maxRecDepth 100000 in
set_option maxHeartbeats 4000000 in
theorem kX5_level_no {G : Cx} {S : Sx} (hN : 80 ≤ gN G) {n : Nat} (hn : S 1 2 = nI n) (hn14 : n ≤ 14) {x y k : Int32} (hno : ¬ (okQ x y ∧ pfP n k)) : CT G (2) yX5_level cX5_level 5 (some .int) [ra G 0, .int x, .int y, .int k] S (-1) (S) := by
  refine CT_of (by decide) (Nat.le_of_ble_eq_true rfl) (by intro v hv; simp only [List.mem_cons, List.not_mem_nil, or_false] at hv; rcases hv with rfl | rfl | rfl | rfl <;> rfl) (fun F X E => ?_)
  have hR := RI_R E
  refine V_iload_n X dX5_level_0 rfl ?_
  refine V_iload_n X dX5_level_1 rfl ?_
  refine V_csi X (kX5_questionNumber ) cwX5_87 rfl (rm_ok hR (by decide) (by decide)) (Nat.le_of_ble_eq_true rfl) dX5_level_2 ?_
  refine V_istore X dX5_level_5 (by rw [hR.2]; decide) ?_
  refine V_iload X dX5_level_7 rfl ?_
  refine V_iconst X (-1) dX5_level_9 (by decide) ?_
  refine V_icmp_eq X 21 dX5_level_10 (by decide) (fun h10 => ?_) (fun h10 => ?_)
  · refine V_iconst X (-1) dX5_level_21 (by decide) ?_
    refine V_goto X 37 dX5_level_22 (by decide) ?_
    exact V_iret X E dX5_level_37 rfl rfl
  · refine V_aload_n X dX5_level_13 rfl ?_
    refine V_iload_n X dX5_level_14 rfl ?_
    refine V_cvi X (ltN (by decide) hN) rfl rfl rfl (kX5_hasPrefix hN hn hn14) cwX5_66 rfl (rm_ok hR (by decide) (by decide)) (Nat.le_of_ble_eq_true rfl) dX5_level_15 ?_
    refine V_if_ne X 25 dX5_level_18 (by decide) (fun h18 => ?_) (fun h18 => ?_)
    · exfalso
      rcases qnF_or x y with ⟨-, e⟩ | ⟨kk, aa, hq, rfl, rfl, e⟩
      · exact h10 e
      · exact hno ⟨(okQ_n (by have := hq.1; omega) (by have := hq.2; omega)).mpr (okQ_q.mpr hq), bi_ne.mp h18⟩
    · refine V_iconst X (-1) dX5_level_21 (by decide) ?_
      refine V_goto X 37 dX5_level_22 (by decide) ?_
      exact V_iret X E dX5_level_37 rfl rfl

set_option maxRecDepth 100000 in
set_option maxHeartbeats 4000000 in
theorem kX5_level {G : Cx} {S : Sx} (hN : 80 ≤ gN G) {n : Nat} (hn : S 1 2 = nI n) (hn14 : n ≤ 14) {k a j : Nat} (hq : qOk k a) (hj : j ≤ n) : CT G (2) yX5_level cX5_level 5 (some .int) [ra G 0, .int (nI k), .int (nI a), .int (nI j)] S (S (50 + j) (qix k a)) (S) := by
  have hq36 := qix_36 hq
  refine CT_of (by decide) (Nat.le_of_ble_eq_true rfl) (by intro v hv; simp only [List.mem_cons, List.not_mem_nil, or_false] at hv; rcases hv with rfl | rfl | rfl | rfl <;> rfl) (fun F X E => ?_)
  have hR := RI_R E
  refine V_iload_n X dX5_level_0 rfl ?_
  refine V_iload_n X dX5_level_1 rfl ?_
  refine V_csi X (kX5_questionNumber ) cwX5_87 rfl (rm_ok hR (by decide) (by decide)) (Nat.le_of_ble_eq_true rfl) dX5_level_2 ?_
  refine V_top (nI (qix k a)) (qnF_n hq) ?_
  refine V_istore X dX5_level_5 (by rw [hR.2]; decide) ?_
  refine V_iload X dX5_level_7 rfl ?_
  refine V_iconst X (-1) dX5_level_9 (by decide) ?_
  refine V_icmp_eq X 21 dX5_level_10 (by decide) (fun h10 => ?_) (fun h10 => ?_)
  · exact absurd h10 (m1_ne (by omega))
  · refine V_aload_n X dX5_level_13 rfl ?_
    refine V_iload_n X dX5_level_14 rfl ?_
    refine V_cvi X (ltN (by decide) hN) rfl rfl rfl (kX5_hasPrefix hN hn hn14) cwX5_66 rfl (rm_ok hR (by decide) (by decide)) (Nat.le_of_ble_eq_true rfl) dX5_level_15 ?_
    refine V_if_ne X 25 dX5_level_18 (by decide) (fun h18 => ?_) (fun h18 => ?_)
    · refine V_aload_n X dX5_level_25 rfl ?_
      refine V_getr X flX5_33 (ltN (by decide) hN) rfl rfl dX5_level_26 ?_
      refine V_getNr X fnX5_94 (ltN (by decide) hN) rfl rfl dX5_level_29 ?_
      refine V_iload_n X dX5_level_32 rfl ?_
      refine V_aaldN X (ltN (by decide) hN) rfl (by omega) dX5_level_33 ?_
      refine V_iload X dX5_level_34 rfl ?_
      refine V_ialdN X (ltN (by omega) hN) (ds_fnd (by omega) (by omega)) (by omega) (by decide) dX5_level_36 ?_
      exact V_iret X E dX5_level_37 rfl rfl
    · exact absurd (bi_eq.mp (ts_nn h18)) (fun q => q ⟨by rw [nI_toInt (by omega)]; omega, by rw [nI_toInt (by omega)]; omega⟩)

set_option maxRecDepth 100000 in
set_option maxHeartbeats 4000000 in
theorem kX5_asks_no {G : Cx} {S : Sx} (hN : 80 ≤ gN G) {n : Nat} (hn : S 1 2 = nI n) (hn14 : n ≤ 14) {x y : Int32} (hno : ¬ okQ x y) : CT G (2) yX5_asks cX5_asks 4 (some .int) [ra G 0, .int x, .int y] S (-1) (S) := by
  refine CT_of (by decide) (Nat.le_of_ble_eq_true rfl) (by intro v hv; simp only [List.mem_cons, List.not_mem_nil, or_false] at hv; rcases hv with rfl | rfl | rfl <;> rfl) (fun F X E => ?_)
  have hR := RI_R E
  refine V_iload_n X dX5_asks_0 rfl ?_
  refine V_iload_n X dX5_asks_1 rfl ?_
  refine V_csi X (kX5_questionNumber ) cwX5_87 rfl (rm_ok hR (by decide) (by decide)) (Nat.le_of_ble_eq_true rfl) dX5_asks_2 ?_
  refine V_istore_n X dX5_asks_5 (by rw [hR.2]; decide) ?_
  refine V_iload_n X dX5_asks_6 rfl ?_
  refine V_iconst X (-1) dX5_asks_7 (by decide) ?_
  refine V_icmp_ne X 15 dX5_asks_8 (by decide) (fun h8 => ?_) (fun h8 => ?_)
  · exact absurd (qnF_no hno).symm h8
  · refine V_iconst X (-1) dX5_asks_11 (by decide) ?_
    refine V_goto X 32 dX5_asks_12 (by decide) ?_
    exact V_iret X E dX5_asks_32 rfl rfl

set_option maxRecDepth 100000 in
set_option maxHeartbeats 4000000 in
theorem kX5_asks {G : Cx} {S : Sx} (hN : 80 ≤ gN G) {n : Nat} (hn : S 1 2 = nI n) (hn14 : n ≤ 14) {k a : Nat} (hq : qOk k a) : CT G (2) yX5_asks cX5_asks 4 (some .int) [ra G 0, .int (nI k), .int (nI a)] S (S (65 + n) (qix k a)) (S) := by
  have hq36 := qix_36 hq
  refine CT_of (by decide) (Nat.le_of_ble_eq_true rfl) (by intro v hv; simp only [List.mem_cons, List.not_mem_nil, or_false] at hv; rcases hv with rfl | rfl | rfl <;> rfl) (fun F X E => ?_)
  have hR := RI_R E
  refine V_iload_n X dX5_asks_0 rfl ?_
  refine V_iload_n X dX5_asks_1 rfl ?_
  refine V_csi X (kX5_questionNumber ) cwX5_87 rfl (rm_ok hR (by decide) (by decide)) (Nat.le_of_ble_eq_true rfl) dX5_asks_2 ?_
  refine V_top (nI (qix k a)) (qnF_n hq) ?_
  refine V_istore_n X dX5_asks_5 (by rw [hR.2]; decide) ?_
  refine V_iload_n X dX5_asks_6 rfl ?_
  refine V_iconst X (-1) dX5_asks_7 (by decide) ?_
  refine V_icmp_ne X 15 dX5_asks_8 (by decide) (fun h8 => ?_) (fun h8 => ?_)
  · refine V_aload_n X dX5_asks_15 rfl ?_
    refine V_getr X flX5_33 (ltN (by decide) hN) rfl rfl dX5_asks_16 ?_
    refine V_getNr X fnX5_114 (ltN (by decide) hN) rfl rfl dX5_asks_19 ?_
    refine V_aload_n X dX5_asks_22 rfl ?_
    refine V_getr X flX5_12 (ltN (by decide) hN) rfl rfl dX5_asks_23 ?_
    refine V_getNi X fnX5_73 (ltN (by decide) hN) rfl rfl dX5_asks_26 ?_
    refine V_top (nI (n)) (by first | exact hn | (simp only [st_at]; simp; exact hn)) ?_
    refine V_aaldN X (ltN (by decide) hN) rfl (by omega) dX5_asks_29 ?_
    refine V_iload_n X dX5_asks_30 rfl ?_
    refine V_ialdN X (ltN (by omega) hN) (ds_fnd (by omega) (by omega)) (by omega) (by decide) dX5_asks_31 ?_
    exact V_iret X E dX5_asks_32 rfl rfl
  · exact absurd (ts_nn h8) (m1_ne (by omega))

set_option maxRecDepth 100000 in
set_option maxHeartbeats 4000000 in
theorem kX5_grounds_no {G : Cx} {S : Sx} (hN : 80 ≤ gN G) {n : Nat} (hn : S 1 2 = nI n) (hn14 : n ≤ 14) {z : Nat} (hz : S 6 n = nI z) (hz64 : z ≤ 64) {x y r : Int32} (hno : ¬ (okQ x y ∧ rdP z r)) : CT G (5) yX5_grounds cX5_grounds 4 (some .int) [ra G 0, .int x, .int y, .int r] S (-1) (S) := by
  refine CT_of (by decide) (Nat.le_of_ble_eq_true rfl) (by intro v hv; simp only [List.mem_cons, List.not_mem_nil, or_false] at hv; rcases hv with rfl | rfl | rfl | rfl <;> rfl) (fun F X E => ?_)
  have hR := RI_R E
  refine V_iload_n X dX5_grounds_0 rfl ?_
  refine V_iload_n X dX5_grounds_1 rfl ?_
  refine V_csi X (kX5_questionNumber ) cwX5_87 rfl (rm_ok hR (by decide) (by decide)) (Nat.le_of_ble_eq_true rfl) dX5_grounds_2 ?_
  refine V_iconst X (-1) dX5_grounds_5 (by decide) ?_
  refine V_icmp_eq X 17 dX5_grounds_6 (by decide) (fun h6 => ?_) (fun h6 => ?_)
  · refine V_iconst X (-1) dX5_grounds_17 (by decide) ?_
    exact V_iret X E dX5_grounds_18 rfl rfl
  · refine V_aload_n X dX5_grounds_9 rfl ?_
    refine V_iload_n X dX5_grounds_10 rfl ?_
    refine V_cvi X (ltN (by decide) hN) rfl rfl rfl (kX5_hasReading hN hn hn14 hz hz64) cwX5_77 rfl (rm_ok hR (by decide) (by decide)) (Nat.le_of_ble_eq_true rfl) dX5_grounds_11 ?_
    refine V_if_ne X 19 dX5_grounds_14 (by decide) (fun h14 => ?_) (fun h14 => ?_)
    · exfalso
      rcases qnF_or x y with ⟨-, e⟩ | ⟨kk, aa, hq, rfl, rfl, e⟩
      · exact h6 e
      · exact hno ⟨(okQ_n (by have := hq.1; omega) (by have := hq.2; omega)).mpr (okQ_q.mpr hq), bi_ne.mp h14⟩
    · refine V_iconst X (-1) dX5_grounds_17 (by decide) ?_
      exact V_iret X E dX5_grounds_18 rfl rfl

set_option maxRecDepth 100000 in
set_option maxHeartbeats 4000000 in
theorem kX5_grounds {G : Cx} {S : Sx} (hN : 80 ≤ gN G) {n : Nat} (hn : S 1 2 = nI n) (hn14 : n ≤ 14) {z : Nat} (hz : S 6 n = nI z) (hz64 : z ≤ 64) {k a t : Nat} (hq : qOk k a) (ht : t < z) (hok : ∀ s, s < n → okS S s) : CT G (5) yX5_grounds cX5_grounds 4 (some .int) [ra G 0, .int (nI k), .int (nI a), .int (nI t)] S (bs (goT S (S (20 + n) t) n) k a) (goT S (S (20 + n) t) n) := by
  have hq36 := qix_36 hq
  refine CT_of (by decide) (Nat.le_of_ble_eq_true rfl) (by intro v hv; simp only [List.mem_cons, List.not_mem_nil, or_false] at hv; rcases hv with rfl | rfl | rfl | rfl <;> rfl) (fun F X E => ?_)
  have hR := RI_R E
  refine V_iload_n X dX5_grounds_0 rfl ?_
  refine V_iload_n X dX5_grounds_1 rfl ?_
  refine V_csi X (kX5_questionNumber ) cwX5_87 rfl (rm_ok hR (by decide) (by decide)) (Nat.le_of_ble_eq_true rfl) dX5_grounds_2 ?_
  refine V_top (nI (qix k a)) (qnF_n hq) ?_
  refine V_iconst X (-1) dX5_grounds_5 (by decide) ?_
  refine V_icmp_eq X 17 dX5_grounds_6 (by decide) (fun h6 => ?_) (fun h6 => ?_)
  · exact absurd h6 (m1_ne (by omega))
  · refine V_aload_n X dX5_grounds_9 rfl ?_
    refine V_iload_n X dX5_grounds_10 rfl ?_
    refine V_cvi X (ltN (by decide) hN) rfl rfl rfl (kX5_hasReading hN hn hn14 hz hz64) cwX5_77 rfl (rm_ok hR (by decide) (by decide)) (Nat.le_of_ble_eq_true rfl) dX5_grounds_11 ?_
    refine V_if_ne X 19 dX5_grounds_14 (by decide) (fun h14 => ?_) (fun h14 => ?_)
    · refine V_aload_n X dX5_grounds_19 rfl ?_
      refine V_getr X flX5_26 (ltN (by decide) hN) rfl rfl dX5_grounds_20 ?_
      refine V_aload_n X dX5_grounds_23 rfl ?_
      refine V_getr X flX5_12 (ltN (by decide) hN) rfl rfl dX5_grounds_24 ?_
      refine V_aload_n X dX5_grounds_27 rfl ?_
      refine V_getr X flX5_12 (ltN (by decide) hN) rfl rfl dX5_grounds_28 ?_
      refine V_getNi X fnX5_73 (ltN (by decide) hN) rfl rfl dX5_grounds_31 ?_
      refine V_top (nI (n)) (by first | exact hn | (simp only [st_at]; simp; exact hn)) ?_
      refine V_aload_n X dX5_grounds_34 rfl ?_
      refine V_getr X flX5_19 (ltN (by decide) hN) rfl rfl dX5_grounds_35 ?_
      refine V_aload_n X dX5_grounds_38 rfl ?_
      refine V_getr X flX5_12 (ltN (by decide) hN) rfl rfl dX5_grounds_39 ?_
      refine V_getNi X fnX5_73 (ltN (by decide) hN) rfl rfl dX5_grounds_42 ?_
      refine V_top (nI (n)) (by first | exact hn | (simp only [st_at]; simp; exact hn)) ?_
      refine V_iload_n X dX5_grounds_45 rfl ?_
      refine V_cvi X (ltN (by decide) hN) rfl rfl rfl (kX3_choices hN (by omega) (by omega)) cwX5_80 rfl (rm_ok hR (by decide) (by decide)) (Nat.le_of_ble_eq_true rfl) dX5_grounds_46 ?_
      refine V_cvv X (ltN (by decide) hN) rfl rfl rfl (kX4_goThrough hN hn14 hok) cwX5_97 rfl (rm_ok hR (by decide) (by decide)) (Nat.le_of_ble_eq_true rfl) dX5_grounds_49 ?_
      refine V_aload_n X dX5_grounds_52 rfl ?_
      refine V_getr X flX5_26 (ltN (by decide) hN) rfl rfl dX5_grounds_53 ?_
      refine V_iload_n X dX5_grounds_56 rfl ?_
      refine V_iload_n X dX5_grounds_57 rfl ?_
      refine V_cvi X (ltN (by decide) hN) rfl rfl rfl (kX4_basis hN hq) cwX5_101 rfl (rm_ok hR (by decide) (by decide)) (Nat.le_of_ble_eq_true rfl) dX5_grounds_58 ?_
      exact V_iret X E dX5_grounds_61 rfl rfl
    · exact absurd (bi_eq.mp (ts_nn h14)) (fun q => q ⟨by rw [nI_toInt (by omega)]; omega, by rw [nI_toInt (by omega)]; omega⟩)

set_option maxRecDepth 100000 in
set_option maxHeartbeats 4000000 in
theorem kX5_judge_no {G : Cx} {S : Sx} (hN : 80 ≤ gN G) {n : Nat} (hn : S 1 2 = nI n) (hn14 : n ≤ 14) {x y v : Int32} (hno : ¬ okQ x y) : CT G (2) yX5_judge cX5_judge 5 (some .int) [ra G 0, .int x, .int y, .int v] S (-1) (S) := by
  refine CT_of (by decide) (Nat.le_of_ble_eq_true rfl) (by intro v hv; simp only [List.mem_cons, List.not_mem_nil, or_false] at hv; rcases hv with rfl | rfl | rfl | rfl <;> rfl) (fun F X E => ?_)
  have hR := RI_R E
  refine V_iload_n X dX5_judge_0 rfl ?_
  refine V_iload_n X dX5_judge_1 rfl ?_
  refine V_csi X (kX5_questionNumber ) cwX5_87 rfl (rm_ok hR (by decide) (by decide)) (Nat.le_of_ble_eq_true rfl) dX5_judge_2 ?_
  refine V_istore X dX5_judge_5 (by rw [hR.2]; decide) ?_
  refine V_iload X dX5_judge_7 rfl ?_
  refine V_iconst X (-1) dX5_judge_9 (by decide) ?_
  refine V_icmp_eq X 22 dX5_judge_10 (by decide) (fun h10 => ?_) (fun h10 => ?_)
  · refine V_iconst X (-1) dX5_judge_22 (by decide) ?_
    exact V_iret X E dX5_judge_23 rfl rfl
  · exact absurd (qnF_no hno).symm h10

def jdF (S : Sx) (n k a : Nat) (v : Int32) : Int32 := if S (35 + n) (qix k a) < 0 then -1 else if v = S (35 + n) (qix k a) then nI 0 else if okF k v = 0 then nI 1 else if waF S (qix k a) v n then nI 2 else nI 3
set_option maxRecDepth 100000 in
set_option maxHeartbeats 4000000 in
theorem kX5_judge {G : Cx} {S : Sx} (hN : 80 ≤ gN G) {n : Nat} (hn : S 1 2 = nI n) (hn14 : n ≤ 14) {k a : Nat} {v : Int32} (hq : qOk k a) : CT G (2) yX5_judge cX5_judge 5 (some .int) [ra G 0, .int (nI k), .int (nI a), .int v] S (jdF S n k a v) (S) := by
  have hq36 := qix_36 hq
  refine CT_of (by decide) (Nat.le_of_ble_eq_true rfl) (by intro v hv; simp only [List.mem_cons, List.not_mem_nil, or_false] at hv; rcases hv with rfl | rfl | rfl | rfl <;> rfl) (fun F X E => ?_)
  have hR := RI_R E
  refine V_iload_n X dX5_judge_0 rfl ?_
  refine V_iload_n X dX5_judge_1 rfl ?_
  refine V_csi X (kX5_questionNumber ) cwX5_87 rfl (rm_ok hR (by decide) (by decide)) (Nat.le_of_ble_eq_true rfl) dX5_judge_2 ?_
  refine V_top (nI (qix k a)) (qnF_n hq) ?_
  refine V_istore X dX5_judge_5 (by rw [hR.2]; decide) ?_
  refine V_iload X dX5_judge_7 rfl ?_
  refine V_iconst X (-1) dX5_judge_9 (by decide) ?_
  refine V_icmp_eq X 22 dX5_judge_10 (by decide) (fun h10 => ?_) (fun h10 => ?_)
  · exact absurd h10 (m1_ne (by omega))
  · refine V_aload_n X dX5_judge_13 rfl ?_
    refine V_iload X dX5_judge_14 rfl ?_
    refine V_cvi X (ltN (by decide) hN) rfl rfl rfl (kX5_rightAnswer hN hn hn14 hq36) cwX5_104 rfl (rm_ok hR (by decide) (by decide)) (Nat.le_of_ble_eq_true rfl) dX5_judge_16 ?_
    refine V_if_ge X 24 dX5_judge_19 (by decide) (fun h19 => ?_) (fun h19 => ?_)
    · refine V_iload_n X dX5_judge_24 rfl ?_
      refine V_aload_n X dX5_judge_25 rfl ?_
      refine V_iload X dX5_judge_26 rfl ?_
      refine V_cvi X (ltN (by decide) hN) rfl rfl rfl (kX5_rightAnswer hN hn hn14 hq36) cwX5_104 rfl (rm_ok hR (by decide) (by decide)) (Nat.le_of_ble_eq_true rfl) dX5_judge_28 ?_
      refine V_icmp_ne X 36 dX5_judge_31 (by decide) (fun h31 => ?_) (fun h31 => ?_)
      · refine V_iload_n X dX5_judge_36 rfl ?_
        refine V_iload_n X dX5_judge_37 rfl ?_
        refine V_csi X (kX5_isOfKind hq.1) cwX5_107 rfl (rm_ok hR (by decide) (by decide)) (Nat.le_of_ble_eq_true rfl) dX5_judge_38 ?_
        refine V_if_ne X 46 dX5_judge_41 (by decide) (fun h41 => ?_) (fun h41 => ?_)
        · refine V_aload_n X dX5_judge_46 rfl ?_
          refine V_iload X dX5_judge_47 rfl ?_
          refine V_iload_n X dX5_judge_49 rfl ?_
          refine V_cvi X (ltN (by decide) hN) rfl rfl rfl (kX5_wasAnswer hN hn hn14 hq36) cwX5_111 rfl (rm_ok hR (by decide) (by decide)) (Nat.le_of_ble_eq_true rfl) dX5_judge_50 ?_
          refine V_if_eq X 60 dX5_judge_53 (by decide) (fun h53 => ?_) (fun h53 => ?_)
          · refine V_iconst X (nI 3) dX5_judge_60 (by decide) ?_
            exact V_iret X E dX5_judge_61 (by unfold jdF; rw [if_neg (Int32.not_lt.mpr h19), if_neg h31, if_neg h41]; first | (rw [bb_0.mp h53]; rfl) | (rw [bb_n.mp h53]; rfl)) rfl
          · refine V_iconst X (nI 2) dX5_judge_56 (by decide) ?_
            refine V_goto X 61 dX5_judge_57 (by decide) ?_
            exact V_iret X E dX5_judge_61 (by unfold jdF; rw [if_neg (Int32.not_lt.mpr h19), if_neg h31, if_neg h41]; first | (rw [bb_0.mp h53]; rfl) | (rw [bb_n.mp h53]; rfl)) rfl
        · refine V_iconst X (nI 1) dX5_judge_44 (by decide) ?_
          exact V_iret X E dX5_judge_45 (by unfold jdF; rw [if_neg (Int32.not_lt.mpr h19), if_neg h31, if_pos (ts_nn h41)]) rfl
      · refine V_iconst X (nI 0) dX5_judge_34 (by decide) ?_
        exact V_iret X E dX5_judge_35 (by unfold jdF; rw [if_neg (Int32.not_lt.mpr h19), if_pos (ts_nn h31)]) rfl
    · refine V_iconst X (-1) dX5_judge_22 (by decide) ?_
      exact V_iret X E dX5_judge_23 (by unfold jdF; rw [if_pos (Int32.not_le.mp h19)]) rfl

set_option maxRecDepth 100000 in
set_option maxHeartbeats 4000000 in
theorem kX5_wrong_no {G : Cx} {S : Sx} (hN : 80 ≤ gN G) {n : Nat} (hn : S 1 2 = nI n) (hn14 : n ≤ 14) {x y v : Int32} (hno : ¬ okQ x y) : CT G (4) yX5_wrong cX5_wrong 5 (some .int) [ra G 0, .int x, .int y, .int v] S (-1) (S) := by
  refine CT_of (by decide) (Nat.le_of_ble_eq_true rfl) (by intro v hv; simp only [List.mem_cons, List.not_mem_nil, or_false] at hv; rcases hv with rfl | rfl | rfl | rfl <;> rfl) (fun F X E => ?_)
  have hR := RI_R E
  refine V_iload_n X dX5_wrong_0 rfl ?_
  refine V_iload_n X dX5_wrong_1 rfl ?_
  refine V_csi X (kX5_questionNumber ) cwX5_87 rfl (rm_ok hR (by decide) (by decide)) (Nat.le_of_ble_eq_true rfl) dX5_wrong_2 ?_
  refine V_istore X dX5_wrong_5 (by rw [hR.2]; decide) ?_
  refine V_iload X dX5_wrong_7 rfl ?_
  refine V_iconst X (-1) dX5_wrong_9 (by decide) ?_
  refine V_icmp_eq X 27 dX5_wrong_10 (by decide) (fun h10 => ?_) (fun h10 => ?_)
  · refine V_iconst X (-1) dX5_wrong_27 (by decide) ?_
    exact V_iret X E dX5_wrong_28 rfl rfl
  · exact absurd (qnF_no hno).symm h10

def wrF (S : Sx) (n k a : Nat) (v : Int32) : Int32 := if k = 3 then -1 else if S (35 + n) (qix k a) < 0 then -1 else if k = 2 then cbF (S (35 + n) (qix k a)) (anm (S 2) n (nI 0)) (nI 0) 8 0 v else cbF (S (35 + n) (qix k a)) (apl (S 2) n (nI 0)) (nI 20) 8 0 v
set_option maxRecDepth 100000 in
set_option maxHeartbeats 4000000 in
theorem kX5_wrong {G : Cx} {S : Sx} (hN : 80 ≤ gN G) {n : Nat} (hn : S 1 2 = nI n) (hn14 : n ≤ 14) {k a : Nat} {v : Int32} (hq : qOk k a) : CT G (4) yX5_wrong cX5_wrong 5 (some .int) [ra G 0, .int (nI k), .int (nI a), .int v] S (wrF S n k a v) (S) := by
  have hq36 := qix_36 hq
  have hk4 := hq.1
  refine CT_of (by decide) (Nat.le_of_ble_eq_true rfl) (by intro v hv; simp only [List.mem_cons, List.not_mem_nil, or_false] at hv; rcases hv with rfl | rfl | rfl | rfl <;> rfl) (fun F X E => ?_)
  have hR := RI_R E
  refine V_iload_n X dX5_wrong_0 rfl ?_
  refine V_iload_n X dX5_wrong_1 rfl ?_
  refine V_csi X (kX5_questionNumber ) cwX5_87 rfl (rm_ok hR (by decide) (by decide)) (Nat.le_of_ble_eq_true rfl) dX5_wrong_2 ?_
  refine V_top (nI (qix k a)) (qnF_n hq) ?_
  refine V_istore X dX5_wrong_5 (by rw [hR.2]; decide) ?_
  refine V_iload X dX5_wrong_7 rfl ?_
  refine V_iconst X (-1) dX5_wrong_9 (by decide) ?_
  refine V_icmp_eq X 27 dX5_wrong_10 (by decide) (fun h10 => ?_) (fun h10 => ?_)
  · exact absurd h10 (m1_ne (by omega))
  · refine V_iload_n X dX5_wrong_13 rfl ?_
    refine V_iconst X (nI 3) dX5_wrong_14 (by decide) ?_
    refine V_cN_eq X 27 (by omega) (by omega) dX5_wrong_15 (by decide) (fun h15 => ?_) (fun h15 => ?_)
    · refine V_iconst X (-1) dX5_wrong_27 (by decide) ?_
      exact V_iret X E dX5_wrong_28 (by unfold wrF; rw [if_pos (by omega)]) rfl
    · refine V_aload_n X dX5_wrong_18 rfl ?_
      refine V_iload X dX5_wrong_19 rfl ?_
      refine V_cvi X (ltN (by decide) hN) rfl rfl rfl (kX5_rightAnswer hN hn hn14 hq36) cwX5_104 rfl (rm_ok hR (by decide) (by decide)) (Nat.le_of_ble_eq_true rfl) dX5_wrong_21 ?_
      refine V_if_ge X 29 dX5_wrong_24 (by decide) (fun h24 => ?_) (fun h24 => ?_)
      · refine V_iload_n X dX5_wrong_29 rfl ?_
        refine V_iconst X (nI 2) dX5_wrong_30 (by decide) ?_
        refine V_cN_ne X 53 (by omega) (by omega) dX5_wrong_31 (by decide) (fun h31 => ?_) (fun h31 => ?_)
        · refine V_aload_n X dX5_wrong_53 rfl ?_
          refine V_iload X dX5_wrong_54 rfl ?_
          refine V_cvi X (ltN (by decide) hN) rfl rfl rfl (kX5_rightAnswer hN hn hn14 hq36) cwX5_104 rfl (rm_ok hR (by decide) (by decide)) (Nat.le_of_ble_eq_true rfl) dX5_wrong_56 ?_
          refine V_aload_n X dX5_wrong_59 rfl ?_
          refine V_getr X flX5_12 (ltN (by decide) hN) rfl rfl dX5_wrong_60 ?_
          refine V_cvi X (ltN (by decide) hN) rfl rfl rfl (kX2_allPlaces hN hn hn14) cwX5_134 rfl (rm_ok hR (by decide) (by decide)) (Nat.le_of_ble_eq_true rfl) dX5_wrong_63 ?_
          refine V_bipush X (nI 20) dX5_wrong_66 (by decide) ?_
          refine V_iload_n X dX5_wrong_68 rfl ?_
          refine V_csi X (kX5_choiceBut rfl) cwX5_130 rfl (rm_ok hR (by decide) (by decide)) (Nat.le_of_ble_eq_true rfl) dX5_wrong_69 ?_
          exact V_iret X E dX5_wrong_72 (by unfold wrF; rw [if_neg (by omega), if_neg (Int32.not_lt.mpr h24), if_neg (by omega)]) rfl
        · refine V_aload_n X dX5_wrong_34 rfl ?_
          refine V_iload X dX5_wrong_35 rfl ?_
          refine V_cvi X (ltN (by decide) hN) rfl rfl rfl (kX5_rightAnswer hN hn hn14 hq36) cwX5_104 rfl (rm_ok hR (by decide) (by decide)) (Nat.le_of_ble_eq_true rfl) dX5_wrong_37 ?_
          refine V_aload_n X dX5_wrong_40 rfl ?_
          refine V_getr X flX5_12 (ltN (by decide) hN) rfl rfl dX5_wrong_41 ?_
          refine V_cvi X (ltN (by decide) hN) rfl rfl rfl (kX2_allNamed hN hn hn14) cwX5_127 rfl (rm_ok hR (by decide) (by decide)) (Nat.le_of_ble_eq_true rfl) dX5_wrong_44 ?_
          refine V_iconst X (nI 0) dX5_wrong_47 (by decide) ?_
          refine V_iload_n X dX5_wrong_48 rfl ?_
          refine V_csi X (kX5_choiceBut rfl) cwX5_130 rfl (rm_ok hR (by decide) (by decide)) (Nat.le_of_ble_eq_true rfl) dX5_wrong_49 ?_
          exact V_iret X E dX5_wrong_52 (by unfold wrF; rw [if_neg (by omega), if_neg (Int32.not_lt.mpr h24), if_pos (by omega)]) rfl
      · refine V_iconst X (-1) dX5_wrong_27 (by decide) ?_
        exact V_iret X E dX5_wrong_28 (by unfold wrF; rw [if_neg (by omega), if_pos (Int32.not_le.mp h24)]) rfl

def ctF (S : Sx) (n : Nat) (x : Int32) : Int32 := if x = nI 0 then S 1 2 else if x = nI 1 then S 1 3 else if x = nI 2 then S 6 n else if x = nI 3 then nI (anC (S (35 + n)) 36) else if x = nI 4 then nI (dbC (S (35 + n)) 36) else -1
theorem ctF_out {S : Sx} {n : Nat} {x : Int32} (h : x.toInt < 0 ∨ 4 < x.toInt) : (-1 : Int32) = ctF S n x := by
  have e : ∀ k, k ≤ 4 → x ≠ nI k := fun k hk q => by rw [q, nI_toInt (by omega)] at h; omega
  unfold ctF; rw [if_neg (e 0 (by decide)), if_neg (e 1 (by decide)), if_neg (e 2 (by decide)), if_neg (e 3 (by decide)), if_neg (e 4 (by decide))]
set_option maxRecDepth 100000 in
set_option maxHeartbeats 4000000 in
theorem kX5_count {G : Cx} {S : Sx} (hN : 80 ≤ gN G) {n : Nat} (hn : S 1 2 = nI n) (hn14 : n ≤ 14) {x : Int32} : CT G (1) yX5_count cX5_count 2 (some .int) [ra G 0, .int x] S (ctF S n x) (S) := by
  refine CT_of (by decide) (Nat.le_of_ble_eq_true rfl) (by intro v hv; simp only [List.mem_cons, List.not_mem_nil, or_false] at hv; rcases hv with rfl | rfl <;> rfl) (fun F X E => ?_)
  have hR := RI_R E
  refine V_iload_n X dX5_count_0 rfl ?_
  rcases sw0_5 (x) with h1 | h1 | h1 | h1 | h1 | h1
  · refine V_tabIn X 35 36 dX5_count_1 (by rw [h1]; decide) (by rw [h1]; decide) (by rw [h1]; rfl) (by decide) ?_
    refine V_aload_n X dX5_count_36 rfl ?_
    refine V_getr X flX5_12 (ltN (by decide) hN) rfl rfl dX5_count_37 ?_
    refine V_getNi X fnX5_73 (ltN (by decide) hN) rfl rfl dX5_count_40 ?_
    exact V_iret X E dX5_count_43 (by rw [h1]; rfl) rfl
  · refine V_tabIn X 43 44 dX5_count_1 (by rw [h1]; decide) (by rw [h1]; decide) (by rw [h1]; rfl) (by decide) ?_
    refine V_aload_n X dX5_count_44 rfl ?_
    refine V_getr X flX5_12 (ltN (by decide) hN) rfl rfl dX5_count_45 ?_
    refine V_getNi X fnX5_137 (ltN (by decide) hN) rfl rfl dX5_count_48 ?_
    exact V_iret X E dX5_count_51 (by rw [h1]; rfl) rfl
  · refine V_tabIn X 51 52 dX5_count_1 (by rw [h1]; decide) (by rw [h1]; decide) (by rw [h1]; rfl) (by decide) ?_
    refine V_aload_n X dX5_count_52 rfl ?_
    refine V_getr X flX5_19 (ltN (by decide) hN) rfl rfl dX5_count_53 ?_
    refine V_aload_n X dX5_count_56 rfl ?_
    refine V_getr X flX5_12 (ltN (by decide) hN) rfl rfl dX5_count_57 ?_
    refine V_getNi X fnX5_73 (ltN (by decide) hN) rfl rfl dX5_count_60 ?_
    refine V_top (nI (n)) (hn) ?_
    refine V_cvi X (ltN (by decide) hN) rfl rfl rfl (kX3_size hN (by omega)) cwX5_69 rfl (rm_ok hR (by decide) (by decide)) (Nat.le_of_ble_eq_true rfl) dX5_count_63 ?_
    exact V_iret X E dX5_count_66 (by rw [h1]; rfl) rfl
  · refine V_tabIn X 66 67 dX5_count_1 (by rw [h1]; decide) (by rw [h1]; decide) (by rw [h1]; rfl) (by decide) ?_
    refine V_aload_n X dX5_count_67 rfl ?_
    refine V_getr X flX5_33 (ltN (by decide) hN) rfl rfl dX5_count_68 ?_
    refine V_aload_n X dX5_count_71 rfl ?_
    refine V_getr X flX5_12 (ltN (by decide) hN) rfl rfl dX5_count_72 ?_
    refine V_getNi X fnX5_73 (ltN (by decide) hN) rfl rfl dX5_count_75 ?_
    refine V_top (nI (n)) (hn) ?_
    refine V_cvi X (ltN (by decide) hN) rfl rfl rfl (kX1_answered hN (by omega)) cwX5_140 rfl (rm_ok hR (by decide) (by decide)) (Nat.le_of_ble_eq_true rfl) dX5_count_78 ?_
    exact V_iret X E dX5_count_81 (by rw [h1]; rfl) rfl
  · refine V_tabIn X 81 82 dX5_count_1 (by rw [h1]; decide) (by rw [h1]; decide) (by rw [h1]; rfl) (by decide) ?_
    refine V_aload_n X dX5_count_82 rfl ?_
    refine V_getr X flX5_33 (ltN (by decide) hN) rfl rfl dX5_count_83 ?_
    refine V_aload_n X dX5_count_86 rfl ?_
    refine V_getr X flX5_12 (ltN (by decide) hN) rfl rfl dX5_count_87 ?_
    refine V_getNi X fnX5_73 (ltN (by decide) hN) rfl rfl dX5_count_90 ?_
    refine V_top (nI (n)) (hn) ?_
    refine V_cvi X (ltN (by decide) hN) rfl rfl rfl (kX1_doubted hN (by omega)) cwX5_143 rfl (rm_ok hR (by decide) (by decide)) (Nat.le_of_ble_eq_true rfl) dX5_count_93 ?_
    exact V_iret X E dX5_count_96 (by rw [h1]; rfl) rfl
  · refine V_tabOut X 97 dX5_count_1 h1 (by decide) ?_
    refine V_iconst X (-1) dX5_count_97 (by decide) ?_
    exact V_iret X E dX5_count_98 (ctF_out h1) rfl

def ofZ (S : Sx) (x : Int32) (z : Nat) : Nat := if ofB (S 19) x z then z else if (ofS S x z).2 < 36 then (ofS S x z).2 + 1 else z
theorem ofF_z {S : Sx} {x : Int32} {z : Nat} (hz : S 18 1 = nI z) : ofF S x z 18 1 = nI (ofZ S x z) := by
  unfold ofF ofZ; split
  · exact hz
  · unfold ofE; split
    · simp only [st_at]; simp
    · rw [ofS_18]; exact hz
theorem ofZ_le (S : Sx) (x : Int32) (z : Nat) : ofZ S x z ≤ z + 1 := by
  have := ofS_le S x z
  unfold ofZ; split <;> (try split) <;> omega
theorem ofS_ne {q : Nat} (h : q ≠ 19) (S : Sx) (x : Int32) : ∀ i, (ofS S x i).1 q = S q
  | 0 => rfl
  | i + 1 => by unfold ofS; split; exact ofS_ne h S x i; dsimp only; rw [st_ne h]; exact ofS_ne h S x i
theorem ofF_ne {S : Sx} {x : Int32} {z q : Nat} (h1 : q ≠ 18) (h2 : q ≠ 19) : ofF S x z q = S q := by
  unfold ofF; split
  · rfl
  · unfold ofE; split
    · rw [st_ne h1, st_ne h1, st_ne h2, ofS_ne h2]
    · rw [ofS_ne h2]
def cvS (S : Sx) (n : Nat) : Nat → Sx × Nat
  | 0 => (st (st S 18 1 (nI 0)) 18 2 (nI 0), 0)
  | i + 1 => (ofF (cvS S n i).1 (S (65 + n) i) (cvS S n i).2, ofZ (cvS S n i).1 (S (65 + n) i) (cvS S n i).2)
theorem cvS_z (S : Sx) (n : Nat) : ∀ i, (cvS S n i).1 18 1 = nI (cvS S n i).2
  | 0 => by simp only [cvS, st_at]; simp
  | i + 1 => ofF_z (cvS_z S n i)
theorem cvS_le (S : Sx) (n : Nat) : ∀ i, (cvS S n i).2 ≤ i
  | 0 => Nat.le_refl _
  | i + 1 => by have := ofZ_le (cvS S n i).1 (S (65 + n) i) (cvS S n i).2; have := cvS_le S n i; show ofZ _ _ _ ≤ _; omega
theorem cvS_ne {S : Sx} {n q : Nat} (h1 : q ≠ 18) (h2 : q ≠ 19) : ∀ i, (cvS S n i).1 q = S q
  | 0 => by show st _ _ _ _ q = _; rw [st_ne h1, st_ne h1]
  | i + 1 => (ofF_ne h1 h2).trans (cvS_ne h1 h2 i)

set_option maxRecDepth 100000 in
set_option maxHeartbeats 4000000 in
theorem kX5_fewest {G : Cx} {S : Sx} (hN : 80 ≤ gN G) {n : Nat} (hn : S 1 2 = nI n) (hn14 : n ≤ 14) (hall : ∃ m, m < 16384 ∧ (cvS S n 36).1 18 2 = nI m) : CT G (21) yX5_fewest cX5_fewest 2 (some .int) [ra G 0] S (nI (lsF ((cvS S n 36).1 19) (cvS S n 36).2 ((cvS S n 36).1 18 2) 14 0)) ((cvS S n 36).1) := by
  refine CT_of (by decide) (Nat.le_of_ble_eq_true rfl) (by intro v hv; simp only [List.mem_cons, List.not_mem_nil, or_false] at hv; rcases hv with rfl <;> rfl) (fun F X E => ?_)
  have hR := RI_R E
  have loop : ∀ (f i : Nat) (S1 : Sx), i ≤ 36 → 36 - i < f → S1 = (cvS S n i).1 → V F G S1 9 [some (ra G 0), some (.int (nI i))] [] := by
    intro f
    induction f with
    | zero => intro i S1 h1 h2; omega
    | succ f ih =>
      intro i S1 h1 h2 hs
      refine V_iload_n X dX5_fewest_9 rfl ?_
      refine V_bipush X (nI 36) dX5_fewest_10 (by decide) ?_
      refine V_cN_ge X 45 (by omega) (by omega) dX5_fewest_12 (by decide) (fun h12 => ?_) (fun h12 => ?_)
      · refine V_aload_n X dX5_fewest_45 rfl ?_
        refine V_getr X flX5_40 (ltN (by decide) hN) rfl rfl dX5_fewest_46 ?_
        refine V_cvi X (ltN (by decide) hN) rfl rfl rfl (kX0_least hN (by rw [hs]; exact cvS_z S n i) (by have := cvS_le S n i; omega) rfl (by rw [hs, show i = 36 by omega]; exact hall) rfl) cwX5_123 rfl (rm_ok hR (by decide) (by decide)) (Nat.le_of_ble_eq_true rfl) dX5_fewest_49 ?_
        exact V_iret X E dX5_fewest_52 (by rw [hs, show i = 36 by omega]) (by rw [hs, show i = 36 by omega])
      · refine V_aload_n X dX5_fewest_15 rfl ?_
        refine V_getr X flX5_40 (ltN (by decide) hN) rfl rfl dX5_fewest_16 ?_
        refine V_aload_n X dX5_fewest_19 rfl ?_
        refine V_getr X flX5_33 (ltN (by decide) hN) rfl rfl dX5_fewest_20 ?_
        refine V_getNr X fnX5_114 (ltN (by decide) hN) rfl rfl dX5_fewest_23 ?_
        refine V_aload_n X dX5_fewest_26 rfl ?_
        refine V_getr X flX5_12 (ltN (by decide) hN) rfl rfl dX5_fewest_27 ?_
        refine V_getNi X fnX5_73 (ltN (by decide) hN) rfl rfl dX5_fewest_30 ?_
        refine V_top (nI (n)) (by rw [hs, cvS_ne (by decide) (by decide)]; exact hn) ?_
        refine V_aaldN X (ltN (by decide) hN) rfl (by omega) dX5_fewest_33 ?_
        refine V_iload_n X dX5_fewest_34 rfl ?_
        refine V_ialdN X (ltN (by omega) hN) (ds_fnd (by omega) (by omega)) (by omega) (by decide) dX5_fewest_35 ?_
        refine V_cvv X (ltN (by decide) hN) rfl rfl rfl (kX0_offer hN (by rw [hs]; exact cvS_z S n i) (by have := cvS_le S n i; omega)) cwX5_120 rfl (rm_ok hR (by decide) (by decide)) (Nat.le_of_ble_eq_true rfl) dX5_fewest_36 ?_
        refine V_iinc X (nI (_ + 1)) dX5_fewest_39 (by rw [hR.2]; decide) rfl (nI_add _ 1) ?_
        refine V_goto X 9 dX5_fewest_42 (by decide) ?_
        exact ih (i + 1) _ (by omega) (by omega) (by rw [hs, cvS_ne (show 65 + n ≠ 18 by omega) (show 65 + n ≠ 19 by omega)]; rfl)
  refine V_aload_n X dX5_fewest_0 rfl ?_
  refine V_getr X flX5_40 (ltN (by decide) hN) rfl rfl dX5_fewest_1 ?_
  refine V_cvv X (ltN (by decide) hN) rfl rfl rfl (kX0_clear hN) cwX5_117 rfl (rm_ok hR (by decide) (by decide)) (Nat.le_of_ble_eq_true rfl) dX5_fewest_4 ?_
  refine V_iconst X (nI 0) dX5_fewest_7 (by decide) ?_
  refine V_istore_n X dX5_fewest_8 (by rw [hR.2]; decide) ?_
  exact loop 37 0 _ (by omega) (by omega) rfl

