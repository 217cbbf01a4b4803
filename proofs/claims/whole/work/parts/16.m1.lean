abbrev inP (v lo hi : Int32) : Prop := lo ≤ v ∧ v ≤ hi
set_option maxRecDepth 100000 in
set_option maxHeartbeats 4000000 in
theorem kX6_in {G : Cx} {S : Sx}  {v lo hi : Int32} : CT G (0) yX6_in cX6_in 3 (some .boolean) [.int v, .int lo, .int hi] S (bi (inP v lo hi)) (S) := by
  refine CT_of (by decide) (Nat.le_of_ble_eq_true rfl) (by intro v hv; simp only [List.mem_cons, List.not_mem_nil, or_false] at hv; rcases hv with rfl | rfl | rfl <;> rfl) (fun F X E => ?_)
  have hR := RI_R E
  refine V_iload_n X dX6_in_0 rfl ?_
  refine V_iload_n X dX6_in_1 rfl ?_
  refine V_icmp_lt X 14 dX6_in_2 (by decide) (fun h2 => ?_) (fun h2 => ?_)
  · refine V_iconst X (nI 0) dX6_in_14 (by decide) ?_
    exact V_zret X E dX6_in_15 (by first | exact Or.inl rfl | exact Or.inr rfl | exact bi_01 _) (bi_f (fun q => absurd q.1 (Int32.not_le.mpr h2))) rfl
  · refine V_iload_n X dX6_in_5 rfl ?_
    refine V_iload_n X dX6_in_6 rfl ?_
    refine V_icmp_gt X 14 dX6_in_7 (by decide) (fun h7 => ?_) (fun h7 => ?_)
    · refine V_iconst X (nI 0) dX6_in_14 (by decide) ?_
      exact V_zret X E dX6_in_15 (by first | exact Or.inl rfl | exact Or.inr rfl | exact bi_01 _) (by first | exact bi_t ⟨Int32.not_lt.mp h2, Int32.not_lt.mp h7⟩ | exact bi_f (fun q => absurd q.2 (Int32.not_le.mpr h7))) rfl
    · refine V_iconst X (nI 1) dX6_in_10 (by decide) ?_
      refine V_goto X 15 dX6_in_11 (by decide) ?_
      exact V_zret X E dX6_in_15 (by first | exact Or.inl rfl | exact Or.inr rfl | exact bi_01 _) (by first | exact bi_t ⟨Int32.not_lt.mp h2, Int32.not_lt.mp h7⟩ | exact bi_f (fun q => absurd q.2 (Int32.not_le.mpr h7))) rfl

set_option maxRecDepth 100000 in
set_option maxHeartbeats 4000000 in
theorem kX6_signAt {G : Cx} {S : Sx} (hN : 88 ≤ gN G) {s i : Nat} (hs : s < 15) (hi : i < 5) : CT G (0) yX6_signAt cX6_signAt 3 (some .int) [ra G 80, .int (nI s), .int (nI i)] S (S 81 (s * 5 + i)) (S) := by
  refine CT_of (by decide) (Nat.le_of_ble_eq_true rfl) (by intro v hv; simp only [List.mem_cons, List.not_mem_nil, or_false] at hv; rcases hv with rfl | rfl | rfl <;> rfl) (fun F X E => ?_)
  have hR := RI_R E
  refine V_aload_n X dX6_signAt_0 rfl ?_
  refine V_getr X flX6_9 (ltN (by decide) hN) rfl rfl dX6_signAt_1 ?_
  refine V_iconst X (nI 5) dX6_signAt_4 (by decide) ?_
  refine V_iload_n X dX6_signAt_5 rfl ?_
  refine V_mulN X dX6_signAt_6 ?_
  refine V_iload_n X dX6_signAt_7 rfl ?_
  refine V_addN X dX6_signAt_8 ?_
  refine V_ialdN X (ltN (by decide) hN) rfl (by omega) (by decide) dX6_signAt_9 ?_
  exact V_iret X E dX6_signAt_10 (by rw [Nat.mul_comm]) rfl

theorem in_lt {x : Int32} {a b : Nat} (ha : a < 1000) (hb : b < 1000) : inP x (nI a) (nI b) ↔ (nI a ≤ x ∧ x < nI (b + 1)) := by
  unfold inP; rw [i_le, i_le, i_lt, t_k b (by omega), t_k (b + 1) (by omega)]; omega
set_option maxRecDepth 100000 in
set_option maxHeartbeats 4000000 in
theorem kX6_isWho {G : Cx} {S : Sx}  {x : Int32} : CT G (1) yX6_isWho cX6_isWho 1 (some .boolean) [.int x] S (bi (isW x)) (S) := by
  refine CT_of (by decide) (Nat.le_of_ble_eq_true rfl) (by intro v hv; simp only [List.mem_cons, List.not_mem_nil, or_false] at hv; rcases hv with rfl <;> rfl) (fun F X E => ?_)
  have hR := RI_R E
  refine V_iload_n X dX6_isWho_0 rfl ?_
  refine V_iconst X (nI 0) dX6_isWho_1 (by decide) ?_
  refine V_bipush X (nI 7) dX6_isWho_2 (by decide) ?_
  refine V_csi X (kX6_in ) cwX6_31 rfl (rm_ok hR (by decide) (by decide)) (Nat.le_of_ble_eq_true rfl) dX6_isWho_4 ?_
  refine V_if_ne X 22 dX6_isWho_7 (by decide) (fun h7 => ?_) (fun h7 => ?_)
  · refine V_iconst X (nI 1) dX6_isWho_22 (by decide) ?_
    refine V_goto X 27 dX6_isWho_23 (by decide) ?_
    exact V_zret X E dX6_isWho_27 (by first | exact Or.inl rfl | exact Or.inr rfl | exact bi_01 _) (bi_t (Or.inl ((in_lt (by decide) (by decide)).mp (bi_ne.mp h7)))) rfl
  · refine V_iload_n X dX6_isWho_10 rfl ?_
    refine V_bipush X (nI 40) dX6_isWho_11 (by decide) ?_
    refine V_icmp_eq X 22 dX6_isWho_13 (by decide) (fun h13 => ?_) (fun h13 => ?_)
    · refine V_iconst X (nI 1) dX6_isWho_22 (by decide) ?_
      refine V_goto X 27 dX6_isWho_23 (by decide) ?_
      exact V_zret X E dX6_isWho_27 (by first | exact Or.inl rfl | exact Or.inr rfl | exact bi_01 _) (bi_t (Or.inr (Or.inl h13))) rfl
    · refine V_iload_n X dX6_isWho_16 rfl ?_
      refine V_bipush X (nI 41) dX6_isWho_17 (by decide) ?_
      refine V_icmp_ne X 26 dX6_isWho_19 (by decide) (fun h19 => ?_) (fun h19 => ?_)
      · refine V_iconst X (nI 0) dX6_isWho_26 (by decide) ?_
        exact V_zret X E dX6_isWho_27 (by first | exact Or.inl rfl | exact Or.inr rfl | exact bi_01 _) (by first | exact bi_t (Or.inr (Or.inr (ts_nn h19))) | exact bi_f (fun q => q.elim (fun z => h7 (bi_ne.mpr ((in_lt (by decide) (by decide)).mpr z))) (fun q => q.elim h13 h19))) rfl
      · refine V_iconst X (nI 1) dX6_isWho_22 (by decide) ?_
        refine V_goto X 27 dX6_isWho_23 (by decide) ?_
        exact V_zret X E dX6_isWho_27 (by first | exact Or.inl rfl | exact Or.inr rfl | exact bi_01 _) (by first | exact bi_t (Or.inr (Or.inr (ts_nn h19))) | exact bi_f (fun q => q.elim (fun z => h7 (bi_ne.mpr ((in_lt (by decide) (by decide)).mpr z))) (fun q => q.elim h13 h19))) rfl

set_option maxRecDepth 100000 in
set_option maxHeartbeats 4000000 in
theorem kX6_canStand {G : Cx} {S : Sx} (hN : 88 ≤ gN G) {x : Int32} {n b : Nat} (hn : S 80 0 = nI n) (hb : S 82 n = nI b) (hn14 : n < 14) (hb5 : b < 5) : CT G (2) yX6_canStand cX6_canStand 4 (some .boolean) [ra G 80, .int x] S (fitF n b (S 81) x) (S) := by
  refine CT_of (by decide) (Nat.le_of_ble_eq_true rfl) (by intro v hv; simp only [List.mem_cons, List.not_mem_nil, or_false] at hv; rcases hv with rfl | rfl <;> rfl) (fun F X E => ?_)
  have hR := RI_R E
  refine V_aload_n X dX6_canStand_0 rfl ?_
  refine V_getr X flX6_13 (ltN (by decide) hN) rfl rfl dX6_canStand_1 ?_
  refine V_aload_n X dX6_canStand_4 rfl ?_
  refine V_geti X flX6_35 (ltN (by decide) hN) rfl rfl dX6_canStand_5 ?_
  refine V_top (nI (n)) (by first | exact hn | (simp only [st_at]; simp; exact hn)) ?_
  refine V_ialdN X (ltN (by decide) hN) rfl (by omega) (by decide) dX6_canStand_8 ?_
  refine V_top (nI (b)) (hb) ?_
  refine V_istore_n X dX6_canStand_9 (by rw [hR.2]; decide) ?_
  refine V_iload_n X dX6_canStand_10 rfl ?_
  refine V_iconst X (nI 1) dX6_canStand_11 (by decide) ?_
  refine V_cN_le X 27 (by omega) (by omega) dX6_canStand_12 (by decide) (fun h12 => ?_) (fun h12 => ?_)
  · refine V_iconst X (nI 0) dX6_canStand_27 (by decide) ?_
    refine V_istore_n X dX6_canStand_28 (by rw [hR.2]; decide) ?_
    refine V_iload_n X dX6_canStand_29 rfl ?_
    rcases (show b = 0 ∨ b = 1 ∨ b = 2 ∨ b = 3 ∨ 3 < b by omega) with rfl | rfl | rfl | rfl | h30
    · refine V_tabIn X 30 60 dX6_canStand_30 (by decide) (by decide) rfl (by decide) ?_
      refine V_iload_n X dX6_canStand_60 rfl ?_
      refine V_csi X (kX6_isWho ) cwX6_43 rfl (rm_ok hR (by decide) (by decide)) (Nat.le_of_ble_eq_true rfl) dX6_canStand_61 ?_
      exact V_zret X E dX6_canStand_64 (by first | exact Or.inl rfl | exact Or.inr rfl | exact bi_01 _) (fitF_0 hn14) rfl
    · refine V_tabIn X 35 65 dX6_canStand_30 (by decide) (by decide) rfl (by decide) ?_
      refine V_iload_n X dX6_canStand_65 rfl ?_
      refine V_bipush X (nI 30) dX6_canStand_66 (by decide) ?_
      refine V_bipush X (nI 33) dX6_canStand_68 (by decide) ?_
      refine V_csi X (kX6_in ) cwX6_31 rfl (rm_ok hR (by decide) (by decide)) (Nat.le_of_ble_eq_true rfl) dX6_canStand_70 ?_
      exact V_zret X E dX6_canStand_73 (by first | exact Or.inl rfl | exact Or.inr rfl | exact bi_01 _) (fitF_1 hn14) rfl
    · refine V_tabIn X 44 74 dX6_canStand_30 (by decide) (by decide) rfl (by decide) ?_
      refine V_iload_n X dX6_canStand_74 rfl ?_
      refine V_bipush X (nI 30) dX6_canStand_75 (by decide) ?_
      refine V_cN_ne X 91 (by omega) (by omega) dX6_canStand_77 (by decide) (fun h77 => ?_) (fun h77 => ?_)
      · refine V_iload_n X dX6_canStand_91 rfl ?_
        refine V_bipush X (nI 10) dX6_canStand_92 (by decide) ?_
        refine V_bipush X (nI 19) dX6_canStand_94 (by decide) ?_
        refine V_csi X (kX6_in ) cwX6_31 rfl (rm_ok hR (by decide) (by decide)) (Nat.le_of_ble_eq_true rfl) dX6_canStand_96 ?_
        exact V_zret X E dX6_canStand_99 (by first | exact Or.inl rfl | exact Or.inr rfl | exact bi_01 _) (by first | (exfalso; omega) | exact (bi_congr (in_lt (by decide) (by decide))).trans (fitF_2 hn14 (ts_nn h77)) | exact (bi_congr (in_lt (by decide) (by decide))).trans (fitF_2n hn14 h77)) rfl
      · refine V_iload_n X dX6_canStand_80 rfl ?_
        refine V_bipush X (nI 20) dX6_canStand_81 (by decide) ?_
        refine V_bipush X (nI 27) dX6_canStand_83 (by decide) ?_
        refine V_csi X (kX6_in ) cwX6_31 rfl (rm_ok hR (by decide) (by decide)) (Nat.le_of_ble_eq_true rfl) dX6_canStand_85 ?_
        refine V_goto X 99 dX6_canStand_88 (by decide) ?_
        exact V_zret X E dX6_canStand_99 (by first | exact Or.inl rfl | exact Or.inr rfl | exact bi_01 _) (by first | (exfalso; omega) | exact (bi_congr (in_lt (by decide) (by decide))).trans (fitF_2 hn14 (ts_nn h77)) | exact (bi_congr (in_lt (by decide) (by decide))).trans (fitF_2n hn14 h77)) rfl
    · refine V_tabIn X 70 100 dX6_canStand_30 (by decide) (by decide) rfl (by decide) ?_
      refine V_iload_n X dX6_canStand_100 rfl ?_
      refine V_bipush X (nI 33) dX6_canStand_101 (by decide) ?_
      refine V_cN_ne X 113 (by omega) (by omega) dX6_canStand_103 (by decide) (fun h103 => ?_) (fun h103 => ?_)
      · refine V_iload_n X dX6_canStand_113 rfl ?_
        refine V_bipush X (nI 50) dX6_canStand_114 (by decide) ?_
        refine V_icmp_ne X 123 dX6_canStand_116 (by decide) (fun h116 => ?_) (fun h116 => ?_)
        · refine V_iconst X (nI 0) dX6_canStand_123 (by decide) ?_
          exact V_zret X E dX6_canStand_124 (by first | exact Or.inl rfl | exact Or.inr rfl | exact bi_01 _) (by first | (exfalso; omega) | exact (Eq.trans (by first | exact bi_t (ts_nn h116) | exact bi_f h116) (fitF_3n hn14 h103))) rfl
        · refine V_iconst X (nI 1) dX6_canStand_119 (by decide) ?_
          refine V_goto X 124 dX6_canStand_120 (by decide) ?_
          exact V_zret X E dX6_canStand_124 (by first | exact Or.inl rfl | exact Or.inr rfl | exact bi_01 _) (by first | (exfalso; omega) | exact (Eq.trans (by first | exact bi_t (ts_nn h116) | exact bi_f h116) (fitF_3n hn14 h103))) rfl
      · refine V_iload_n X dX6_canStand_106 rfl ?_
        refine V_csi X (kX6_isWho ) cwX6_43 rfl (rm_ok hR (by decide) (by decide)) (Nat.le_of_ble_eq_true rfl) dX6_canStand_107 ?_
        refine V_goto X 124 dX6_canStand_110 (by decide) ?_
        exact V_zret X E dX6_canStand_124 (by first | exact Or.inl rfl | exact Or.inr rfl | exact bi_01 _) (by first | (exfalso; omega) | exact fitF_3 hn14 (ts_nn h103)) rfl
    · refine V_tabOut X 125 dX6_canStand_30 (Or.inr (by rw [nI_toInt (by omega)]; omega)) (by decide) ?_
      refine V_iload_n X dX6_canStand_125 rfl ?_
      refine V_bipush X (nI 50) dX6_canStand_126 (by decide) ?_
      refine V_icmp_ne X 135 dX6_canStand_128 (by decide) (fun h128 => ?_) (fun h128 => ?_)
      · refine V_iconst X (nI 0) dX6_canStand_135 (by decide) ?_
        exact V_zret X E dX6_canStand_136 (by first | exact Or.inl rfl | exact Or.inr rfl | exact bi_01 _) (Eq.trans (by first | exact bi_t (ts_nn h128) | exact bi_f h128) (fitF_4 hn14 (by omega))) rfl
      · refine V_iconst X (nI 1) dX6_canStand_131 (by decide) ?_
        refine V_goto X 136 dX6_canStand_132 (by decide) ?_
        exact V_zret X E dX6_canStand_136 (by first | exact Or.inl rfl | exact Or.inr rfl | exact bi_01 _) (Eq.trans (by first | exact bi_t (ts_nn h128) | exact bi_f h128) (fitF_4 hn14 (by omega))) rfl
  · refine V_aload_n X dX6_canStand_15 rfl ?_
    refine V_aload_n X dX6_canStand_16 rfl ?_
    refine V_geti X flX6_35 (ltN (by decide) hN) rfl rfl dX6_canStand_17 ?_
    refine V_top (nI (n)) (by first | exact hn | (simp only [st_at]; simp; exact hn)) ?_
    refine V_iconst X (nI 1) dX6_canStand_20 (by decide) ?_
    refine V_cvi X (ltN (by decide) hN) rfl rfl rfl (kX6_signAt hN (by omega) (by omega)) cwX6_39 rfl (rm_ok hR (by decide) (by decide)) (Nat.le_of_ble_eq_true rfl) dX6_canStand_21 ?_
    refine V_goto X 28 dX6_canStand_24 (by decide) ?_
    refine V_istore_n X dX6_canStand_28 (by rw [hR.2]; decide) ?_
    refine V_iload_n X dX6_canStand_29 rfl ?_
    rcases (show b = 0 ∨ b = 1 ∨ b = 2 ∨ b = 3 ∨ 3 < b by omega) with rfl | rfl | rfl | rfl | h30
    · refine V_tabIn X 30 60 dX6_canStand_30 (by decide) (by decide) rfl (by decide) ?_
      refine V_iload_n X dX6_canStand_60 rfl ?_
      refine V_csi X (kX6_isWho ) cwX6_43 rfl (rm_ok hR (by decide) (by decide)) (Nat.le_of_ble_eq_true rfl) dX6_canStand_61 ?_
      exact V_zret X E dX6_canStand_64 (by first | exact Or.inl rfl | exact Or.inr rfl | exact bi_01 _) (fitF_0 hn14) rfl
    · refine V_tabIn X 35 65 dX6_canStand_30 (by decide) (by decide) rfl (by decide) ?_
      refine V_iload_n X dX6_canStand_65 rfl ?_
      refine V_bipush X (nI 30) dX6_canStand_66 (by decide) ?_
      refine V_bipush X (nI 33) dX6_canStand_68 (by decide) ?_
      refine V_csi X (kX6_in ) cwX6_31 rfl (rm_ok hR (by decide) (by decide)) (Nat.le_of_ble_eq_true rfl) dX6_canStand_70 ?_
      exact V_zret X E dX6_canStand_73 (by first | exact Or.inl rfl | exact Or.inr rfl | exact bi_01 _) (fitF_1 hn14) rfl
    · refine V_tabIn X 44 74 dX6_canStand_30 (by decide) (by decide) rfl (by decide) ?_
      refine V_iload_n X dX6_canStand_74 rfl ?_
      refine V_bipush X (nI 30) dX6_canStand_75 (by decide) ?_
      refine V_icmp_ne X 91 dX6_canStand_77 (by decide) (fun h77 => ?_) (fun h77 => ?_)
      · refine V_iload_n X dX6_canStand_91 rfl ?_
        refine V_bipush X (nI 10) dX6_canStand_92 (by decide) ?_
        refine V_bipush X (nI 19) dX6_canStand_94 (by decide) ?_
        refine V_csi X (kX6_in ) cwX6_31 rfl (rm_ok hR (by decide) (by decide)) (Nat.le_of_ble_eq_true rfl) dX6_canStand_96 ?_
        exact V_zret X E dX6_canStand_99 (by first | exact Or.inl rfl | exact Or.inr rfl | exact bi_01 _) (by first | (exfalso; omega) | exact (bi_congr (in_lt (by decide) (by decide))).trans (fitF_2 hn14 (ts_nn h77)) | exact (bi_congr (in_lt (by decide) (by decide))).trans (fitF_2n hn14 h77)) rfl
      · refine V_iload_n X dX6_canStand_80 rfl ?_
        refine V_bipush X (nI 20) dX6_canStand_81 (by decide) ?_
        refine V_bipush X (nI 27) dX6_canStand_83 (by decide) ?_
        refine V_csi X (kX6_in ) cwX6_31 rfl (rm_ok hR (by decide) (by decide)) (Nat.le_of_ble_eq_true rfl) dX6_canStand_85 ?_
        refine V_goto X 99 dX6_canStand_88 (by decide) ?_
        exact V_zret X E dX6_canStand_99 (by first | exact Or.inl rfl | exact Or.inr rfl | exact bi_01 _) (by first | (exfalso; omega) | exact (bi_congr (in_lt (by decide) (by decide))).trans (fitF_2 hn14 (ts_nn h77)) | exact (bi_congr (in_lt (by decide) (by decide))).trans (fitF_2n hn14 h77)) rfl
    · refine V_tabIn X 70 100 dX6_canStand_30 (by decide) (by decide) rfl (by decide) ?_
      refine V_iload_n X dX6_canStand_100 rfl ?_
      refine V_bipush X (nI 33) dX6_canStand_101 (by decide) ?_
      refine V_icmp_ne X 113 dX6_canStand_103 (by decide) (fun h103 => ?_) (fun h103 => ?_)
      · refine V_iload_n X dX6_canStand_113 rfl ?_
        refine V_bipush X (nI 50) dX6_canStand_114 (by decide) ?_
        refine V_icmp_ne X 123 dX6_canStand_116 (by decide) (fun h116 => ?_) (fun h116 => ?_)
        · refine V_iconst X (nI 0) dX6_canStand_123 (by decide) ?_
          exact V_zret X E dX6_canStand_124 (by first | exact Or.inl rfl | exact Or.inr rfl | exact bi_01 _) (by first | (exfalso; omega) | exact (Eq.trans (by first | exact bi_t (ts_nn h116) | exact bi_f h116) (fitF_3n hn14 h103))) rfl
        · refine V_iconst X (nI 1) dX6_canStand_119 (by decide) ?_
          refine V_goto X 124 dX6_canStand_120 (by decide) ?_
          exact V_zret X E dX6_canStand_124 (by first | exact Or.inl rfl | exact Or.inr rfl | exact bi_01 _) (by first | (exfalso; omega) | exact (Eq.trans (by first | exact bi_t (ts_nn h116) | exact bi_f h116) (fitF_3n hn14 h103))) rfl
      · refine V_iload_n X dX6_canStand_106 rfl ?_
        refine V_csi X (kX6_isWho ) cwX6_43 rfl (rm_ok hR (by decide) (by decide)) (Nat.le_of_ble_eq_true rfl) dX6_canStand_107 ?_
        refine V_goto X 124 dX6_canStand_110 (by decide) ?_
        exact V_zret X E dX6_canStand_124 (by first | exact Or.inl rfl | exact Or.inr rfl | exact bi_01 _) (by first | (exfalso; omega) | exact fitF_3 hn14 (ts_nn h103)) rfl
    · refine V_tabOut X 125 dX6_canStand_30 (Or.inr (by rw [nI_toInt (by omega)]; omega)) (by decide) ?_
      refine V_iload_n X dX6_canStand_125 rfl ?_
      refine V_bipush X (nI 50) dX6_canStand_126 (by decide) ?_
      refine V_icmp_ne X 135 dX6_canStand_128 (by decide) (fun h128 => ?_) (fun h128 => ?_)
      · refine V_iconst X (nI 0) dX6_canStand_135 (by decide) ?_
        exact V_zret X E dX6_canStand_136 (by first | exact Or.inl rfl | exact Or.inr rfl | exact bi_01 _) (Eq.trans (by first | exact bi_t (ts_nn h128) | exact bi_f h128) (fitF_4 hn14 (by omega))) rfl
      · refine V_iconst X (nI 1) dX6_canStand_131 (by decide) ?_
        refine V_goto X 136 dX6_canStand_132 (by decide) ?_
        exact V_zret X E dX6_canStand_136 (by first | exact Or.inl rfl | exact Or.inr rfl | exact bi_01 _) (Eq.trans (by first | exact bi_t (ts_nn h128) | exact bi_f h128) (fitF_4 hn14 (by omega))) rfl

abbrev nmP (g : Nat → Int32) (s : Nat) (x : Int32) : Prop := g (s * 5 + 0) = x ∨ (g (s * 5 + 1) = nI 33 ∧ g (s * 5 + 3) = x)
set_option maxRecDepth 100000 in
set_option maxHeartbeats 4000000 in
theorem kX6_names {G : Cx} {S : Sx} (hN : 88 ≤ gN G) {s : Nat} {x : Int32} (hs : s < 15) : CT G (1) yX6_names cX6_names 3 (some .boolean) [ra G 80, .int (nI s), .int x] S (bi (nmP (S 81) s x)) (S) := by
  refine CT_of (by decide) (Nat.le_of_ble_eq_true rfl) (by intro v hv; simp only [List.mem_cons, List.not_mem_nil, or_false] at hv; rcases hv with rfl | rfl | rfl <;> rfl) (fun F X E => ?_)
  have hR := RI_R E
  refine V_aload_n X dX6_names_0 rfl ?_
  refine V_iload_n X dX6_names_1 rfl ?_
  refine V_iconst X (nI 0) dX6_names_2 (by decide) ?_
  refine V_cvi X (ltN (by decide) hN) rfl rfl rfl (kX6_signAt hN (by omega) (by omega)) cwX6_39 rfl (rm_ok hR (by decide) (by decide)) (Nat.le_of_ble_eq_true rfl) dX6_names_3 ?_
  refine V_iload_n X dX6_names_6 rfl ?_
  refine V_icmp_eq X 31 dX6_names_7 (by decide) (fun h7 => ?_) (fun h7 => ?_)
  · refine V_iconst X (nI 1) dX6_names_31 (by decide) ?_
    refine V_goto X 36 dX6_names_32 (by decide) ?_
    exact V_zret X E dX6_names_36 (by first | exact Or.inl rfl | exact Or.inr rfl | exact bi_01 _) (bi_t (Or.inl h7)) rfl
  · refine V_aload_n X dX6_names_10 rfl ?_
    refine V_iload_n X dX6_names_11 rfl ?_
    refine V_iconst X (nI 1) dX6_names_12 (by decide) ?_
    refine V_cvi X (ltN (by decide) hN) rfl rfl rfl (kX6_signAt hN (by omega) (by omega)) cwX6_39 rfl (rm_ok hR (by decide) (by decide)) (Nat.le_of_ble_eq_true rfl) dX6_names_13 ?_
    refine V_bipush X (nI 33) dX6_names_16 (by decide) ?_
    refine V_icmp_ne X 35 dX6_names_18 (by decide) (fun h18 => ?_) (fun h18 => ?_)
    · refine V_iconst X (nI 0) dX6_names_35 (by decide) ?_
      exact V_zret X E dX6_names_36 (by first | exact Or.inl rfl | exact Or.inr rfl | exact bi_01 _) (bi_f (fun q => q.elim h7 (fun z => h18 z.1))) rfl
    · refine V_aload_n X dX6_names_21 rfl ?_
      refine V_iload_n X dX6_names_22 rfl ?_
      refine V_iconst X (nI 3) dX6_names_23 (by decide) ?_
      refine V_cvi X (ltN (by decide) hN) rfl rfl rfl (kX6_signAt hN (by omega) (by omega)) cwX6_39 rfl (rm_ok hR (by decide) (by decide)) (Nat.le_of_ble_eq_true rfl) dX6_names_24 ?_
      refine V_iload_n X dX6_names_27 rfl ?_
      refine V_icmp_ne X 35 dX6_names_28 (by decide) (fun h28 => ?_) (fun h28 => ?_)
      · refine V_iconst X (nI 0) dX6_names_35 (by decide) ?_
        exact V_zret X E dX6_names_36 (by first | exact Or.inl rfl | exact Or.inr rfl | exact bi_01 _) (by first | exact bi_t (Or.inr ⟨ts_nn h18, ts_nn h28⟩) | exact bi_f (fun q => q.elim h7 (fun z => h28 z.2))) rfl
      · refine V_iconst X (nI 1) dX6_names_31 (by decide) ?_
        refine V_goto X 36 dX6_names_32 (by decide) ?_
        exact V_zret X E dX6_names_36 (by first | exact Or.inl rfl | exact Or.inr rfl | exact bi_01 _) (by first | exact bi_t (Or.inr ⟨ts_nn h18, ts_nn h28⟩) | exact bi_f (fun q => q.elim h7 (fun z => h28 z.2))) rfl

def anN (g : Nat → Int32) (k t : Nat) : Bool := decide (nmP g k (nI t)) || decide (nmP g k (nI (t + 2))) || decide (nmP g k (nI (t + 4))) || decide (nmP g k (nI (t + 6)))
/-- any of the persons t, t+2, .. below 8, from t + 2 * j on, or already found -/
def anM (g : Nat → Int32) (k t : Nat) : Nat → Nat → Bool → Bool
  | 0, _, b => b
  | m + 1, j, b => anM g k t m (j + 1) (b || decide (nmP g k (nI (t + 2 * j))))
theorem anM_N (g : Nat → Int32) (k t : Nat) : anM g k t 4 0 false = anN g k t := by
  rfl
def mmL (g : Nat → Int32) (t p : Nat) : Nat → Int32
  | 0 => nI 0
  | k + 1 => if anN g k t then bi (nmP g k (nI p)) else mmL g t p k
def mmF (g : Nat → Int32) (a s p : Nat) : Int32 := if a < 8 then bi (a = p) else if p % 2 = a - 40 then mmL g (a - 40) p s else nI 0
theorem mmL_01 (g : Nat → Int32) (t p : Nat) : ∀ k, mmL g t p k = 0 ∨ mmL g t p k = 1
  | 0 => Or.inl rfl
  | k + 1 => by unfold mmL; split; exact bi_01 _; exact mmL_01 g t p k
theorem bi_bb {P : Prop} [Decidable P] : bi P = bb (decide P) := by unfold bi bb; by_cases h : P <;> simp [h] <;> rfl
theorem bb_or (a : Bool) (b : Bool) (h : a = true) : nI 1 = bb (a || b) := by rw [h]; rfl

set_option maxRecDepth 100000 in
set_option maxHeartbeats 4000000 in
theorem kX6_mayMean_h {G : Cx} {S : Sx} (hN : 88 ≤ gN G) {t s p : Nat} (ht : t < 2) (hs : s ≤ 14) (hp : p < 8) : CT G (2) yX6_mayMean cX6_mayMean 7 (some .boolean) [ra G 80, .int (nI (40 + t)), .int (nI s), .int (nI p)] S (if p % 2 = t then mmL (S 81) t p s else nI 0) (S) := by
  refine CT_of (by decide) (Nat.le_of_ble_eq_true rfl) (by intro v hv; simp only [List.mem_cons, List.not_mem_nil, or_false] at hv; rcases hv with rfl | rfl | rfl | rfl <;> rfl) (fun F X E => ?_)
  have hR := RI_R E
  have loopA : ∀ (k : Nat), k < 14 → ∀ {r0 : Bool}, (∀ (b : Bool) (w : Option Value), b = r0 → V F G S 84 [some (ra G 80), some (.int (nI (40 + t))), some (.int (nI s)), some (.int (nI p)), some (.int (nI k)), some (.int (bb b)), w] []) → ∀ (m j : Nat) (b : Bool), j + m = 4 → anM (S 81) k t m j b = r0 → V F G S 48 [some (ra G 80), some (.int (nI (40 + t))), some (.int (nI s)), some (.int (nI p)), some (.int (nI k)), some (.int (bb b)), some (.int (nI (t + 2 * j)))] [] := by
    intro k hk r0 kx m
    induction m with
    | zero =>
      intro j b hj hr
      refine V_iload X dX6_mayMean_48 rfl ?_
      refine V_bipush X (nI 8) dX6_mayMean_50 (by decide) ?_
      refine V_cN_ge X 84 (by omega) (by omega) dX6_mayMean_52 (by decide) (fun h52 => ?_) (fun h52 => ?_)
      · exact kx _ _ hr
      · omega
    | succ m ih =>
      intro j b hj hr
      refine V_iload X dX6_mayMean_48 rfl ?_
      refine V_bipush X (nI 8) dX6_mayMean_50 (by decide) ?_
      refine V_cN_ge X 84 (by omega) (by omega) dX6_mayMean_52 (by decide) (fun h52 => ?_) (fun h52 => ?_)
      · omega
      · refine V_iload X dX6_mayMean_55 rfl ?_
        refine V_if_ne X 71 dX6_mayMean_57 (by decide) (fun h57 => ?_) (fun h57 => ?_)
        · refine V_iconst X (nI 1) dX6_mayMean_71 (by decide) ?_
          refine V_top (bb (b || decide (nmP (S 81) k (nI (t + 2 * j))))) (by rw [bb_n.mp h57]; rfl) ?_
          refine V_goto X 76 dX6_mayMean_72 (by decide) ?_
          refine V_istore X dX6_mayMean_76 (by rw [hR.2]; decide) ?_
          refine V_iinc X (nI (_ + 2)) dX6_mayMean_78 (by rw [hR.2]; decide) rfl (nI_add _ 2) ?_
          refine V_goto X 48 dX6_mayMean_81 (by decide) ?_
          rw [show t + 2 * j + 2 = t + 2 * (j + 1) by omega]
          exact ih (j + 1) _ (by omega) hr
        · refine V_aload_n X dX6_mayMean_60 rfl ?_
          refine V_iload X dX6_mayMean_61 rfl ?_
          refine V_iload X dX6_mayMean_63 rfl ?_
          refine V_cvi X (ltN (by decide) hN) rfl rfl rfl (kX6_names hN (by omega)) cwX6_57 rfl (rm_ok hR (by decide) (by decide)) (Nat.le_of_ble_eq_true rfl) dX6_mayMean_65 ?_
          refine V_if_eq X 75 dX6_mayMean_68 (by decide) (fun h68 => ?_) (fun h68 => ?_)
          · refine V_iconst X (nI 0) dX6_mayMean_75 (by decide) ?_
            refine V_top (bb (b || decide (nmP (S 81) k (nI (t + 2 * j))))) (by rw [bb_0.mp (ts_nn h57), decide_eq_false (bi_eq.mp h68)]; rfl) ?_
            refine V_istore X dX6_mayMean_76 (by rw [hR.2]; decide) ?_
            refine V_iinc X (nI (_ + 2)) dX6_mayMean_78 (by rw [hR.2]; decide) rfl (nI_add _ 2) ?_
            refine V_goto X 48 dX6_mayMean_81 (by decide) ?_
            rw [show t + 2 * j + 2 = t + 2 * (j + 1) by omega]
            exact ih (j + 1) _ (by omega) hr
          · refine V_iconst X (nI 1) dX6_mayMean_71 (by decide) ?_
            refine V_top (bb (b || decide (nmP (S 81) k (nI (t + 2 * j))))) (by rw [decide_eq_true (Classical.byContradiction (fun z => h68 (bi_eq.mpr z))), Bool.or_true]; rfl) ?_
            refine V_goto X 76 dX6_mayMean_72 (by decide) ?_
            refine V_istore X dX6_mayMean_76 (by rw [hR.2]; decide) ?_
            refine V_iinc X (nI (_ + 2)) dX6_mayMean_78 (by rw [hR.2]; decide) rfl (nI_add _ 2) ?_
            refine V_goto X 48 dX6_mayMean_81 (by decide) ?_
            rw [show t + 2 * j + 2 = t + 2 * (j + 1) by omega]
            exact ih (j + 1) _ (by omega) hr
  have loopB : ∀ {r : Int32}, (E : RI F G 2 (some .boolean) 7 r S) → ∀ (k : Nat) (u w : Option Value), k ≤ 14 → mmL (S 81) t p k = r → V F G S 34 [some (ra G 80), some (.int (nI (40 + t))), some (.int (nI s)), some (.int (nI p)), some (.int (dv k)), u, w] [] := by
    intro r E k
    induction k with
    | zero =>
      intro u w hk hr
      refine V_iload X dX6_mayMean_34 rfl ?_
      refine V_if_lt X 103 dX6_mayMean_36 (by decide) (fun h36 => ?_) (fun h36 => ?_)
      · refine V_iconst X (nI 0) dX6_mayMean_103 (by decide) ?_
        exact V_zret X E dX6_mayMean_104 (by first | exact Or.inl rfl | exact Or.inr rfl | exact bi_01 _) hr rfl
      · exact absurd dv_0 h36
    | succ k ih =>
      intro u w hk hr
      rw [dv_s]
      refine V_iload X dX6_mayMean_34 rfl ?_
      refine V_iN_lt X 103 (by omega) dX6_mayMean_36 (by decide) ?_
      refine V_iconst X (nI 0) dX6_mayMean_39 (by decide) ?_
      refine V_top (bb false) (rfl) ?_
      refine V_istore X dX6_mayMean_40 (by rw [hR.2]; decide) ?_
      refine V_iload_n X dX6_mayMean_42 rfl ?_
      refine V_bipush X (nI 40) dX6_mayMean_43 (by decide) ?_
      refine V_subN X dX6_mayMean_45 (by omega) ?_
      refine V_top (nI (t + 2 * 0)) (congrArg nI (by omega)) ?_
      refine V_istore X dX6_mayMean_46 (by rw [hR.2]; decide) ?_
      refine loopA k (by omega) (r0 := anM (S 81) k t 4 0 false) (fun b w2 hb => ?_) 4 0 false rfl rfl
      refine V_iload X dX6_mayMean_84 rfl ?_
      refine V_if_eq X 97 dX6_mayMean_86 (by decide) (fun h86 => ?_) (fun h86 => ?_)
      · refine V_iinc X (dv _) dX6_mayMean_97 (by rw [hR.2]; decide) rfl (dv_m _) ?_
        refine V_goto X 34 dX6_mayMean_100 (by decide) ?_
        exact ih _ _ (by omega) (by rw [mmL, if_neg (by rw [← anM_N, ← hb, bb_0.mp h86]; decide)] at hr; exact hr)
      · refine V_aload_n X dX6_mayMean_89 rfl ?_
        refine V_iload X dX6_mayMean_90 rfl ?_
        refine V_iload_n X dX6_mayMean_92 rfl ?_
        refine V_cvi X (ltN (by decide) hN) rfl rfl rfl (kX6_names hN (by omega)) cwX6_57 rfl (rm_ok hR (by decide) (by decide)) (Nat.le_of_ble_eq_true rfl) dX6_mayMean_93 ?_
        exact V_zret X E dX6_mayMean_96 (by first | exact Or.inl rfl | exact Or.inr rfl | exact bi_01 _) (by rw [mmL, if_pos (by rw [← anM_N, ← hb]; exact bb_n.mp h86)] at hr; exact hr) rfl
  refine V_iload_n X dX6_mayMean_0 rfl ?_
  refine V_bipush X (nI 8) dX6_mayMean_1 (by decide) ?_
  refine V_cN_ge X 17 (by omega) (by omega) dX6_mayMean_3 (by decide) (fun h3 => ?_) (fun h3 => ?_)
  · refine V_iload_n X dX6_mayMean_17 rfl ?_
    refine V_iconst X (nI 2) dX6_mayMean_18 (by decide) ?_
    refine V_irem X dX6_mayMean_19 (by decide) ?_
    refine V_top (nI (p % 2)) (pk_rem (by omega) (by decide) (by decide)) ?_
    refine V_iload_n X dX6_mayMean_20 rfl ?_
    refine V_bipush X (nI 40) dX6_mayMean_21 (by decide) ?_
    refine V_subN X dX6_mayMean_23 (by omega) ?_
    refine V_top (nI (t)) (congrArg nI (by omega)) ?_
    refine V_cN_eq X 29 (by omega) (by omega) dX6_mayMean_24 (by decide) (fun h24 => ?_) (fun h24 => ?_)
    · refine V_iload_n X dX6_mayMean_29 rfl ?_
      refine V_iconst X (nI 1) dX6_mayMean_30 (by decide) ?_
      refine V_isub X dX6_mayMean_31 ?_
      refine V_istore X dX6_mayMean_32 (by rw [hR.2]; decide) ?_
      rw [if_pos h24] at E
      exact loopB E s none none hs rfl
    · refine V_iconst X (nI 0) dX6_mayMean_27 (by decide) ?_
      exact V_zret X E dX6_mayMean_28 (by first | exact Or.inl rfl | exact Or.inr rfl | exact bi_01 _) (by rw [if_neg h24]) rfl
  · omega

set_option maxRecDepth 100000 in
set_option maxHeartbeats 4000000 in
theorem kX6_mayMean_p {G : Cx} {S : Sx} (hN : 88 ≤ gN G) {a s p : Nat} (ha : a < 8) (hs : s ≤ 14) (hp : p < 8) : CT G (2) yX6_mayMean cX6_mayMean 7 (some .boolean) [ra G 80, .int (nI a), .int (nI s), .int (nI p)] S (bi (a = p)) (S) := by
  refine CT_of (by decide) (Nat.le_of_ble_eq_true rfl) (by intro v hv; simp only [List.mem_cons, List.not_mem_nil, or_false] at hv; rcases hv with rfl | rfl | rfl | rfl <;> rfl) (fun F X E => ?_)
  have hR := RI_R E
  refine V_iload_n X dX6_mayMean_0 rfl ?_
  refine V_bipush X (nI 8) dX6_mayMean_1 (by decide) ?_
  refine V_cN_ge X 17 (by omega) (by omega) dX6_mayMean_3 (by decide) (fun h3 => ?_) (fun h3 => ?_)
  · omega
  · refine V_iload_n X dX6_mayMean_6 rfl ?_
    refine V_iload_n X dX6_mayMean_7 rfl ?_
    refine V_cN_ne X 15 (by omega) (by omega) dX6_mayMean_8 (by decide) (fun h8 => ?_) (fun h8 => ?_)
    · refine V_iconst X (nI 0) dX6_mayMean_15 (by decide) ?_
      exact V_zret X E dX6_mayMean_16 (by first | exact Or.inl rfl | exact Or.inr rfl | exact bi_01 _) (by first | exact bi_t h8 | exact bi_f h8) rfl
    · refine V_iconst X (nI 1) dX6_mayMean_11 (by decide) ?_
      refine V_goto X 16 dX6_mayMean_12 (by decide) ?_
      exact V_zret X E dX6_mayMean_16 (by first | exact Or.inl rfl | exact Or.inr rfl | exact bi_01 _) (by first | exact bi_t h8 | exact bi_f h8) rfl

theorem kX6_mayMean {G : Cx} {S : Sx} (hN : 88 ≤ gN G) {a s p : Nat} (ha : a < 8 ∨ a = 40 ∨ a = 41) (hs : s ≤ 14) (hp : p < 8) : CT G 2 yX6_mayMean cX6_mayMean 7 (some .boolean) [ra G 80, .int (nI a), .int (nI s), .int (nI p)] S (mmF (S 81) a s p) S := by
  unfold mmF
  rcases ha with ha | rfl | rfl
  · rw [if_pos ha]; exact kX6_mayMean_p hN ha hs hp
  · rw [if_neg (by decide)]; exact kX6_mayMean_h (t := 0) hN (by decide) hs hp
  · rw [if_neg (by decide)]; exact kX6_mayMean_h (t := 1) hN (by decide) hs hp
