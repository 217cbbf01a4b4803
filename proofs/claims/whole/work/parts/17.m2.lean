abbrev bS (s : Nat) : Int32 := nI 1 <<< (nI s &&& 31)
def wkS (S : Sx) (to s a : Nat) (p : Int32) : Sx := st (st S 84 (to + 0 + a) p) 84 (to + 8 + a) (bS s)
def hsS (S : Sx) (to s a t : Nat) : Sx := st (st (st (st (st S 84 (to + 16 + t) (nI a)) 84 (to + 26 + t) (bS s)) 84 (to + 36 + t) (nI 0)) 84 (to + 46 + t) (-1)) 84 (to + 56 + t) (nI 0)
abbrev othP (S : Sx) (to a t : Nat) : Prop := S 84 (to + 16 + t) ≠ -1 ∧ S 84 (to + 16 + t) ≠ nI a
def tkE (S : Sx) (to s a t : Nat) : Sx := if S 84 (to + 16 + t) = nI a then S else hsS S to s a t
def tkA (S : Sx) (to s a t : Nat) : Sx := st (st S 84 (to + 0 + a) (S 84 (to + 46 + t))) 84 (to + 8 + a) (bS s ||| st S 84 (to + 0 + a) (S 84 (to + 46 + t)) 84 (to + 56 + t))
def tkF (S : Sx) (to s a t : Nat) : Int32 × Sx :=
  if othP S to a t then (nI 0, S) else if S 84 (to + 36 + t) = nI 1 ∧ S 84 (to + 46 + t) ≠ -1 then (if S 84 (to + 0 + a) = -1 then (nI 1, tkE (tkA S to s a t) to s a t) else if S 84 (to + 0 + a) = S 84 (to + 46 + t) then (nI 1, tkE S to s a t) else (nI 0, S)) else (nI 1, tkE S to s a t)
def dp3 (S : Sx) (to t : Nat) : Sx := st (st (st S 84 (to + 16 + t) (-1)) 84 (to + 26 + t) (nI 0)) 84 (to + 36 + t) (nI 1)
def dp5 (S : Sx) (to s a t : Nat) : Sx := st (st (dp3 S to t) 84 (to + 46 + t) (dp3 S to t 84 (to + 0 + a))) 84 (to + 94 + t) (bS s)
def dpE (S : Sx) (to s a t : Nat) : Sx := st (dp5 S to s a t) 84 (to + 56 + t) (bS s ||| (if dp5 S to s a t 84 (to + 0 + a) = -1 then nI 0 else dp5 S to s a t 84 (to + 8 + a)))
def dpF (S : Sx) (to s a t : Nat) : Int32 × Sx := if othP S to a t ∨ S 84 (to + 36 + t) = nI 1 then (nI 0, S) else (nI 1, dpE S to s a t)
def gvA (S : Sx) (to s a b : Nat) : Sx := st (st S 84 (to + 0 + a) (S 84 (to + 0 + b))) 84 (to + 8 + a) (bS s ||| st S 84 (to + 0 + a) (S 84 (to + 0 + b)) 84 (to + 8 + b))
def gvF (S : Sx) (to s a t b : Nat) : Int32 × Sx :=
  if a = b ∨ othP S to a t ∨ S 84 (to + 36 + t) = nI 1 then (nI 0, S)
  else if S 84 (to + 0 + a) = -1 then (if S 84 (to + 0 + b) = -1 then (nI 1, hsS S to s b t) else (nI 1, hsS (gvA S to s a b) to s b t))
  else if S 84 (to + 0 + b) = -1 then (nI 1, hsS (gvA S to s b a) to s b t)
  else if S 84 (to + 0 + a) = S 84 (to + 0 + b) then (nI 1, hsS S to s b t) else (nI 0, S)

set_option maxRecDepth 100000 in
set_option maxHeartbeats 4000000 in
theorem kX6_walks {G : Cx} {S : Sx} (hN : 88 ≤ gN G) {to s a : Nat} (hto : to + 104 ≤ 26624) (ha : a < 8) {p : Int32} : CT G (0) yX6_walks cX6_walks 5 (some .boolean) [ra G 80, .int (nI to), .int (nI s), .int (nI a), .int p] S (nI 1) (wkS S to s a p) := by
  refine CT_of (by decide) (Nat.le_of_ble_eq_true rfl) (by intro v hv; simp only [List.mem_cons, List.not_mem_nil, or_false] at hv; rcases hv with rfl | rfl | rfl | rfl | rfl <;> rfl) (fun F X E => ?_)
  have hR := RI_R E
  refine V_aload_n X dX6_walks_0 rfl ?_
  refine V_getr X flX6_19 (ltN (by decide) hN) rfl rfl dX6_walks_1 ?_
  refine V_iload_n X dX6_walks_4 rfl ?_
  refine V_iconst X (nI 0) dX6_walks_5 (by decide) ?_
  refine V_addN X dX6_walks_6 ?_
  refine V_iload_n X dX6_walks_7 rfl ?_
  refine V_addN X dX6_walks_8 ?_
  refine V_iload X dX6_walks_9 rfl ?_
  refine V_iastN X (ltN (by decide) hN) rfl (by omega) (by decide) dX6_walks_11 ?_
  refine V_aload_n X dX6_walks_12 rfl ?_
  refine V_getr X flX6_19 (ltN (by decide) hN) rfl rfl dX6_walks_13 ?_
  refine V_iload_n X dX6_walks_16 rfl ?_
  refine V_bipush X (nI 8) dX6_walks_17 (by decide) ?_
  refine V_addN X dX6_walks_19 ?_
  refine V_iload_n X dX6_walks_20 rfl ?_
  refine V_addN X dX6_walks_21 ?_
  refine V_iconst X (nI 1) dX6_walks_22 (by decide) ?_
  refine V_iload_n X dX6_walks_23 rfl ?_
  refine V_ishl X dX6_walks_24 ?_
  refine V_iastN X (ltN (by decide) hN) rfl (by omega) (by decide) dX6_walks_25 ?_
  refine V_iconst X (nI 1) dX6_walks_26 (by decide) ?_
  exact V_zret X E dX6_walks_27 (by first | exact Or.inl rfl | exact Or.inr rfl | exact bi_01 _) rfl rfl

set_option maxRecDepth 100000 in
set_option maxHeartbeats 4000000 in
theorem kX6_isOthers {G : Cx} {S : Sx} (hN : 88 ≤ gN G) {to a t : Nat} (hto : to + 104 ≤ 26624) (ha : a < 8) (ht : t < 10) : CT G (0) yX6_isOthers cX6_isOthers 4 (some .boolean) [ra G 80, .int (nI to), .int (nI a), .int (nI t)] S (bi (othP S to a t)) (S) := by
  refine CT_of (by decide) (Nat.le_of_ble_eq_true rfl) (by intro v hv; simp only [List.mem_cons, List.not_mem_nil, or_false] at hv; rcases hv with rfl | rfl | rfl | rfl <;> rfl) (fun F X E => ?_)
  have hR := RI_R E
  refine V_aload_n X dX6_isOthers_0 rfl ?_
  refine V_getr X flX6_19 (ltN (by decide) hN) rfl rfl dX6_isOthers_1 ?_
  refine V_iload_n X dX6_isOthers_4 rfl ?_
  refine V_bipush X (nI 16) dX6_isOthers_5 (by decide) ?_
  refine V_addN X dX6_isOthers_7 ?_
  refine V_iload_n X dX6_isOthers_8 rfl ?_
  refine V_addN X dX6_isOthers_9 ?_
  refine V_ialdN X (ltN (by decide) hN) rfl (by omega) (by decide) dX6_isOthers_10 ?_
  refine V_iconst X (-1) dX6_isOthers_11 (by decide) ?_
  refine V_icmp_eq X 34 dX6_isOthers_12 (by decide) (fun h12 => ?_) (fun h12 => ?_)
  · refine V_iconst X (nI 0) dX6_isOthers_34 (by decide) ?_
    exact V_zret X E dX6_isOthers_35 (by first | exact Or.inl rfl | exact Or.inr rfl | exact bi_01 _) (bi_f (fun q => q.1 h12)) rfl
  · refine V_aload_n X dX6_isOthers_15 rfl ?_
    refine V_getr X flX6_19 (ltN (by decide) hN) rfl rfl dX6_isOthers_16 ?_
    refine V_iload_n X dX6_isOthers_19 rfl ?_
    refine V_bipush X (nI 16) dX6_isOthers_20 (by decide) ?_
    refine V_addN X dX6_isOthers_22 ?_
    refine V_iload_n X dX6_isOthers_23 rfl ?_
    refine V_addN X dX6_isOthers_24 ?_
    refine V_ialdN X (ltN (by decide) hN) rfl (by omega) (by decide) dX6_isOthers_25 ?_
    refine V_iload_n X dX6_isOthers_26 rfl ?_
    refine V_icmp_eq X 34 dX6_isOthers_27 (by decide) (fun h27 => ?_) (fun h27 => ?_)
    · refine V_iconst X (nI 0) dX6_isOthers_34 (by decide) ?_
      exact V_zret X E dX6_isOthers_35 (by first | exact Or.inl rfl | exact Or.inr rfl | exact bi_01 _) (by first | exact bi_t ⟨h12, h27⟩ | exact bi_f (fun q => q.2 h27)) rfl
    · refine V_iconst X (nI 1) dX6_isOthers_30 (by decide) ?_
      refine V_goto X 35 dX6_isOthers_31 (by decide) ?_
      exact V_zret X E dX6_isOthers_35 (by first | exact Or.inl rfl | exact Or.inr rfl | exact bi_01 _) (by first | exact bi_t ⟨h12, h27⟩ | exact bi_f (fun q => q.2 h27)) rfl

set_option maxRecDepth 100000 in
set_option maxHeartbeats 4000000 in
theorem kX6_has {G : Cx} {S : Sx} (hN : 88 ≤ gN G) {to s a t : Nat} (hto : to + 104 ≤ 26624) (ha : a < 8) (ht : t < 10) : CV G (0) yX6_has cX6_has 5 [ra G 80, .int (nI to), .int (nI s), .int (nI a), .int (nI t)] S (hsS S to s a t) := by
  refine CV_of (by decide) (Nat.le_of_ble_eq_true rfl) (by intro v hv; simp only [List.mem_cons, List.not_mem_nil, or_false] at hv; rcases hv with rfl | rfl | rfl | rfl | rfl <;> rfl) (fun F X E => ?_)
  have hR := RV_R E
  refine V_aload_n X dX6_has_0 rfl ?_
  refine V_getr X flX6_19 (ltN (by decide) hN) rfl rfl dX6_has_1 ?_
  refine V_iload_n X dX6_has_4 rfl ?_
  refine V_bipush X (nI 16) dX6_has_5 (by decide) ?_
  refine V_addN X dX6_has_7 ?_
  refine V_iload X dX6_has_8 rfl ?_
  refine V_addN X dX6_has_10 ?_
  refine V_iload_n X dX6_has_11 rfl ?_
  refine V_iastN X (ltN (by decide) hN) rfl (by omega) (by decide) dX6_has_12 ?_
  refine V_aload_n X dX6_has_13 rfl ?_
  refine V_getr X flX6_19 (ltN (by decide) hN) rfl rfl dX6_has_14 ?_
  refine V_iload_n X dX6_has_17 rfl ?_
  refine V_bipush X (nI 26) dX6_has_18 (by decide) ?_
  refine V_addN X dX6_has_20 ?_
  refine V_iload X dX6_has_21 rfl ?_
  refine V_addN X dX6_has_23 ?_
  refine V_iconst X (nI 1) dX6_has_24 (by decide) ?_
  refine V_iload_n X dX6_has_25 rfl ?_
  refine V_ishl X dX6_has_26 ?_
  refine V_iastN X (ltN (by decide) hN) rfl (by omega) (by decide) dX6_has_27 ?_
  refine V_aload_n X dX6_has_28 rfl ?_
  refine V_getr X flX6_19 (ltN (by decide) hN) rfl rfl dX6_has_29 ?_
  refine V_iload_n X dX6_has_32 rfl ?_
  refine V_bipush X (nI 36) dX6_has_33 (by decide) ?_
  refine V_addN X dX6_has_35 ?_
  refine V_iload X dX6_has_36 rfl ?_
  refine V_addN X dX6_has_38 ?_
  refine V_iconst X (nI 0) dX6_has_39 (by decide) ?_
  refine V_iastN X (ltN (by decide) hN) rfl (by omega) (by decide) dX6_has_40 ?_
  refine V_aload_n X dX6_has_41 rfl ?_
  refine V_getr X flX6_19 (ltN (by decide) hN) rfl rfl dX6_has_42 ?_
  refine V_iload_n X dX6_has_45 rfl ?_
  refine V_bipush X (nI 46) dX6_has_46 (by decide) ?_
  refine V_addN X dX6_has_48 ?_
  refine V_iload X dX6_has_49 rfl ?_
  refine V_addN X dX6_has_51 ?_
  refine V_iconst X (-1) dX6_has_52 (by decide) ?_
  refine V_iastN X (ltN (by decide) hN) rfl (by omega) (by decide) dX6_has_53 ?_
  refine V_aload_n X dX6_has_54 rfl ?_
  refine V_getr X flX6_19 (ltN (by decide) hN) rfl rfl dX6_has_55 ?_
  refine V_iload_n X dX6_has_58 rfl ?_
  refine V_bipush X (nI 56) dX6_has_59 (by decide) ?_
  refine V_addN X dX6_has_61 ?_
  refine V_iload X dX6_has_62 rfl ?_
  refine V_addN X dX6_has_64 ?_
  refine V_iconst X (nI 0) dX6_has_65 (by decide) ?_
  refine V_iastN X (ltN (by decide) hN) rfl (by omega) (by decide) dX6_has_66 ?_
  exact V_vret X E dX6_has_67 rfl

set_option maxRecDepth 100000 in
set_option maxHeartbeats 4000000 in
theorem kX6_takes {G : Cx} {S : Sx} (hN : 88 ≤ gN G) {to s a t : Nat} (hto : to + 104 ≤ 26624) (ha : a < 8) (ht : t < 10) : CT G (1) yX6_takes cX6_takes 6 (some .boolean) [ra G 80, .int (nI to), .int (nI s), .int (nI a), .int (nI t)] S ((tkF S to s a t).1) ((tkF S to s a t).2) := by
  refine CT_of (by decide) (Nat.le_of_ble_eq_true rfl) (by intro v hv; simp only [List.mem_cons, List.not_mem_nil, or_false] at hv; rcases hv with rfl | rfl | rfl | rfl | rfl <;> rfl) (fun F X E => ?_)
  have hR := RI_R E
  refine V_aload_n X dX6_takes_0 rfl ?_
  refine V_iload_n X dX6_takes_1 rfl ?_
  refine V_iload_n X dX6_takes_2 rfl ?_
  refine V_iload X dX6_takes_3 rfl ?_
  refine V_cvi X (ltN (by decide) hN) rfl rfl rfl (kX6_isOthers hN hto ha ht) cwX6_85 rfl (rm_ok hR (by decide) (by decide)) (Nat.le_of_ble_eq_true rfl) dX6_takes_5 ?_
  refine V_if_eq X 13 dX6_takes_8 (by decide) (fun h8 => ?_) (fun h8 => ?_)
  · refine V_aload_n X dX6_takes_13 rfl ?_
    refine V_getr X flX6_19 (ltN (by decide) hN) rfl rfl dX6_takes_14 ?_
    refine V_iload_n X dX6_takes_17 rfl ?_
    refine V_bipush X (nI 46) dX6_takes_18 (by decide) ?_
    refine V_addN X dX6_takes_20 ?_
    refine V_iload X dX6_takes_21 rfl ?_
    refine V_addN X dX6_takes_23 ?_
    refine V_ialdN X (ltN (by decide) hN) rfl (by omega) (by decide) dX6_takes_24 ?_
    refine V_istore X dX6_takes_25 (by rw [hR.2]; decide) ?_
    refine V_aload_n X dX6_takes_27 rfl ?_
    refine V_getr X flX6_19 (ltN (by decide) hN) rfl rfl dX6_takes_28 ?_
    refine V_iload_n X dX6_takes_31 rfl ?_
    refine V_bipush X (nI 36) dX6_takes_32 (by decide) ?_
    refine V_addN X dX6_takes_34 ?_
    refine V_iload X dX6_takes_35 rfl ?_
    refine V_addN X dX6_takes_37 ?_
    refine V_ialdN X (ltN (by decide) hN) rfl (by omega) (by decide) dX6_takes_38 ?_
    refine V_iconst X (nI 1) dX6_takes_39 (by decide) ?_
    refine V_icmp_ne X 122 dX6_takes_40 (by decide) (fun h40 => ?_) (fun h40 => ?_)
    · refine V_aload_n X dX6_takes_122 rfl ?_
      refine V_getr X flX6_19 (ltN (by decide) hN) rfl rfl dX6_takes_123 ?_
      refine V_iload_n X dX6_takes_126 rfl ?_
      refine V_bipush X (nI 16) dX6_takes_127 (by decide) ?_
      refine V_addN X dX6_takes_129 ?_
      refine V_iload X dX6_takes_130 rfl ?_
      refine V_addN X dX6_takes_132 ?_
      refine V_ialdN X (ltN (by decide) hN) rfl (by omega) (by decide) dX6_takes_133 ?_
      refine V_iload_n X dX6_takes_134 rfl ?_
      refine V_icmp_eq X 147 dX6_takes_135 (by decide) (fun h135 => ?_) (fun h135 => ?_)
      · refine V_iconst X (nI 1) dX6_takes_147 (by decide) ?_
        exact V_zret X E dX6_takes_148 (by first | exact Or.inl rfl | exact Or.inr rfl | exact bi_01 _) (by unfold tkF; rw [if_neg (bi_eq.mp h8), if_neg (fun q => h40 q.1)]) (by unfold tkF; rw [if_neg (bi_eq.mp h8), if_neg (fun q => h40 q.1)]; unfold tkE; first | exact (if_pos h135).symm | exact (if_neg h135).symm)
      · refine V_aload_n X dX6_takes_138 rfl ?_
        refine V_iload_n X dX6_takes_139 rfl ?_
        refine V_iload_n X dX6_takes_140 rfl ?_
        refine V_iload_n X dX6_takes_141 rfl ?_
        refine V_iload X dX6_takes_142 rfl ?_
        refine V_cvv X (ltN (by decide) hN) rfl rfl rfl (kX6_has hN hto ha ht) cwX6_88 rfl (rm_ok hR (by decide) (by decide)) (Nat.le_of_ble_eq_true rfl) dX6_takes_144 ?_
        refine V_iconst X (nI 1) dX6_takes_147 (by decide) ?_
        exact V_zret X E dX6_takes_148 (by first | exact Or.inl rfl | exact Or.inr rfl | exact bi_01 _) (by unfold tkF; rw [if_neg (bi_eq.mp h8), if_neg (fun q => h40 q.1)]) (by unfold tkF; rw [if_neg (bi_eq.mp h8), if_neg (fun q => h40 q.1)]; unfold tkE; first | exact (if_pos h135).symm | exact (if_neg h135).symm)
    · refine V_iload X dX6_takes_43 rfl ?_
      refine V_iconst X (-1) dX6_takes_45 (by decide) ?_
      refine V_icmp_eq X 122 dX6_takes_46 (by decide) (fun h46 => ?_) (fun h46 => ?_)
      · refine V_aload_n X dX6_takes_122 rfl ?_
        refine V_getr X flX6_19 (ltN (by decide) hN) rfl rfl dX6_takes_123 ?_
        refine V_iload_n X dX6_takes_126 rfl ?_
        refine V_bipush X (nI 16) dX6_takes_127 (by decide) ?_
        refine V_addN X dX6_takes_129 ?_
        refine V_iload X dX6_takes_130 rfl ?_
        refine V_addN X dX6_takes_132 ?_
        refine V_ialdN X (ltN (by decide) hN) rfl (by omega) (by decide) dX6_takes_133 ?_
        refine V_iload_n X dX6_takes_134 rfl ?_
        refine V_icmp_eq X 147 dX6_takes_135 (by decide) (fun h135 => ?_) (fun h135 => ?_)
        · refine V_iconst X (nI 1) dX6_takes_147 (by decide) ?_
          exact V_zret X E dX6_takes_148 (by first | exact Or.inl rfl | exact Or.inr rfl | exact bi_01 _) (by unfold tkF; rw [if_neg (bi_eq.mp h8), if_neg (fun q => q.2 h46)]) (by unfold tkF; rw [if_neg (bi_eq.mp h8), if_neg (fun q => q.2 h46)]; unfold tkE; first | exact (if_pos h135).symm | exact (if_neg h135).symm)
        · refine V_aload_n X dX6_takes_138 rfl ?_
          refine V_iload_n X dX6_takes_139 rfl ?_
          refine V_iload_n X dX6_takes_140 rfl ?_
          refine V_iload_n X dX6_takes_141 rfl ?_
          refine V_iload X dX6_takes_142 rfl ?_
          refine V_cvv X (ltN (by decide) hN) rfl rfl rfl (kX6_has hN hto ha ht) cwX6_88 rfl (rm_ok hR (by decide) (by decide)) (Nat.le_of_ble_eq_true rfl) dX6_takes_144 ?_
          refine V_iconst X (nI 1) dX6_takes_147 (by decide) ?_
          exact V_zret X E dX6_takes_148 (by first | exact Or.inl rfl | exact Or.inr rfl | exact bi_01 _) (by unfold tkF; rw [if_neg (bi_eq.mp h8), if_neg (fun q => q.2 h46)]) (by unfold tkF; rw [if_neg (bi_eq.mp h8), if_neg (fun q => q.2 h46)]; unfold tkE; first | exact (if_pos h135).symm | exact (if_neg h135).symm)
      · refine V_aload_n X dX6_takes_49 rfl ?_
        refine V_getr X flX6_19 (ltN (by decide) hN) rfl rfl dX6_takes_50 ?_
        refine V_iload_n X dX6_takes_53 rfl ?_
        refine V_iconst X (nI 0) dX6_takes_54 (by decide) ?_
        refine V_addN X dX6_takes_55 ?_
        refine V_iload_n X dX6_takes_56 rfl ?_
        refine V_addN X dX6_takes_57 ?_
        refine V_ialdN X (ltN (by decide) hN) rfl (by omega) (by decide) dX6_takes_58 ?_
        refine V_iconst X (-1) dX6_takes_59 (by decide) ?_
        refine V_icmp_ne X 105 dX6_takes_60 (by decide) (fun h60 => ?_) (fun h60 => ?_)
        · refine V_aload_n X dX6_takes_105 rfl ?_
          refine V_getr X flX6_19 (ltN (by decide) hN) rfl rfl dX6_takes_106 ?_
          refine V_iload_n X dX6_takes_109 rfl ?_
          refine V_iconst X (nI 0) dX6_takes_110 (by decide) ?_
          refine V_addN X dX6_takes_111 ?_
          refine V_iload_n X dX6_takes_112 rfl ?_
          refine V_addN X dX6_takes_113 ?_
          refine V_ialdN X (ltN (by decide) hN) rfl (by omega) (by decide) dX6_takes_114 ?_
          refine V_iload X dX6_takes_115 rfl ?_
          refine V_icmp_eq X 122 dX6_takes_117 (by decide) (fun h117 => ?_) (fun h117 => ?_)
          · refine V_aload_n X dX6_takes_122 rfl ?_
            refine V_getr X flX6_19 (ltN (by decide) hN) rfl rfl dX6_takes_123 ?_
            refine V_iload_n X dX6_takes_126 rfl ?_
            refine V_bipush X (nI 16) dX6_takes_127 (by decide) ?_
            refine V_addN X dX6_takes_129 ?_
            refine V_iload X dX6_takes_130 rfl ?_
            refine V_addN X dX6_takes_132 ?_
            refine V_ialdN X (ltN (by decide) hN) rfl (by omega) (by decide) dX6_takes_133 ?_
            refine V_iload_n X dX6_takes_134 rfl ?_
            refine V_icmp_eq X 147 dX6_takes_135 (by decide) (fun h135 => ?_) (fun h135 => ?_)
            · refine V_iconst X (nI 1) dX6_takes_147 (by decide) ?_
              exact V_zret X E dX6_takes_148 (by first | exact Or.inl rfl | exact Or.inr rfl | exact bi_01 _) (by unfold tkF; rw [if_neg (bi_eq.mp h8), if_pos ⟨ts_nn h40, h46⟩, if_neg h60, if_pos h117]) (by unfold tkF; rw [if_neg (bi_eq.mp h8), if_pos ⟨ts_nn h40, h46⟩, if_neg h60, if_pos h117]; unfold tkE; first | exact (if_pos h135).symm | exact (if_neg h135).symm)
            · refine V_aload_n X dX6_takes_138 rfl ?_
              refine V_iload_n X dX6_takes_139 rfl ?_
              refine V_iload_n X dX6_takes_140 rfl ?_
              refine V_iload_n X dX6_takes_141 rfl ?_
              refine V_iload X dX6_takes_142 rfl ?_
              refine V_cvv X (ltN (by decide) hN) rfl rfl rfl (kX6_has hN hto ha ht) cwX6_88 rfl (rm_ok hR (by decide) (by decide)) (Nat.le_of_ble_eq_true rfl) dX6_takes_144 ?_
              refine V_iconst X (nI 1) dX6_takes_147 (by decide) ?_
              exact V_zret X E dX6_takes_148 (by first | exact Or.inl rfl | exact Or.inr rfl | exact bi_01 _) (by unfold tkF; rw [if_neg (bi_eq.mp h8), if_pos ⟨ts_nn h40, h46⟩, if_neg h60, if_pos h117]) (by unfold tkF; rw [if_neg (bi_eq.mp h8), if_pos ⟨ts_nn h40, h46⟩, if_neg h60, if_pos h117]; unfold tkE; first | exact (if_pos h135).symm | exact (if_neg h135).symm)
          · refine V_iconst X (nI 0) dX6_takes_120 (by decide) ?_
            exact V_zret X E dX6_takes_121 (by first | exact Or.inl rfl | exact Or.inr rfl | exact bi_01 _) (by unfold tkF; rw [if_neg (bi_eq.mp h8), if_pos ⟨ts_nn h40, h46⟩, if_neg h60, if_neg h117]) (by unfold tkF; rw [if_neg (bi_eq.mp h8), if_pos ⟨ts_nn h40, h46⟩, if_neg h60, if_neg h117])
        · refine V_aload_n X dX6_takes_63 rfl ?_
          refine V_getr X flX6_19 (ltN (by decide) hN) rfl rfl dX6_takes_64 ?_
          refine V_iload_n X dX6_takes_67 rfl ?_
          refine V_iconst X (nI 0) dX6_takes_68 (by decide) ?_
          refine V_addN X dX6_takes_69 ?_
          refine V_iload_n X dX6_takes_70 rfl ?_
          refine V_addN X dX6_takes_71 ?_
          refine V_iload X dX6_takes_72 rfl ?_
          refine V_iastN X (ltN (by decide) hN) rfl (by omega) (by decide) dX6_takes_74 ?_
          refine V_aload_n X dX6_takes_75 rfl ?_
          refine V_getr X flX6_19 (ltN (by decide) hN) rfl rfl dX6_takes_76 ?_
          refine V_iload_n X dX6_takes_79 rfl ?_
          refine V_bipush X (nI 8) dX6_takes_80 (by decide) ?_
          refine V_addN X dX6_takes_82 ?_
          refine V_iload_n X dX6_takes_83 rfl ?_
          refine V_addN X dX6_takes_84 ?_
          refine V_iconst X (nI 1) dX6_takes_85 (by decide) ?_
          refine V_iload_n X dX6_takes_86 rfl ?_
          refine V_ishl X dX6_takes_87 ?_
          refine V_aload_n X dX6_takes_88 rfl ?_
          refine V_getr X flX6_19 (ltN (by decide) hN) rfl rfl dX6_takes_89 ?_
          refine V_iload_n X dX6_takes_92 rfl ?_
          refine V_bipush X (nI 56) dX6_takes_93 (by decide) ?_
          refine V_addN X dX6_takes_95 ?_
          refine V_iload X dX6_takes_96 rfl ?_
          refine V_addN X dX6_takes_98 ?_
          refine V_ialdN X (ltN (by decide) hN) rfl (by omega) (by decide) dX6_takes_99 ?_
          refine V_ior X dX6_takes_100 ?_
          refine V_iastN X (ltN (by decide) hN) rfl (by omega) (by decide) dX6_takes_101 ?_
          refine V_goto X 122 dX6_takes_102 (by decide) ?_
          refine V_aload_n X dX6_takes_122 rfl ?_
          refine V_getr X flX6_19 (ltN (by decide) hN) rfl rfl dX6_takes_123 ?_
          refine V_iload_n X dX6_takes_126 rfl ?_
          refine V_bipush X (nI 16) dX6_takes_127 (by decide) ?_
          refine V_addN X dX6_takes_129 ?_
          refine V_iload X dX6_takes_130 rfl ?_
          refine V_addN X dX6_takes_132 ?_
          refine V_ialdN X (ltN (by decide) hN) rfl (by omega) (by decide) dX6_takes_133 ?_
          refine V_iload_n X dX6_takes_134 rfl ?_
          refine V_icmp_eq X 147 dX6_takes_135 (by decide) (fun h135 => ?_) (fun h135 => ?_)
          · refine V_iconst X (nI 1) dX6_takes_147 (by decide) ?_
            exact V_zret X E dX6_takes_148 (by first | exact Or.inl rfl | exact Or.inr rfl | exact bi_01 _) (by unfold tkF; rw [if_neg (bi_eq.mp h8), if_pos ⟨ts_nn h40, h46⟩, if_pos (ts_nn h60)]) (by unfold tkF; rw [if_neg (bi_eq.mp h8), if_pos ⟨ts_nn h40, h46⟩, if_pos (ts_nn h60)]; unfold tkE; first | exact (if_pos h135).symm | exact (if_neg h135).symm)
          · refine V_aload_n X dX6_takes_138 rfl ?_
            refine V_iload_n X dX6_takes_139 rfl ?_
            refine V_iload_n X dX6_takes_140 rfl ?_
            refine V_iload_n X dX6_takes_141 rfl ?_
            refine V_iload X dX6_takes_142 rfl ?_
            refine V_cvv X (ltN (by decide) hN) rfl rfl rfl (kX6_has hN hto ha ht) cwX6_88 rfl (rm_ok hR (by decide) (by decide)) (Nat.le_of_ble_eq_true rfl) dX6_takes_144 ?_
            refine V_iconst X (nI 1) dX6_takes_147 (by decide) ?_
            exact V_zret X E dX6_takes_148 (by first | exact Or.inl rfl | exact Or.inr rfl | exact bi_01 _) (by unfold tkF; rw [if_neg (bi_eq.mp h8), if_pos ⟨ts_nn h40, h46⟩, if_pos (ts_nn h60)]) (by unfold tkF; rw [if_neg (bi_eq.mp h8), if_pos ⟨ts_nn h40, h46⟩, if_pos (ts_nn h60)]; unfold tkE; first | exact (if_pos h135).symm | exact (if_neg h135).symm)
  · refine V_iconst X (nI 0) dX6_takes_11 (by decide) ?_
    exact V_zret X E dX6_takes_12 (by first | exact Or.inl rfl | exact Or.inr rfl | exact bi_01 _) (by unfold tkF; rw [if_pos (Classical.byContradiction (fun z => h8 (bi_eq.mpr z)))]) (by unfold tkF; rw [if_pos (Classical.byContradiction (fun z => h8 (bi_eq.mpr z)))])

set_option maxRecDepth 100000 in
set_option maxHeartbeats 4000000 in
theorem kX6_drops {G : Cx} {S : Sx} (hN : 88 ≤ gN G) {to s a t : Nat} (hto : to + 104 ≤ 26624) (ha : a < 8) (ht : t < 10) : CT G (1) yX6_drops cX6_drops 5 (some .boolean) [ra G 80, .int (nI to), .int (nI s), .int (nI a), .int (nI t)] S ((dpF S to s a t).1) ((dpF S to s a t).2) := by
  refine CT_of (by decide) (Nat.le_of_ble_eq_true rfl) (by intro v hv; simp only [List.mem_cons, List.not_mem_nil, or_false] at hv; rcases hv with rfl | rfl | rfl | rfl | rfl <;> rfl) (fun F X E => ?_)
  have hR := RI_R E
  refine V_aload_n X dX6_drops_0 rfl ?_
  refine V_iload_n X dX6_drops_1 rfl ?_
  refine V_iload_n X dX6_drops_2 rfl ?_
  refine V_iload X dX6_drops_3 rfl ?_
  refine V_cvi X (ltN (by decide) hN) rfl rfl rfl (kX6_isOthers hN hto ha ht) cwX6_85 rfl (rm_ok hR (by decide) (by decide)) (Nat.le_of_ble_eq_true rfl) dX6_drops_5 ?_
  refine V_if_ne X 27 dX6_drops_8 (by decide) (fun h8 => ?_) (fun h8 => ?_)
  · refine V_iconst X (nI 0) dX6_drops_27 (by decide) ?_
    exact V_zret X E dX6_drops_28 (by first | exact Or.inl rfl | exact Or.inr rfl | exact bi_01 _) (by unfold dpF; rw [if_pos (Or.inl (bi_ne.mp h8))]) (by unfold dpF; rw [if_pos (Or.inl (bi_ne.mp h8))])
  · refine V_aload_n X dX6_drops_11 rfl ?_
    refine V_getr X flX6_19 (ltN (by decide) hN) rfl rfl dX6_drops_12 ?_
    refine V_iload_n X dX6_drops_15 rfl ?_
    refine V_bipush X (nI 36) dX6_drops_16 (by decide) ?_
    refine V_addN X dX6_drops_18 ?_
    refine V_iload X dX6_drops_19 rfl ?_
    refine V_addN X dX6_drops_21 ?_
    refine V_ialdN X (ltN (by decide) hN) rfl (by omega) (by decide) dX6_drops_22 ?_
    refine V_iconst X (nI 1) dX6_drops_23 (by decide) ?_
    refine V_icmp_ne X 29 dX6_drops_24 (by decide) (fun h24 => ?_) (fun h24 => ?_)
    · refine V_aload_n X dX6_drops_29 rfl ?_
      refine V_getr X flX6_19 (ltN (by decide) hN) rfl rfl dX6_drops_30 ?_
      refine V_iload_n X dX6_drops_33 rfl ?_
      refine V_bipush X (nI 16) dX6_drops_34 (by decide) ?_
      refine V_addN X dX6_drops_36 ?_
      refine V_iload X dX6_drops_37 rfl ?_
      refine V_addN X dX6_drops_39 ?_
      refine V_iconst X (-1) dX6_drops_40 (by decide) ?_
      refine V_iastN X (ltN (by decide) hN) rfl (by omega) (by decide) dX6_drops_41 ?_
      refine V_aload_n X dX6_drops_42 rfl ?_
      refine V_getr X flX6_19 (ltN (by decide) hN) rfl rfl dX6_drops_43 ?_
      refine V_iload_n X dX6_drops_46 rfl ?_
      refine V_bipush X (nI 26) dX6_drops_47 (by decide) ?_
      refine V_addN X dX6_drops_49 ?_
      refine V_iload X dX6_drops_50 rfl ?_
      refine V_addN X dX6_drops_52 ?_
      refine V_iconst X (nI 0) dX6_drops_53 (by decide) ?_
      refine V_iastN X (ltN (by decide) hN) rfl (by omega) (by decide) dX6_drops_54 ?_
      refine V_aload_n X dX6_drops_55 rfl ?_
      refine V_getr X flX6_19 (ltN (by decide) hN) rfl rfl dX6_drops_56 ?_
      refine V_iload_n X dX6_drops_59 rfl ?_
      refine V_bipush X (nI 36) dX6_drops_60 (by decide) ?_
      refine V_addN X dX6_drops_62 ?_
      refine V_iload X dX6_drops_63 rfl ?_
      refine V_addN X dX6_drops_65 ?_
      refine V_iconst X (nI 1) dX6_drops_66 (by decide) ?_
      refine V_iastN X (ltN (by decide) hN) rfl (by omega) (by decide) dX6_drops_67 ?_
      refine V_aload_n X dX6_drops_68 rfl ?_
      refine V_getr X flX6_19 (ltN (by decide) hN) rfl rfl dX6_drops_69 ?_
      refine V_iload_n X dX6_drops_72 rfl ?_
      refine V_bipush X (nI 46) dX6_drops_73 (by decide) ?_
      refine V_addN X dX6_drops_75 ?_
      refine V_iload X dX6_drops_76 rfl ?_
      refine V_addN X dX6_drops_78 ?_
      refine V_aload_n X dX6_drops_79 rfl ?_
      refine V_getr X flX6_19 (ltN (by decide) hN) rfl rfl dX6_drops_80 ?_
      refine V_iload_n X dX6_drops_83 rfl ?_
      refine V_iconst X (nI 0) dX6_drops_84 (by decide) ?_
      refine V_addN X dX6_drops_85 ?_
      refine V_iload_n X dX6_drops_86 rfl ?_
      refine V_addN X dX6_drops_87 ?_
      refine V_ialdN X (ltN (by decide) hN) rfl (by omega) (by decide) dX6_drops_88 ?_
      refine V_iastN X (ltN (by decide) hN) rfl (by omega) (by decide) dX6_drops_89 ?_
      refine V_aload_n X dX6_drops_90 rfl ?_
      refine V_getr X flX6_19 (ltN (by decide) hN) rfl rfl dX6_drops_91 ?_
      refine V_iload_n X dX6_drops_94 rfl ?_
      refine V_bipush X (nI 94) dX6_drops_95 (by decide) ?_
      refine V_addN X dX6_drops_97 ?_
      refine V_iload X dX6_drops_98 rfl ?_
      refine V_addN X dX6_drops_100 ?_
      refine V_iconst X (nI 1) dX6_drops_101 (by decide) ?_
      refine V_iload_n X dX6_drops_102 rfl ?_
      refine V_ishl X dX6_drops_103 ?_
      refine V_iastN X (ltN (by decide) hN) rfl (by omega) (by decide) dX6_drops_104 ?_
      refine V_aload_n X dX6_drops_105 rfl ?_
      refine V_getr X flX6_19 (ltN (by decide) hN) rfl rfl dX6_drops_106 ?_
      refine V_iload_n X dX6_drops_109 rfl ?_
      refine V_bipush X (nI 56) dX6_drops_110 (by decide) ?_
      refine V_addN X dX6_drops_112 ?_
      refine V_iload X dX6_drops_113 rfl ?_
      refine V_addN X dX6_drops_115 ?_
      refine V_iconst X (nI 1) dX6_drops_116 (by decide) ?_
      refine V_iload_n X dX6_drops_117 rfl ?_
      refine V_ishl X dX6_drops_118 ?_
      refine V_aload_n X dX6_drops_119 rfl ?_
      refine V_getr X flX6_19 (ltN (by decide) hN) rfl rfl dX6_drops_120 ?_
      refine V_iload_n X dX6_drops_123 rfl ?_
      refine V_iconst X (nI 0) dX6_drops_124 (by decide) ?_
      refine V_addN X dX6_drops_125 ?_
      refine V_iload_n X dX6_drops_126 rfl ?_
      refine V_addN X dX6_drops_127 ?_
      refine V_ialdN X (ltN (by decide) hN) rfl (by omega) (by decide) dX6_drops_128 ?_
      refine V_iconst X (-1) dX6_drops_129 (by decide) ?_
      refine V_icmp_ne X 137 dX6_drops_130 (by decide) (fun h130 => ?_) (fun h130 => ?_)
      · refine V_aload_n X dX6_drops_137 rfl ?_
        refine V_getr X flX6_19 (ltN (by decide) hN) rfl rfl dX6_drops_138 ?_
        refine V_iload_n X dX6_drops_141 rfl ?_
        refine V_bipush X (nI 8) dX6_drops_142 (by decide) ?_
        refine V_addN X dX6_drops_144 ?_
        refine V_iload_n X dX6_drops_145 rfl ?_
        refine V_addN X dX6_drops_146 ?_
        refine V_ialdN X (ltN (by decide) hN) rfl (by omega) (by decide) dX6_drops_147 ?_
        refine V_ior X dX6_drops_148 ?_
        refine V_iastN X (ltN (by decide) hN) rfl (by omega) (by decide) dX6_drops_149 ?_
        refine V_iconst X (nI 1) dX6_drops_150 (by decide) ?_
        exact V_zret X E dX6_drops_151 (by first | exact Or.inl rfl | exact Or.inr rfl | exact bi_01 _) (by unfold dpF; rw [if_neg (fun q => q.elim (fun z => h8 (bi_ne.mpr z)) h24)]) (by unfold dpF; rw [if_neg (fun q => q.elim (fun z => h8 (bi_ne.mpr z)) h24)]; unfold dpE; first | (rw [if_pos (show dp5 S to s a t 84 (to + 0 + a) = -1 from ts_nn h130)]; rfl) | (rw [if_neg (show ¬ dp5 S to s a t 84 (to + 0 + a) = -1 from h130)]; rfl))
      · refine V_iconst X (nI 0) dX6_drops_133 (by decide) ?_
        refine V_goto X 148 dX6_drops_134 (by decide) ?_
        refine V_ior X dX6_drops_148 ?_
        refine V_iastN X (ltN (by decide) hN) rfl (by omega) (by decide) dX6_drops_149 ?_
        refine V_iconst X (nI 1) dX6_drops_150 (by decide) ?_
        exact V_zret X E dX6_drops_151 (by first | exact Or.inl rfl | exact Or.inr rfl | exact bi_01 _) (by unfold dpF; rw [if_neg (fun q => q.elim (fun z => h8 (bi_ne.mpr z)) h24)]) (by unfold dpF; rw [if_neg (fun q => q.elim (fun z => h8 (bi_ne.mpr z)) h24)]; unfold dpE; first | (rw [if_pos (show dp5 S to s a t 84 (to + 0 + a) = -1 from ts_nn h130)]; rfl) | (rw [if_neg (show ¬ dp5 S to s a t 84 (to + 0 + a) = -1 from h130)]; rfl))
    · refine V_iconst X (nI 0) dX6_drops_27 (by decide) ?_
      exact V_zret X E dX6_drops_28 (by first | exact Or.inl rfl | exact Or.inr rfl | exact bi_01 _) (by unfold dpF; rw [if_pos (Or.inr (ts_nn h24))]) (by unfold dpF; rw [if_pos (Or.inr (ts_nn h24))])

set_option maxRecDepth 100000 in
set_option maxHeartbeats 4000000 in
theorem kX6_gives {G : Cx} {S : Sx} (hN : 88 ≤ gN G) {to s a t b : Nat} (hto : to + 104 ≤ 26624) (ha : a < 8) (ht : t < 10) (hb : b < 8) : CT G (1) yX6_gives cX6_gives 8 (some .boolean) [ra G 80, .int (nI to), .int (nI s), .int (nI a), .int (nI t), .int (nI b)] S ((gvF S to s a t b).1) ((gvF S to s a t b).2) := by
  refine CT_of (by decide) (Nat.le_of_ble_eq_true rfl) (by intro v hv; simp only [List.mem_cons, List.not_mem_nil, or_false] at hv; rcases hv with rfl | rfl | rfl | rfl | rfl | rfl <;> rfl) (fun F X E => ?_)
  have hR := RI_R E
  refine V_iload_n X dX6_gives_0 rfl ?_
  refine V_iload X dX6_gives_1 rfl ?_
  refine V_cN_eq X 33 (by omega) (by omega) dX6_gives_3 (by decide) (fun h3 => ?_) (fun h3 => ?_)
  · refine V_iconst X (nI 0) dX6_gives_33 (by decide) ?_
    exact V_zret X E dX6_gives_34 (by first | exact Or.inl rfl | exact Or.inr rfl | exact bi_01 _) (by unfold gvF; rw [if_pos (Or.inl h3)]) (by unfold gvF; rw [if_pos (Or.inl h3)])
  · refine V_aload_n X dX6_gives_6 rfl ?_
    refine V_iload_n X dX6_gives_7 rfl ?_
    refine V_iload_n X dX6_gives_8 rfl ?_
    refine V_iload X dX6_gives_9 rfl ?_
    refine V_cvi X (ltN (by decide) hN) rfl rfl rfl (kX6_isOthers hN hto ha ht) cwX6_85 rfl (rm_ok hR (by decide) (by decide)) (Nat.le_of_ble_eq_true rfl) dX6_gives_11 ?_
    refine V_if_ne X 33 dX6_gives_14 (by decide) (fun h14 => ?_) (fun h14 => ?_)
    · refine V_iconst X (nI 0) dX6_gives_33 (by decide) ?_
      exact V_zret X E dX6_gives_34 (by first | exact Or.inl rfl | exact Or.inr rfl | exact bi_01 _) (by unfold gvF; rw [if_pos (Or.inr (Or.inl (bi_ne.mp h14)))]) (by unfold gvF; rw [if_pos (Or.inr (Or.inl (bi_ne.mp h14)))])
    · refine V_aload_n X dX6_gives_17 rfl ?_
      refine V_getr X flX6_19 (ltN (by decide) hN) rfl rfl dX6_gives_18 ?_
      refine V_iload_n X dX6_gives_21 rfl ?_
      refine V_bipush X (nI 36) dX6_gives_22 (by decide) ?_
      refine V_addN X dX6_gives_24 ?_
      refine V_iload X dX6_gives_25 rfl ?_
      refine V_addN X dX6_gives_27 ?_
      refine V_ialdN X (ltN (by decide) hN) rfl (by omega) (by decide) dX6_gives_28 ?_
      refine V_iconst X (nI 1) dX6_gives_29 (by decide) ?_
      refine V_icmp_ne X 35 dX6_gives_30 (by decide) (fun h30 => ?_) (fun h30 => ?_)
      · refine V_aload_n X dX6_gives_35 rfl ?_
        refine V_getr X flX6_19 (ltN (by decide) hN) rfl rfl dX6_gives_36 ?_
        refine V_iload_n X dX6_gives_39 rfl ?_
        refine V_iconst X (nI 0) dX6_gives_40 (by decide) ?_
        refine V_addN X dX6_gives_41 ?_
        refine V_iload_n X dX6_gives_42 rfl ?_
        refine V_addN X dX6_gives_43 ?_
        refine V_ialdN X (ltN (by decide) hN) rfl (by omega) (by decide) dX6_gives_44 ?_
        refine V_istore X dX6_gives_45 (by rw [hR.2]; decide) ?_
        refine V_aload_n X dX6_gives_47 rfl ?_
        refine V_getr X flX6_19 (ltN (by decide) hN) rfl rfl dX6_gives_48 ?_
        refine V_iload_n X dX6_gives_51 rfl ?_
        refine V_iconst X (nI 0) dX6_gives_52 (by decide) ?_
        refine V_addN X dX6_gives_53 ?_
        refine V_iload X dX6_gives_54 rfl ?_
        refine V_addN X dX6_gives_56 ?_
        refine V_ialdN X (ltN (by decide) hN) rfl (by omega) (by decide) dX6_gives_57 ?_
        refine V_istore X dX6_gives_58 (by rw [hR.2]; decide) ?_
        refine V_iload X dX6_gives_60 rfl ?_
        refine V_iconst X (-1) dX6_gives_62 (by decide) ?_
        refine V_icmp_eq X 81 dX6_gives_63 (by decide) (fun h63 => ?_) (fun h63 => ?_)
        · refine V_iload X dX6_gives_81 rfl ?_
          refine V_iconst X (-1) dX6_gives_83 (by decide) ?_
          refine V_icmp_ne X 132 dX6_gives_84 (by decide) (fun h84 => ?_) (fun h84 => ?_)
          · exact absurd h63 h84
          · refine V_iload X dX6_gives_87 rfl ?_
            refine V_iconst X (-1) dX6_gives_89 (by decide) ?_
            refine V_icmp_eq X 132 dX6_gives_90 (by decide) (fun h90 => ?_) (fun h90 => ?_)
            · refine V_iload X dX6_gives_132 rfl ?_
              refine V_iconst X (-1) dX6_gives_134 (by decide) ?_
              refine V_icmp_eq X 184 dX6_gives_135 (by decide) (fun h135 => ?_) (fun h135 => ?_)
              · refine V_aload_n X dX6_gives_184 rfl ?_
                refine V_iload_n X dX6_gives_185 rfl ?_
                refine V_iload_n X dX6_gives_186 rfl ?_
                refine V_iload X dX6_gives_187 rfl ?_
                refine V_iload X dX6_gives_189 rfl ?_
                refine V_cvv X (ltN (by decide) hN) rfl rfl rfl (kX6_has hN hto hb ht) cwX6_88 rfl (rm_ok hR (by decide) (by decide)) (Nat.le_of_ble_eq_true rfl) dX6_gives_191 ?_
                refine V_iconst X (nI 1) dX6_gives_194 (by decide) ?_
                exact V_zret X E dX6_gives_195 (by first | exact Or.inl rfl | exact Or.inr rfl) (by unfold gvF; rw [if_neg (fun q => q.elim h3 (fun q => q.elim (fun z => h14 (bi_ne.mpr z)) h30))]; rw [if_pos h63]; split <;> rfl) (by unfold gvF; rw [if_neg (fun q => q.elim h3 (fun q => q.elim (fun z => h14 (bi_ne.mpr z)) h30))]; rw [if_pos h63]; first | (rw [if_pos h90]; done) | (rw [if_neg h90]; rfl))
              · exact absurd h63 h135
            · refine V_aload_n X dX6_gives_93 rfl ?_
              refine V_getr X flX6_19 (ltN (by decide) hN) rfl rfl dX6_gives_94 ?_
              refine V_iload_n X dX6_gives_97 rfl ?_
              refine V_iconst X (nI 0) dX6_gives_98 (by decide) ?_
              refine V_addN X dX6_gives_99 ?_
              refine V_iload_n X dX6_gives_100 rfl ?_
              refine V_addN X dX6_gives_101 ?_
              refine V_iload X dX6_gives_102 rfl ?_
              refine V_iastN X (ltN (by decide) hN) rfl (by omega) (by decide) dX6_gives_104 ?_
              refine V_aload_n X dX6_gives_105 rfl ?_
              refine V_getr X flX6_19 (ltN (by decide) hN) rfl rfl dX6_gives_106 ?_
              refine V_iload_n X dX6_gives_109 rfl ?_
              refine V_bipush X (nI 8) dX6_gives_110 (by decide) ?_
              refine V_addN X dX6_gives_112 ?_
              refine V_iload_n X dX6_gives_113 rfl ?_
              refine V_addN X dX6_gives_114 ?_
              refine V_iconst X (nI 1) dX6_gives_115 (by decide) ?_
              refine V_iload_n X dX6_gives_116 rfl ?_
              refine V_ishl X dX6_gives_117 ?_
              refine V_aload_n X dX6_gives_118 rfl ?_
              refine V_getr X flX6_19 (ltN (by decide) hN) rfl rfl dX6_gives_119 ?_
              refine V_iload_n X dX6_gives_122 rfl ?_
              refine V_bipush X (nI 8) dX6_gives_123 (by decide) ?_
              refine V_addN X dX6_gives_125 ?_
              refine V_iload X dX6_gives_126 rfl ?_
              refine V_addN X dX6_gives_128 ?_
              refine V_ialdN X (ltN (by decide) hN) rfl (by omega) (by decide) dX6_gives_129 ?_
              refine V_ior X dX6_gives_130 ?_
              refine V_iastN X (ltN (by decide) hN) rfl (by omega) (by decide) dX6_gives_131 ?_
              refine V_iload X dX6_gives_132 rfl ?_
              refine V_iconst X (-1) dX6_gives_134 (by decide) ?_
              refine V_icmp_eq X 184 dX6_gives_135 (by decide) (fun h135 => ?_) (fun h135 => ?_)
              · refine V_aload_n X dX6_gives_184 rfl ?_
                refine V_iload_n X dX6_gives_185 rfl ?_
                refine V_iload_n X dX6_gives_186 rfl ?_
                refine V_iload X dX6_gives_187 rfl ?_
                refine V_iload X dX6_gives_189 rfl ?_
                refine V_cvv X (ltN (by decide) hN) rfl rfl rfl (kX6_has hN hto hb ht) cwX6_88 rfl (rm_ok hR (by decide) (by decide)) (Nat.le_of_ble_eq_true rfl) dX6_gives_191 ?_
                refine V_iconst X (nI 1) dX6_gives_194 (by decide) ?_
                exact V_zret X E dX6_gives_195 (by first | exact Or.inl rfl | exact Or.inr rfl) (by unfold gvF; rw [if_neg (fun q => q.elim h3 (fun q => q.elim (fun z => h14 (bi_ne.mpr z)) h30))]; rw [if_pos h63]; split <;> rfl) (by unfold gvF; rw [if_neg (fun q => q.elim h3 (fun q => q.elim (fun z => h14 (bi_ne.mpr z)) h30))]; rw [if_pos h63]; first | (rw [if_pos h90]; done) | (rw [if_neg h90]; rfl))
              · exact absurd h63 h135
        · refine V_iload X dX6_gives_66 rfl ?_
          refine V_iconst X (-1) dX6_gives_68 (by decide) ?_
          refine V_icmp_eq X 81 dX6_gives_69 (by decide) (fun h69 => ?_) (fun h69 => ?_)
          · refine V_iload X dX6_gives_81 rfl ?_
            refine V_iconst X (-1) dX6_gives_83 (by decide) ?_
            refine V_icmp_ne X 132 dX6_gives_84 (by decide) (fun h84 => ?_) (fun h84 => ?_)
            · refine V_iload X dX6_gives_132 rfl ?_
              refine V_iconst X (-1) dX6_gives_134 (by decide) ?_
              refine V_icmp_eq X 184 dX6_gives_135 (by decide) (fun h135 => ?_) (fun h135 => ?_)
              · exact absurd h135 h63
              · refine V_iload X dX6_gives_138 rfl ?_
                refine V_iconst X (-1) dX6_gives_140 (by decide) ?_
                refine V_icmp_ne X 184 dX6_gives_141 (by decide) (fun h141 => ?_) (fun h141 => ?_)
                · exact absurd h69 h141
                · refine V_aload_n X dX6_gives_144 rfl ?_
                  refine V_getr X flX6_19 (ltN (by decide) hN) rfl rfl dX6_gives_145 ?_
                  refine V_iload_n X dX6_gives_148 rfl ?_
                  refine V_iconst X (nI 0) dX6_gives_149 (by decide) ?_
                  refine V_addN X dX6_gives_150 ?_
                  refine V_iload X dX6_gives_151 rfl ?_
                  refine V_addN X dX6_gives_153 ?_
                  refine V_iload X dX6_gives_154 rfl ?_
                  refine V_iastN X (ltN (by decide) hN) rfl (by omega) (by decide) dX6_gives_156 ?_
                  refine V_aload_n X dX6_gives_157 rfl ?_
                  refine V_getr X flX6_19 (ltN (by decide) hN) rfl rfl dX6_gives_158 ?_
                  refine V_iload_n X dX6_gives_161 rfl ?_
                  refine V_bipush X (nI 8) dX6_gives_162 (by decide) ?_
                  refine V_addN X dX6_gives_164 ?_
                  refine V_iload X dX6_gives_165 rfl ?_
                  refine V_addN X dX6_gives_167 ?_
                  refine V_iconst X (nI 1) dX6_gives_168 (by decide) ?_
                  refine V_iload_n X dX6_gives_169 rfl ?_
                  refine V_ishl X dX6_gives_170 ?_
                  refine V_aload_n X dX6_gives_171 rfl ?_
                  refine V_getr X flX6_19 (ltN (by decide) hN) rfl rfl dX6_gives_172 ?_
                  refine V_iload_n X dX6_gives_175 rfl ?_
                  refine V_bipush X (nI 8) dX6_gives_176 (by decide) ?_
                  refine V_addN X dX6_gives_178 ?_
                  refine V_iload_n X dX6_gives_179 rfl ?_
                  refine V_addN X dX6_gives_180 ?_
                  refine V_ialdN X (ltN (by decide) hN) rfl (by omega) (by decide) dX6_gives_181 ?_
                  refine V_ior X dX6_gives_182 ?_
                  refine V_iastN X (ltN (by decide) hN) rfl (by omega) (by decide) dX6_gives_183 ?_
                  refine V_aload_n X dX6_gives_184 rfl ?_
                  refine V_iload_n X dX6_gives_185 rfl ?_
                  refine V_iload_n X dX6_gives_186 rfl ?_
                  refine V_iload X dX6_gives_187 rfl ?_
                  refine V_iload X dX6_gives_189 rfl ?_
                  refine V_cvv X (ltN (by decide) hN) rfl rfl rfl (kX6_has hN hto hb ht) cwX6_88 rfl (rm_ok hR (by decide) (by decide)) (Nat.le_of_ble_eq_true rfl) dX6_gives_191 ?_
                  refine V_iconst X (nI 1) dX6_gives_194 (by decide) ?_
                  exact V_zret X E dX6_gives_195 (by first | exact Or.inl rfl | exact Or.inr rfl) (by unfold gvF; rw [if_neg (fun q => q.elim h3 (fun q => q.elim (fun z => h14 (bi_ne.mpr z)) h30))]; rw [if_neg h63, if_pos h69]) (by unfold gvF; rw [if_neg (fun q => q.elim h3 (fun q => q.elim (fun z => h14 (bi_ne.mpr z)) h30))]; rw [if_neg h63, if_pos h69]; rfl)
            · exact absurd (ts_nn h84) h63
          · refine V_iload X dX6_gives_72 rfl ?_
            refine V_iload X dX6_gives_74 rfl ?_
            refine V_icmp_eq X 81 dX6_gives_76 (by decide) (fun h76 => ?_) (fun h76 => ?_)
            · refine V_iload X dX6_gives_81 rfl ?_
              refine V_iconst X (-1) dX6_gives_83 (by decide) ?_
              refine V_icmp_ne X 132 dX6_gives_84 (by decide) (fun h84 => ?_) (fun h84 => ?_)
              · refine V_iload X dX6_gives_132 rfl ?_
                refine V_iconst X (-1) dX6_gives_134 (by decide) ?_
                refine V_icmp_eq X 184 dX6_gives_135 (by decide) (fun h135 => ?_) (fun h135 => ?_)
                · exact absurd h135 h63
                · refine V_iload X dX6_gives_138 rfl ?_
                  refine V_iconst X (-1) dX6_gives_140 (by decide) ?_
                  refine V_icmp_ne X 184 dX6_gives_141 (by decide) (fun h141 => ?_) (fun h141 => ?_)
                  · refine V_aload_n X dX6_gives_184 rfl ?_
                    refine V_iload_n X dX6_gives_185 rfl ?_
                    refine V_iload_n X dX6_gives_186 rfl ?_
                    refine V_iload X dX6_gives_187 rfl ?_
                    refine V_iload X dX6_gives_189 rfl ?_
                    refine V_cvv X (ltN (by decide) hN) rfl rfl rfl (kX6_has hN hto hb ht) cwX6_88 rfl (rm_ok hR (by decide) (by decide)) (Nat.le_of_ble_eq_true rfl) dX6_gives_191 ?_
                    refine V_iconst X (nI 1) dX6_gives_194 (by decide) ?_
                    exact V_zret X E dX6_gives_195 (by first | exact Or.inl rfl | exact Or.inr rfl) (by unfold gvF; rw [if_neg (fun q => q.elim h3 (fun q => q.elim (fun z => h14 (bi_ne.mpr z)) h30))]; rw [if_neg h63, if_neg h69, if_pos h76]) (by unfold gvF; rw [if_neg (fun q => q.elim h3 (fun q => q.elim (fun z => h14 (bi_ne.mpr z)) h30))]; rw [if_neg h63, if_neg h69, if_pos h76])
                  · exact absurd (ts_nn h141) h69
              · exact absurd (ts_nn h84) h63
            · refine V_iconst X (nI 0) dX6_gives_79 (by decide) ?_
              exact V_zret X E dX6_gives_80 (by first | exact Or.inl rfl | exact Or.inr rfl | exact bi_01 _) (by unfold gvF; rw [if_neg (fun q => q.elim h3 (fun q => q.elim (fun z => h14 (bi_ne.mpr z)) h30)), if_neg h63, if_neg h69, if_neg h76]) (by unfold gvF; rw [if_neg (fun q => q.elim h3 (fun q => q.elim (fun z => h14 (bi_ne.mpr z)) h30)), if_neg h63, if_neg h69, if_neg h76])
      · refine V_iconst X (nI 0) dX6_gives_33 (by decide) ?_
        exact V_zret X E dX6_gives_34 (by first | exact Or.inl rfl | exact Or.inr rfl | exact bi_01 _) (by unfold gvF; rw [if_pos (Or.inr (Or.inr (ts_nn h30)))]) (by unfold gvF; rw [if_pos (Or.inr (Or.inr (ts_nn h30)))])

