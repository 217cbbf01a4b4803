def wrL (g : Nat → Int32) (n fr : Nat) (v : Int32) : Nat → Nat → Int32 → Int32
  | 0, _, _ => -1
  | k + 1, j, l => if nI (fr + j) = v then wrL g n fr v k (j + 1) l else if inN g (nI (fr + j)) n = false then wrL g n fr v k (j + 1) l else if l = 0 then nI (fr + j) else wrL g n fr v k (j + 1) (l + Int32.ofInt (-1))

set_option maxRecDepth 100000 in
set_option maxHeartbeats 4000000 in
theorem kX6_wrong_no1 {G : Cx} {S : Sx} (hN : 88 ≤ gN G) {n : Nat} (hn : S 80 0 = nI n) (hn14 : n ≤ 14) {x y v : Int32} (hno : x = nI 3 ∨ v < 0) : CT G (6) yX6_wrong cX6_wrong 8 (some .int) [ra G 80, .int x, .int y, .int v] S (-1) (S) := by
  refine CT_of (by decide) (Nat.le_of_ble_eq_true rfl) (by intro v hv; simp only [List.mem_cons, List.not_mem_nil, or_false] at hv; rcases hv with rfl | rfl | rfl | rfl <;> rfl) (fun F X E => ?_)
  have hR := RI_R E
  refine V_iload_n X dX6_wrong_0 rfl ?_
  refine V_iconst X (nI 3) dX6_wrong_1 (by decide) ?_
  refine V_icmp_eq X 9 dX6_wrong_2 (by decide) (fun h2 => ?_) (fun h2 => ?_)
  · refine V_iconst X (-1) dX6_wrong_9 (by decide) ?_
    exact V_iret X E dX6_wrong_10 rfl rfl
  · refine V_iload_n X dX6_wrong_5 rfl ?_
    refine V_if_ge X 11 dX6_wrong_6 (by decide) (fun h6 => ?_) (fun h6 => ?_)
    · exact absurd hno (fun q => q.elim h2 (Int32.not_lt.mpr h6))
    · refine V_iconst X (-1) dX6_wrong_9 (by decide) ?_
      exact V_iret X E dX6_wrong_10 rfl rfl

set_option maxRecDepth 100000 in
set_option maxHeartbeats 4000000 in
theorem kX6_wrong_no2 {G : Cx} {S : Sx} (hN : 88 ≤ gN G) {n : Nat} (hn : S 80 0 = nI n) (hn14 : n ≤ 14) {x y v : Int32} (hno : ¬ okQ x y) (h3 : ¬ x = nI 3) (hv : ¬ v < 0) : CT G (6) yX6_wrong cX6_wrong 8 (some .int) [ra G 80, .int x, .int y, .int v] S (-1) (S) := by
  refine CT_of (by decide) (Nat.le_of_ble_eq_true rfl) (by intro v hv; simp only [List.mem_cons, List.not_mem_nil, or_false] at hv; rcases hv with rfl | rfl | rfl | rfl <;> rfl) (fun F X E => ?_)
  have hR := RI_R E
  refine V_iload_n X dX6_wrong_0 rfl ?_
  refine V_iconst X (nI 3) dX6_wrong_1 (by decide) ?_
  refine V_icmp_eq X 9 dX6_wrong_2 (by decide) (fun h2 => ?_) (fun h2 => ?_)
  · exact absurd h2 h3
  · refine V_iload_n X dX6_wrong_5 rfl ?_
    refine V_if_ge X 11 dX6_wrong_6 (by decide) (fun h6 => ?_) (fun h6 => ?_)
    · refine V_aload_n X dX6_wrong_11 rfl ?_
      refine V_iload_n X dX6_wrong_12 rfl ?_
      refine V_iload_n X dX6_wrong_13 rfl ?_
      refine V_aload_n X dX6_wrong_14 rfl ?_
      refine V_geti X flX6_35 (ltN (by decide) hN) rfl rfl dX6_wrong_15 ?_
      refine V_top (nI (n)) (hn) ?_
      refine V_cvi X (ltN (by decide) hN) rfl rfl rfl (kX6_answer_no hN hn hn14 (fun q => hno q.1)) cwX6_108 rfl (rm_ok hR (by decide) (by decide)) (Nat.le_of_ble_eq_true rfl) dX6_wrong_18 ?_
      refine V_istore X dX6_wrong_21 (by rw [hR.2]; decide) ?_
      refine V_iload X dX6_wrong_23 rfl ?_
      refine V_if_ge X 30 dX6_wrong_25 (by decide) (fun h25 => ?_) (fun h25 => ?_)
      · exact absurd h25 (by decide)
      · refine V_iconst X (-1) dX6_wrong_28 (by decide) ?_
        exact V_iret X E dX6_wrong_29 rfl rfl
    · exact absurd (Int32.not_lt.mp hv) h6

set_option maxRecDepth 100000 in
set_option maxHeartbeats 4000000 in
theorem kX6_wrong {G : Cx} {S : Sx} (hN : 88 ≤ gN G) {n : Nat} (hn : S 80 0 = nI n) (hn14 : n ≤ 14) {k a : Nat} {v : Int32} (hq : qOk k a) (h3 : k ≠ 3) (hv : ¬ v < 0) (hMR : MR S n) : CT G (6) yX6_wrong cX6_wrong 8 (some .int) [ra G 80, .int (nI k), .int (nI a), .int v] S (if anF ((rdL S n).1 83) k a (rdL S n).2 < 0 then -1 else wrL (S 81) n (if k = 2 then 0 else 20) (anF ((rdL S n).1 83) k a (rdL S n).2) 8 0 v) ((rdL S n).1) := by
  have hk4 := hq.1
  refine CT_of (by decide) (Nat.le_of_ble_eq_true rfl) (by intro v hv; simp only [List.mem_cons, List.not_mem_nil, or_false] at hv; rcases hv with rfl | rfl | rfl | rfl <;> rfl) (fun F X E => ?_)
  have hR := RI_R E
  have loop : ∀ {r w : Int32}, (E : RI F G 6 (some .int) 8 r (rdL S n).1) → ∀ (fr : Nat), fr ≤ 20 → ∀ (m j : Nat) (l : Int32), j + m = 8 → wrL (S 81) n fr w m j l = r → V F G (rdL S n).1 50 [some (ra G 80), some (.int (nI k)), some (.int (nI a)), some (.int v), some (.int w), some (.int l), some (.int (nI fr)), some (.int (nI (fr + j)))] [] := by
    intro r w E fr hfr m
    induction m with
    | zero =>
      intro j l hj hr
      refine V_iload X dX6_wrong_50 rfl ?_
      refine V_iload X dX6_wrong_52 rfl ?_
      refine V_bipush X (nI 8) dX6_wrong_54 (by decide) ?_
      refine V_addN X dX6_wrong_56 ?_
      refine V_cN_ge X 96 (by omega) (by omega) dX6_wrong_57 (by decide) (fun h57 => ?_) (fun h57 => ?_)
      · refine V_iconst X (-1) dX6_wrong_96 (by decide) ?_
        exact V_iret X E dX6_wrong_97 (by rw [wrL] at hr; exact hr) rfl
      · omega
    | succ m ih =>
      intro j l hj hr
      refine V_iload X dX6_wrong_50 rfl ?_
      refine V_iload X dX6_wrong_52 rfl ?_
      refine V_bipush X (nI 8) dX6_wrong_54 (by decide) ?_
      refine V_addN X dX6_wrong_56 ?_
      refine V_cN_ge X 96 (by omega) (by omega) dX6_wrong_57 (by decide) (fun h57 => ?_) (fun h57 => ?_)
      · omega
      · refine V_iload X dX6_wrong_60 rfl ?_
        refine V_iload X dX6_wrong_62 rfl ?_
        refine V_icmp_eq X 90 dX6_wrong_64 (by decide) (fun h64 => ?_) (fun h64 => ?_)
        · refine V_iinc X (nI (_ + 1)) dX6_wrong_90 (by rw [hR.2]; decide) rfl (nI_add _ 1) ?_
          refine V_goto X 50 dX6_wrong_93 (by decide) ?_
          exact ih (j + 1) _ (by omega) (by rw [wrL, if_pos h64] at hr; exact hr)
        · refine V_aload_n X dX6_wrong_67 rfl ?_
          refine V_iload X dX6_wrong_68 rfl ?_
          refine V_cvi X (ltN (by decide) hN) rfl rfl rfl (kX6_isNamed hN (by rw [(rdL_I S n).2.2]; exact hn) hn14) cwX6_121 rfl (rm_ok hR (by decide) (by decide)) (Nat.le_of_ble_eq_true rfl) dX6_wrong_70 ?_
          refine V_if_ne X 79 dX6_wrong_73 (by decide) (fun h73 => ?_) (fun h73 => ?_)
          · have h73 : bb (inN (S 81) (nI (fr + j)) n) ≠ 0 := by rw [← (rdL_I S n).1]; exact h73
            refine V_iload X dX6_wrong_79 rfl ?_
            refine V_if_ne X 87 dX6_wrong_81 (by decide) (fun h81 => ?_) (fun h81 => ?_)
            · refine V_iinc X (_) dX6_wrong_87 (by rw [hR.2]; decide) rfl (rfl) ?_
              refine V_iinc X (nI (_ + 1)) dX6_wrong_90 (by rw [hR.2]; decide) rfl (nI_add _ 1) ?_
              refine V_goto X 50 dX6_wrong_93 (by decide) ?_
              exact ih (j + 1) _ (by omega) (by rw [wrL, if_neg h64, if_neg (by rw [bb_n.mp h73]; decide), if_neg h81] at hr; exact hr)
            · refine V_iload X dX6_wrong_84 rfl ?_
              exact V_iret X E dX6_wrong_86 (by rw [wrL, if_neg h64, if_neg (by rw [bb_n.mp h73]; decide), if_pos (ts_nn h81)] at hr; exact hr) rfl
          · have h73 : ¬ bb (inN (S 81) (nI (fr + j)) n) ≠ 0 := by rw [← (rdL_I S n).1]; exact h73
            refine V_goto X 90 dX6_wrong_76 (by decide) ?_
            refine V_iinc X (nI (_ + 1)) dX6_wrong_90 (by rw [hR.2]; decide) rfl (nI_add _ 1) ?_
            refine V_goto X 50 dX6_wrong_93 (by decide) ?_
            exact ih (j + 1) _ (by omega) (by rw [wrL, if_neg h64, if_pos (bb_0.mp (ts_nn h73))] at hr; exact hr)
  refine V_iload_n X dX6_wrong_0 rfl ?_
  refine V_iconst X (nI 3) dX6_wrong_1 (by decide) ?_
  refine V_cN_eq X 9 (by omega) (by omega) dX6_wrong_2 (by decide) (fun h2 => ?_) (fun h2 => ?_)
  · omega
  · refine V_iload_n X dX6_wrong_5 rfl ?_
    refine V_if_ge X 11 dX6_wrong_6 (by decide) (fun h6 => ?_) (fun h6 => ?_)
    · refine V_aload_n X dX6_wrong_11 rfl ?_
      refine V_iload_n X dX6_wrong_12 rfl ?_
      refine V_iload_n X dX6_wrong_13 rfl ?_
      refine V_aload_n X dX6_wrong_14 rfl ?_
      refine V_geti X flX6_35 (ltN (by decide) hN) rfl rfl dX6_wrong_15 ?_
      refine V_top (nI (n)) (hn) ?_
      refine V_cvi X (ltN (by decide) hN) rfl rfl rfl (kX6_answer hN hn hn14 hq (Nat.le_refl n) hMR) cwX6_108 rfl (rm_ok hR (by decide) (by decide)) (Nat.le_of_ble_eq_true rfl) dX6_wrong_18 ?_
      refine V_istore X dX6_wrong_21 (by rw [hR.2]; decide) ?_
      refine V_iload X dX6_wrong_23 rfl ?_
      refine V_if_ge X 30 dX6_wrong_25 (by decide) (fun h25 => ?_) (fun h25 => ?_)
      · refine V_iload_n X dX6_wrong_30 rfl ?_
        refine V_istore X dX6_wrong_31 (by rw [hR.2]; decide) ?_
        refine V_iload_n X dX6_wrong_33 rfl ?_
        refine V_iconst X (nI 2) dX6_wrong_34 (by decide) ?_
        refine V_cN_ne X 42 (by omega) (by omega) dX6_wrong_35 (by decide) (fun h35 => ?_) (fun h35 => ?_)
        · refine V_bipush X (nI 20) dX6_wrong_42 (by decide) ?_
          refine V_istore X dX6_wrong_44 (by rw [hR.2]; decide) ?_
          refine V_iload X dX6_wrong_46 rfl ?_
          refine V_istore X dX6_wrong_48 (by rw [hR.2]; decide) ?_
          rw [if_neg (Int32.not_lt.mpr h25)] at E
          rw [if_neg h35] at E
          exact loop E 20 (by decide) 8 0 v rfl rfl
        · refine V_iconst X (nI 0) dX6_wrong_38 (by decide) ?_
          refine V_goto X 44 dX6_wrong_39 (by decide) ?_
          refine V_istore X dX6_wrong_44 (by rw [hR.2]; decide) ?_
          refine V_iload X dX6_wrong_46 rfl ?_
          refine V_istore X dX6_wrong_48 (by rw [hR.2]; decide) ?_
          rw [if_neg (Int32.not_lt.mpr h25)] at E
          rw [if_pos h35] at E
          exact loop E 0 (by decide) 8 0 v rfl rfl
      · refine V_iconst X (-1) dX6_wrong_28 (by decide) ?_
        exact V_iret X E dX6_wrong_29 (by rw [if_pos (Int32.not_le.mp h25)]) rfl
    · exact absurd (Int32.not_lt.mp hv) h6

def pC (w : Nat) (v : Int32) : Bool := if w = 3 then !decide (v < 0) else decide (v = -3)
theorem ct_le36 (f : Nat → Bool) : ∀ k, ct f k ≤ k
  | 0 => Nat.le_refl _
  | k + 1 => by have := ct_le36 f k; simp only [ct]; split <;> omega

set_option maxRecDepth 100000 in
set_option maxHeartbeats 4000000 in
theorem kX6_count_no {G : Cx} {S : Sx} (hN : 88 ≤ gN G) {n : Nat} (hn : S 80 0 = nI n) (hn14 : n ≤ 14) {x : Int32} (hno : x.toInt < 0 ∨ 4 < x.toInt) : CT G (6) yX6_count cX6_count 6 (some .int) [ra G 80, .int x] S (-1) (S) := by
  refine CT_of (by decide) (Nat.le_of_ble_eq_true rfl) (by intro v hv; simp only [List.mem_cons, List.not_mem_nil, or_false] at hv; rcases hv with rfl | rfl <;> rfl) (fun F X E => ?_)
  have hR := RI_R E
  refine V_iload_n X dX6_count_0 rfl ?_
  refine V_iconst X (nI 0) dX6_count_1 (by decide) ?_
  refine V_iconst X (nI 4) dX6_count_2 (by decide) ?_
  refine V_csi X (kX6_in ) cwX6_31 rfl (rm_ok hR (by decide) (by decide)) (Nat.le_of_ble_eq_true rfl) dX6_count_3 ?_
  refine V_if_ne X 11 dX6_count_6 (by decide) (fun h6 => ?_) (fun h6 => ?_)
  · exact absurd ((in_n (by decide) (by decide)).mp (bi_ne.mp h6)) (by omega)
  · refine V_iconst X (-1) dX6_count_9 (by decide) ?_
    exact V_iret X E dX6_count_10 rfl rfl

set_option maxRecDepth 100000 in
set_option maxHeartbeats 4000000 in
theorem kX6_count_0 {G : Cx} {S : Sx} (hN : 88 ≤ gN G) {n : Nat} (hn : S 80 0 = nI n) (hn14 : n ≤ 14) : CT G (6) yX6_count cX6_count 6 (some .int) [ra G 80, .int (nI 0)] S (nI n) (S) := by
  refine CT_of (by decide) (Nat.le_of_ble_eq_true rfl) (by intro v hv; simp only [List.mem_cons, List.not_mem_nil, or_false] at hv; rcases hv with rfl | rfl <;> rfl) (fun F X E => ?_)
  have hR := RI_R E
  refine V_iload_n X dX6_count_0 rfl ?_
  refine V_iconst X (nI 0) dX6_count_1 (by decide) ?_
  refine V_iconst X (nI 4) dX6_count_2 (by decide) ?_
  refine V_csi X (kX6_in ) cwX6_31 rfl (rm_ok hR (by decide) (by decide)) (Nat.le_of_ble_eq_true rfl) dX6_count_3 ?_
  refine V_if_ne X 11 dX6_count_6 (by decide) (fun h6 => ?_) (fun h6 => ?_)
  · refine V_iload_n X dX6_count_11 rfl ?_
    refine V_iN_ne X 20 (by omega) dX6_count_12 (by decide) (fun h12 => ?_) (fun h12 => ?_)
    · exact absurd h12 (by decide)
    · refine V_aload_n X dX6_count_15 rfl ?_
      refine V_geti X flX6_35 (ltN (by decide) hN) rfl rfl dX6_count_16 ?_
      refine V_top (nI (n)) (hn) ?_
      exact V_iret X E dX6_count_19 rfl rfl
  · exact absurd (bi_eq.mp (ts_nn h6)) (fun q => q (in_k (by decide) (by decide)))

set_option maxRecDepth 100000 in
set_option maxHeartbeats 4000000 in
theorem kX6_count_1 {G : Cx} {S : Sx} (hN : 88 ≤ gN G) {n : Nat} (hn : S 80 0 = nI n) (hn14 : n ≤ 14) {b : Nat} (hb : n < 14 → S 82 n = nI b) (hb0 : n = 14 → b = 0) : CT G (6) yX6_count cX6_count 6 (some .int) [ra G 80, .int (nI 1)] S (nI b) (S) := by
  refine CT_of (by decide) (Nat.le_of_ble_eq_true rfl) (by intro v hv; simp only [List.mem_cons, List.not_mem_nil, or_false] at hv; rcases hv with rfl | rfl <;> rfl) (fun F X E => ?_)
  have hR := RI_R E
  refine V_iload_n X dX6_count_0 rfl ?_
  refine V_iconst X (nI 0) dX6_count_1 (by decide) ?_
  refine V_iconst X (nI 4) dX6_count_2 (by decide) ?_
  refine V_csi X (kX6_in ) cwX6_31 rfl (rm_ok hR (by decide) (by decide)) (Nat.le_of_ble_eq_true rfl) dX6_count_3 ?_
  refine V_if_ne X 11 dX6_count_6 (by decide) (fun h6 => ?_) (fun h6 => ?_)
  · refine V_iload_n X dX6_count_11 rfl ?_
    refine V_iN_ne X 20 (by omega) dX6_count_12 (by decide) (fun h12 => ?_) (fun h12 => ?_)
    · refine V_iload_n X dX6_count_20 rfl ?_
      refine V_iconst X (nI 1) dX6_count_21 (by decide) ?_
      refine V_cN_ne X 48 (by omega) (by omega) dX6_count_22 (by decide) (fun h22 => ?_) (fun h22 => ?_)
      · exact absurd rfl h22
      · refine V_aload_n X dX6_count_25 rfl ?_
        refine V_geti X flX6_35 (ltN (by decide) hN) rfl rfl dX6_count_26 ?_
        refine V_top (nI (n)) (hn) ?_
        refine V_bipush X (nI 14) dX6_count_29 (by decide) ?_
        refine V_cN_ge X 46 (by omega) (by omega) dX6_count_31 (by decide) (fun h31 => ?_) (fun h31 => ?_)
        · refine V_iconst X (nI 0) dX6_count_46 (by decide) ?_
          exact V_iret X E dX6_count_47 (by first | rfl | rw [hb0 (by omega)]) rfl
        · refine V_aload_n X dX6_count_34 rfl ?_
          refine V_getr X flX6_13 (ltN (by decide) hN) rfl rfl dX6_count_35 ?_
          refine V_aload_n X dX6_count_38 rfl ?_
          refine V_geti X flX6_35 (ltN (by decide) hN) rfl rfl dX6_count_39 ?_
          refine V_top (nI (n)) (hn) ?_
          refine V_ialdN X (ltN (by decide) hN) rfl (by omega) (by decide) dX6_count_42 ?_
          refine V_top (nI (b)) (hb h31) ?_
          refine V_goto X 47 dX6_count_43 (by decide) ?_
          exact V_iret X E dX6_count_47 (by first | rfl | rw [hb0 (by omega)]) rfl
    · exact absurd h12 (by decide)
  · exact absurd (bi_eq.mp (ts_nn h6)) (fun q => q (in_k (by decide) (by decide)))

set_option maxRecDepth 100000 in
set_option maxHeartbeats 4000000 in
theorem kX6_count_2 {G : Cx} {S : Sx} (hN : 88 ≤ gN G) {n : Nat} (hn : S 80 0 = nI n) (hn14 : n ≤ 14) (hMR : MR S n) : CT G (6) yX6_count cX6_count 6 (some .int) [ra G 80, .int (nI 2)] S (nI (rdL S n).2) ((rdL S n).1) := by
  refine CT_of (by decide) (Nat.le_of_ble_eq_true rfl) (by intro v hv; simp only [List.mem_cons, List.not_mem_nil, or_false] at hv; rcases hv with rfl | rfl <;> rfl) (fun F X E => ?_)
  have hR := RI_R E
  refine V_iload_n X dX6_count_0 rfl ?_
  refine V_iconst X (nI 0) dX6_count_1 (by decide) ?_
  refine V_iconst X (nI 4) dX6_count_2 (by decide) ?_
  refine V_csi X (kX6_in ) cwX6_31 rfl (rm_ok hR (by decide) (by decide)) (Nat.le_of_ble_eq_true rfl) dX6_count_3 ?_
  refine V_if_ne X 11 dX6_count_6 (by decide) (fun h6 => ?_) (fun h6 => ?_)
  · refine V_iload_n X dX6_count_11 rfl ?_
    refine V_iN_ne X 20 (by omega) dX6_count_12 (by decide) (fun h12 => ?_) (fun h12 => ?_)
    · refine V_iload_n X dX6_count_20 rfl ?_
      refine V_iconst X (nI 1) dX6_count_21 (by decide) ?_
      refine V_cN_ne X 48 (by omega) (by omega) dX6_count_22 (by decide) (fun h22 => ?_) (fun h22 => ?_)
      · refine V_aload_n X dX6_count_48 rfl ?_
        refine V_aload_n X dX6_count_49 rfl ?_
        refine V_geti X flX6_35 (ltN (by decide) hN) rfl rfl dX6_count_50 ?_
        refine V_top (nI (n)) (hn) ?_
        refine V_cvv X (ltN (by decide) hN) rfl rfl rfl (kX6_reads hN hMR.1 hMR.2.1 hMR.2.2.1) cwX6_50 rfl (rm_ok hR (by decide) (by decide)) (Nat.le_of_ble_eq_true rfl) dX6_count_53 ?_
        refine V_iload_n X dX6_count_56 rfl ?_
        refine V_iconst X (nI 2) dX6_count_57 (by decide) ?_
        refine V_cN_ne X 66 (by omega) (by omega) dX6_count_58 (by decide) (fun h58 => ?_) (fun h58 => ?_)
        · exact absurd rfl h58
        · refine V_aload_n X dX6_count_61 rfl ?_
          refine V_geti X flX6_54 (ltN (by decide) hN) rfl rfl dX6_count_62 ?_
          refine V_top (nI ((rdL S n).2)) ((rdL_I S n).2.1) ?_
          exact V_iret X E dX6_count_65 rfl rfl
      · exact absurd h22 (by decide)
    · exact absurd h12 (by decide)
  · exact absurd (bi_eq.mp (ts_nn h6)) (fun q => q (in_k (by decide) (by decide)))

set_option maxRecDepth 100000 in
set_option maxHeartbeats 4000000 in
theorem kX6_count_34 {G : Cx} {S : Sx} (hN : 88 ≤ gN G) {n : Nat} (hn : S 80 0 = nI n) (hn14 : n ≤ 14) {wh : Nat} (hw : wh = 3 ∨ wh = 4) (hMR : MR S n) : CT G (6) yX6_count cX6_count 6 (some .int) [ra G 80, .int (nI wh)] S (nI (ct (fun q => pC wh (anF ((rdL S n).1 83) (qk q) (qa q) (rdL S n).2)) 36)) ((rdL S n).1) := by
  refine CT_of (by decide) (Nat.le_of_ble_eq_true rfl) (by intro v hv; simp only [List.mem_cons, List.not_mem_nil, or_false] at hv; rcases hv with rfl | rfl <;> rfl) (fun F X E => ?_)
  have hR := RI_R E
  have loopA : ∀ (kd : Nat), kd < 4 → (∀ (z : Nat) (u w : Option Value), z = ct (fun q => pC wh (anF ((rdL S n).1 83) (qk q) (qa q) (rdL S n).2)) (qb kd + acN kd) → V F G (rdL S n).1 135 [some (ra G 80), some (.int (nI wh)), some (.int (nI z)), some (.int (nI kd)), u, w] []) → ∀ (f a z : Nat) (w : Option Value), a ≤ acN kd → acN kd - a < f → z = ct (fun q => pC wh (anF ((rdL S n).1 83) (qk q) (qa q) (rdL S n).2)) (qb kd + a) → V F G (rdL S n).1 78 [some (ra G 80), some (.int (nI wh)), some (.int (nI z)), some (.int (nI kd)), some (.int (nI a)), w] [] := by
    intro kd hkd kx f
    induction f with
    | zero => intro a z w h1 h2; omega
    | succ f ih =>
      intro a z w h1 h2 hz
      have hac : acN kd ≤ 10 := by unfold acN; split <;> omega
      refine V_iload_n X dX6_count_78 rfl ?_
      refine V_iload X dX6_count_79 rfl ?_
      refine V_csi X (kX6_isQuestion ) cwX6_95 rfl (rm_ok hR (by decide) (by decide)) (Nat.le_of_ble_eq_true rfl) dX6_count_81 ?_
      refine V_if_eq X 135 dX6_count_84 (by decide) (fun h84 => ?_) (fun h84 => ?_)
      · have hge : acN kd ≤ a := Nat.le_of_not_lt (fun z => (bi_eq.mp h84) ((okQ_n (by omega) (by omega)).mpr ⟨hkd, z⟩))
        rw [show a = acN kd by omega] at hz
        exact kx _ _ _ hz
      · have hq : qOk kd a := okQ_q.mp ((okQ_n (by omega) (by omega)).mp (Classical.byContradiction (fun z => h84 (bi_eq.mpr z))))
        have hqk := qk_b hq
        have hqa := (okQ_q.mpr hq).2
        have hz36 := ct_le36 (fun q => pC wh (anF ((rdL S n).1 83) (qk q) (qa q) (rdL S n).2)) (qb kd + a)
        have hqb : qb kd + a < 36 := by rw [← qix_b hkd]; exact qix_36 hq
        refine V_aload_n X dX6_count_87 rfl ?_
        refine V_iload_n X dX6_count_88 rfl ?_
        refine V_iload X dX6_count_89 rfl ?_
        refine V_cvi X (ltN (by decide) hN) rfl rfl rfl (kX6_answers hN hq (rdL_I S n).2.1 hMR.2.2.2.1 hMR.2.2.2.2.1 hMR.2.2.2.2.2) cwX6_98 rfl (rm_ok hR (by decide) (by decide)) (Nat.le_of_ble_eq_true rfl) dX6_count_91 ?_
        refine V_istore X dX6_count_94 (by rw [hR.2]; decide) ?_
        refine V_iload_n X dX6_count_96 rfl ?_
        refine V_iload_n X dX6_count_97 rfl ?_
        refine V_iconst X (nI 3) dX6_count_98 (by decide) ?_
        refine V_cN_ne X 115 (by omega) (by omega) dX6_count_99 (by decide) (fun h99 => ?_) (fun h99 => ?_)
        · refine V_iload X dX6_count_115 rfl ?_
          refine V_bipush X (-3) dX6_count_117 (by decide) ?_
          refine V_icmp_ne X 126 dX6_count_119 (by decide) (fun h119 => ?_) (fun h119 => ?_)
          · refine V_iconst X (nI 0) dX6_count_126 (by decide) ?_
            refine V_addN X dX6_count_127 ?_
            refine V_istore_n X dX6_count_128 (by rw [hR.2]; decide) ?_
            refine V_iinc X (nI (_ + 1)) dX6_count_129 (by rw [hR.2]; decide) rfl (nI_add _ 1) ?_
            refine V_goto X 78 dX6_count_132 (by decide) ?_
            exact ih (a + 1) _ _ (by omega) (by omega) (by rw [show qb kd + (a + 1) = qb kd + a + 1 by omega, ct, hqk.1, hqk.2, hz]; first | exact (if_pos (by unfold pC; rw [if_neg (show ¬ wh = 3 from h99), decide_eq_true (ts_nn h119)])).symm | exact (if_neg (by unfold pC; rw [if_neg (show ¬ wh = 3 from h99), decide_eq_false h119]; decide)).symm)
          · refine V_iconst X (nI 1) dX6_count_122 (by decide) ?_
            refine V_goto X 127 dX6_count_123 (by decide) ?_
            refine V_addN X dX6_count_127 ?_
            refine V_istore_n X dX6_count_128 (by rw [hR.2]; decide) ?_
            refine V_iinc X (nI (_ + 1)) dX6_count_129 (by rw [hR.2]; decide) rfl (nI_add _ 1) ?_
            refine V_goto X 78 dX6_count_132 (by decide) ?_
            exact ih (a + 1) _ _ (by omega) (by omega) (by rw [show qb kd + (a + 1) = qb kd + a + 1 by omega, ct, hqk.1, hqk.2, hz]; first | exact (if_pos (by unfold pC; rw [if_neg (show ¬ wh = 3 from h99), decide_eq_true (ts_nn h119)])).symm | exact (if_neg (by unfold pC; rw [if_neg (show ¬ wh = 3 from h99), decide_eq_false h119]; decide)).symm)
        · refine V_iload X dX6_count_102 rfl ?_
          refine V_if_lt X 111 dX6_count_104 (by decide) (fun h104 => ?_) (fun h104 => ?_)
          · refine V_iconst X (nI 0) dX6_count_111 (by decide) ?_
            refine V_goto X 127 dX6_count_112 (by decide) ?_
            refine V_addN X dX6_count_127 ?_
            refine V_istore_n X dX6_count_128 (by rw [hR.2]; decide) ?_
            refine V_iinc X (nI (_ + 1)) dX6_count_129 (by rw [hR.2]; decide) rfl (nI_add _ 1) ?_
            refine V_goto X 78 dX6_count_132 (by decide) ?_
            exact ih (a + 1) _ _ (by omega) (by omega) (by rw [show qb kd + (a + 1) = qb kd + a + 1 by omega, ct, hqk.1, hqk.2, hz]; first | exact (if_neg (by unfold pC; rw [if_pos (show wh = 3 from h99), decide_eq_true h104]; decide)).symm | exact (if_pos (by unfold pC; rw [if_pos (show wh = 3 from h99), decide_eq_false h104]; rfl)).symm)
          · refine V_iconst X (nI 1) dX6_count_107 (by decide) ?_
            refine V_goto X 127 dX6_count_108 (by decide) ?_
            refine V_addN X dX6_count_127 ?_
            refine V_istore_n X dX6_count_128 (by rw [hR.2]; decide) ?_
            refine V_iinc X (nI (_ + 1)) dX6_count_129 (by rw [hR.2]; decide) rfl (nI_add _ 1) ?_
            refine V_goto X 78 dX6_count_132 (by decide) ?_
            exact ih (a + 1) _ _ (by omega) (by omega) (by rw [show qb kd + (a + 1) = qb kd + a + 1 by omega, ct, hqk.1, hqk.2, hz]; first | exact (if_neg (by unfold pC; rw [if_pos (show wh = 3 from h99), decide_eq_true h104]; decide)).symm | exact (if_pos (by unfold pC; rw [if_pos (show wh = 3 from h99), decide_eq_false h104]; rfl)).symm)
  have loopB : ∀ (f kd z : Nat) (u w : Option Value), kd ≤ 4 → 4 - kd < f → z = ct (fun q => pC wh (anF ((rdL S n).1 83) (qk q) (qa q) (rdL S n).2)) (qb kd) → V F G (rdL S n).1 70 [some (ra G 80), some (.int (nI wh)), some (.int (nI z)), some (.int (nI kd)), u, w] [] := by
    intro f
    induction f with
    | zero => intro kd z u w h1 h2; omega
    | succ f ih =>
      intro kd z u w h1 h2 hz
      have hac : acN kd ≤ 10 := by unfold acN; split <;> omega
      refine V_iload_n X dX6_count_70 rfl ?_
      refine V_iconst X (nI 4) dX6_count_71 (by decide) ?_
      refine V_cN_ge X 141 (by omega) (by omega) dX6_count_72 (by decide) (fun h72 => ?_) (fun h72 => ?_)
      · refine V_iload_n X dX6_count_141 rfl ?_
        exact V_iret X E dX6_count_142 (by rw [hz, show kd = 4 by omega]; rfl) rfl
      · refine V_iconst X (nI 0) dX6_count_75 (by decide) ?_
        refine V_istore X dX6_count_76 (by rw [hR.2]; decide) ?_
        refine loopA kd h72 (fun z2 u2 w2 hz2 => ?_) 11 0 z _ (by omega) (by omega) hz
        refine V_iinc X (nI (_ + 1)) dX6_count_135 (by rw [hR.2]; decide) rfl (nI_add _ 1) ?_
        refine V_goto X 70 dX6_count_138 (by decide) ?_
        rw [← qb_s h72] at hz2
        exact ih (kd + 1) _ _ _ (by omega) (by omega) hz2
  refine V_iload_n X dX6_count_0 rfl ?_
  refine V_iconst X (nI 0) dX6_count_1 (by decide) ?_
  refine V_iconst X (nI 4) dX6_count_2 (by decide) ?_
  refine V_csi X (kX6_in ) cwX6_31 rfl (rm_ok hR (by decide) (by decide)) (Nat.le_of_ble_eq_true rfl) dX6_count_3 ?_
  refine V_if_ne X 11 dX6_count_6 (by decide) (fun h6 => ?_) (fun h6 => ?_)
  · refine V_iload_n X dX6_count_11 rfl ?_
    refine V_iN_ne X 20 (by omega) dX6_count_12 (by decide) (fun h12 => ?_) (fun h12 => ?_)
    · refine V_iload_n X dX6_count_20 rfl ?_
      refine V_iconst X (nI 1) dX6_count_21 (by decide) ?_
      refine V_cN_ne X 48 (by omega) (by omega) dX6_count_22 (by decide) (fun h22 => ?_) (fun h22 => ?_)
      · refine V_aload_n X dX6_count_48 rfl ?_
        refine V_aload_n X dX6_count_49 rfl ?_
        refine V_geti X flX6_35 (ltN (by decide) hN) rfl rfl dX6_count_50 ?_
        refine V_top (nI (n)) (hn) ?_
        refine V_cvv X (ltN (by decide) hN) rfl rfl rfl (kX6_reads hN hMR.1 hMR.2.1 hMR.2.2.1) cwX6_50 rfl (rm_ok hR (by decide) (by decide)) (Nat.le_of_ble_eq_true rfl) dX6_count_53 ?_
        refine V_iload_n X dX6_count_56 rfl ?_
        refine V_iconst X (nI 2) dX6_count_57 (by decide) ?_
        refine V_cN_ne X 66 (by omega) (by omega) dX6_count_58 (by decide) (fun h58 => ?_) (fun h58 => ?_)
        · refine V_iconst X (nI 0) dX6_count_66 (by decide) ?_
          refine V_istore_n X dX6_count_67 (by rw [hR.2]; decide) ?_
          refine V_iconst X (nI 0) dX6_count_68 (by decide) ?_
          refine V_istore_n X dX6_count_69 (by rw [hR.2]; decide) ?_
          exact loopB 5 0 0 none none (by omega) (by omega) rfl
        · omega
      · omega
    · omega
  · exact absurd (bi_eq.mp (ts_nn h6)) (fun q => q (in_k (by decide) (by omega)))

