theorem st_at {S : Sx} {c i q j : Nat} {x : Int32} : st S c i x q j = if q = c ∧ j = i then x else S q j := by
  unfold st upd; by_cases h : q = c
  · subst h; by_cases h2 : j = i <;> simp [h2]
  · simp [h]
theorem sInf_ne {S : Sx} {a q : Nat} {p fr : Int32} (h8 : q ≠ 8) (h9 : q ≠ 9) : sInf S a p fr q = S q := by
  unfold sInf; split
  · rw [st_ne h9, st_ne h8]
  · rfl
theorem sHand_ne {S : Sx} {a t q : Nat} {bit : Int32} (h8 : q ≠ 10) (h9 : q ≠ 11) : sHand S a t bit q = S q := by
  unfold sHand; rw [st_ne h9, st_ne h8]
theorem sTell_ne {S : Sx} {s q : Nat} {c : Int32} (h : q < 8 ∨ 13 < q) : sTell S s c q = S q := by
  unfold sTell
  split
  · rfl
  split
  · unfold sTake; split
    · rfl
    · rw [sHand_ne (by omega) (by omega)]; split
      · exact sInf_ne (by omega) (by omega)
      · rfl
  split
  · unfold sDrop; rw [st_ne (by omega), st_ne (by omega), st_ne (by omega), st_ne (by omega)]
  split
  · split
    · rfl
    · unfold sGive; rw [sHand_ne (by omega) (by omega), sInf_ne (by omega) (by omega), sInf_ne (by omega) (by omega)]
  · unfold sGo; rw [st_ne (by omega), st_ne (by omega)]
theorem clr_ne {S : Sx} {q : Nat} (h : q < 8 ∨ 13 < q) : clr S q = S q := by
  funext j; unfold clr clB clA
  rw [if_neg (by omega), if_neg (by omega), if_neg (by omega), if_neg (by omega)]
theorem goT_ne {S : Sx} {c : Int32} {q : Nat} (h : q < 8 ∨ 13 < q) : ∀ k, goT S c k q = S q
  | 0 => clr_ne h
  | k + 1 => (sTell_ne h).trans (goT_ne h k)
theorem okS_congr {S S' : Sx} {s : Nat} (h2 : S' 2 = S 2) (h3 : S' 3 = S 3) (h : okS S s) : okS S' s := by
  unfold okS at *; rw [h2, h3]; exact h

set_option maxRecDepth 100000 in
set_option maxHeartbeats 4000000 in
theorem kX4_goThrough {G : Cx} {S : Sx} (hN : 80 ≤ gN G) {k : Nat} {c : Int32} (hk : k ≤ 14) (hok : ∀ s, s < k → okS S s) : CV G (4) yX4_goThrough cX4_goThrough 5 [ra G 7, ra G 1, .int (nI k), .int c] S (goT S c k) := by
  refine CV_of (by decide) (Nat.le_of_ble_eq_true rfl) (by intro v hv; simp only [List.mem_cons, List.not_mem_nil, or_false] at hv; rcases hv with rfl | rfl | rfl | rfl <;> rfl) (fun F X E => ?_)
  have hR := RV_R E
  have loop : ∀ (f i : Nat) (S1 : Sx), i ≤ k → k - i < f → S1 = goT S c i → V F G S1 7 [some (ra G 7), some (ra G 1), some (.int (nI k)), some (.int c), some (.int (nI i))] [] := by
    intro f
    induction f with
    | zero => intro i S1 h1 h2; omega
    | succ f ih =>
      intro i S1 h1 h2 hs
      refine V_iload X dX4_goThrough_7 rfl ?_
      refine V_iload_n X dX4_goThrough_9 rfl ?_
      refine V_cN_ge X 27 (by omega) (by omega) dX4_goThrough_10 (by decide) (fun h10 => ?_) (fun h10 => ?_)
      · exact V_vret X E dX4_goThrough_27 (by rw [hs, show i = k by omega])
      · refine V_aload_n X dX4_goThrough_13 rfl ?_
        refine V_aload_n X dX4_goThrough_14 rfl ?_
        refine V_iload X dX4_goThrough_15 rfl ?_
        refine V_iload_n X dX4_goThrough_17 rfl ?_
        refine V_cvv X (ltN (by decide) hN) rfl rfl rfl (kX4_tell hN (by omega) (okS_congr (by rw [hs]; exact goT_ne (by omega) i) (by rw [hs]; exact goT_ne (by omega) i) (hok i (by omega)))) cwX4_33 rfl (rm_ok hR (by decide) (by decide)) (Nat.le_of_ble_eq_true rfl) dX4_goThrough_18 ?_
        refine V_iinc X (nI (_ + 1)) dX4_goThrough_21 (by rw [hR.2]; decide) rfl (nI_add _ 1) ?_
        refine V_goto X 7 dX4_goThrough_24 (by decide) ?_
        exact ih (i + 1) _ (by omega) (by omega) (by rw [hs]; rfl)
  refine V_aload_n X dX4_goThrough_0 rfl ?_
  refine V_cvv X (ltN (by decide) hN) rfl rfl rfl (kX4_forgetAll hN) cwX4_30 rfl (rm_ok hR (by decide) (by decide)) (Nat.le_of_ble_eq_true rfl) dX4_goThrough_1 ?_
  refine V_iconst X (nI 0) dX4_goThrough_4 (by decide) ?_
  refine V_istore X dX4_goThrough_5 (by rw [hR.2]; decide) ?_
  exact loop (k + 1) 0 _ (by omega) (by omega) rfl

def acN (k : Nat) : Nat := if k = 1 ∨ k = 2 then 10 else 8
def acF (x : Int32) : Int32 := if x = nI 1 ∨ x = nI 2 then nI 10 else nI 8
theorem acF_n {k : Nat} (hk : k < 2147483648) : acF (nI k) = nI (acN k) := by
  unfold acF acN
  by_cases h : k = 1 ∨ k = 2
  · rw [if_pos h, if_pos]; rcases h with rfl | rfl; exact Or.inl rfl; exact Or.inr rfl
  · rw [if_neg h, if_neg]; intro q; rcases q with q | q
    · exact h (Or.inl ((nI_eq hk (by decide)).mp q))
    · exact h (Or.inr ((nI_eq hk (by decide)).mp q))
def qix (k a : Nat) : Nat := if k = 0 then a else if k = 1 then 8 + a else if k = 2 then 18 + a else 28 + a
abbrev okQ (x y : Int32) : Prop := 0 ≤ x.toInt ∧ x.toInt < 4 ∧ 0 ≤ y.toInt ∧ y.toInt < acN x.toNatClampNeg
def qnF (x y : Int32) : Int32 := if okQ x y then nI (qix x.toNatClampNeg y.toNatClampNeg) else -1
theorem okQ_n {k a : Nat} (hk : k < 2147483648) (ha : a < 2147483648) : okQ (nI k) (nI a) ↔ k < 4 ∧ a < acN k := by
  unfold okQ; rw [nI_toInt hk, nI_toInt ha, nI_clamp hk]; omega
theorem okQ_q {k a : Nat} : (k < 4 ∧ a < acN k) ↔ qOk k a := by
  unfold acN qOk; split <;> omega
theorem qnF_n {k a : Nat} (h : qOk k a) : qnF (nI k) (nI a) = nI (qix k a) := by
  have h1 : k < 4 ∧ a < 10 := by unfold qOk at h; omega
  unfold qnF; rw [if_pos ((okQ_n (by omega) (by omega)).mpr (okQ_q.mpr h)), nI_clamp (by omega), nI_clamp (by omega)]
theorem okQ_nat {x y : Int32} (h : okQ x y) : ∃ k a, qOk k a ∧ x = nI k ∧ y = nI a := by
  obtain ⟨h1, h2, h3, h4⟩ := h
  have e1 : x = nI x.toNatClampNeg := i_of (by have := Int32.toNat_toInt x; omega) (by have := Int32.toNat_toInt x; omega)
  have hac : acN x.toNatClampNeg ≤ 10 := by unfold acN; split <;> omega
  have e2 : y = nI y.toNatClampNeg := i_of (by have := Int32.toNat_toInt y; omega) (by have := Int32.toNat_toInt y; omega)
  refine ⟨x.toNatClampNeg, y.toNatClampNeg, ?_, e1, e2⟩
  have := Int32.toNat_toInt x
  have := Int32.toNat_toInt y
  exact okQ_q.mp ⟨by omega, by omega⟩
theorem qix_36 {k a : Nat} (h : qOk k a) : qix k a < 36 := by unfold qOk at h; unfold qix; split <;> (try split) <;> (try split) <;> omega
theorem qnF_no {x y : Int32} (h : ¬ okQ x y) : (-1 : Int32) = qnF x y := by unfold qnF; rw [if_neg h]
theorem qnF_or (x y : Int32) : (¬ okQ x y ∧ qnF x y = -1) ∨ ∃ k a, qOk k a ∧ x = nI k ∧ y = nI a ∧ qnF x y = nI (qix k a) := by
  by_cases h : okQ x y
  · obtain ⟨k, a, hq, rfl, rfl⟩ := okQ_nat h
    exact Or.inr ⟨k, a, hq, rfl, rfl, qnF_n hq⟩
  · exact Or.inl ⟨h, (qnF_no h).symm⟩

set_option maxRecDepth 100000 in
set_option maxHeartbeats 4000000 in
theorem kX5_aboutCount {G : Cx} {S : Sx}  {x : Int32} : CT G (0) yX5_aboutCount cX5_aboutCount 1 (some .int) [.int x] S (acF x) (S) := by
  refine CT_of (by decide) (Nat.le_of_ble_eq_true rfl) (by intro v hv; simp only [List.mem_cons, List.not_mem_nil, or_false] at hv; rcases hv with rfl <;> rfl) (fun F X E => ?_)
  have hR := RI_R E
  refine V_iload_n X dX5_aboutCount_0 rfl ?_
  refine V_iconst X (nI 1) dX5_aboutCount_1 (by decide) ?_
  refine V_icmp_eq X 10 dX5_aboutCount_2 (by decide) (fun h2 => ?_) (fun h2 => ?_)
  · refine V_bipush X (nI 10) dX5_aboutCount_10 (by decide) ?_
    refine V_goto X 17 dX5_aboutCount_12 (by decide) ?_
    exact V_iret X E dX5_aboutCount_17 (by unfold acF; first | exact (if_pos (Or.inl h2)).symm | exact (if_pos (Or.inr (ts_nn h7))).symm | exact (if_neg (fun q => q.elim h2 h7)).symm) rfl
  · refine V_iload_n X dX5_aboutCount_5 rfl ?_
    refine V_iconst X (nI 2) dX5_aboutCount_6 (by decide) ?_
    refine V_icmp_ne X 15 dX5_aboutCount_7 (by decide) (fun h7 => ?_) (fun h7 => ?_)
    · refine V_bipush X (nI 8) dX5_aboutCount_15 (by decide) ?_
      exact V_iret X E dX5_aboutCount_17 (by unfold acF; first | exact (if_pos (Or.inl h2)).symm | exact (if_pos (Or.inr (ts_nn h7))).symm | exact (if_neg (fun q => q.elim h2 h7)).symm) rfl
    · refine V_bipush X (nI 10) dX5_aboutCount_10 (by decide) ?_
      refine V_goto X 17 dX5_aboutCount_12 (by decide) ?_
      exact V_iret X E dX5_aboutCount_17 (by unfold acF; first | exact (if_pos (Or.inl h2)).symm | exact (if_pos (Or.inr (ts_nn h7))).symm | exact (if_neg (fun q => q.elim h2 h7)).symm) rfl

theorem nb' {y : Int32} {w : Nat} (h0 : ¬ y < 0) (h : ¬ nI w ≤ y) (hw : w < 2147483648) : ∃ j, j < w ∧ y = nI j := by
  obtain ⟨j, hj, rfl⟩ := nI_of h0
  exact ⟨j, Nat.lt_of_not_le (fun z => h ((nI_leI hw hj).mpr z)), rfl⟩
set_option maxRecDepth 100000 in
set_option maxHeartbeats 4000000 in
theorem kX5_questionNumber {G : Cx} {S : Sx} {x y : Int32} : CT G 1 yX5_questionNumber cX5_questionNumber 2 (some .int) [.int x, .int y] S (qnF x y) S := by
  refine CT_of (by decide) (Nat.le_of_ble_eq_true rfl) (by intro v hv; simp only [List.mem_cons, List.not_mem_nil, or_false] at hv; rcases hv with rfl | rfl <;> rfl) (fun F X E => ?_)
  have hR := RI_R E
  by_cases hq0 : okQ x y
  · obtain ⟨k, a, hq, rfl, rfl⟩ := okQ_nat hq0
    have hka : k < 4 ∧ a < acN k := okQ_q.mpr hq
    have hac : acN k ≤ 10 := by unfold acN; split <;> omega
    rw [qnF_n hq] at E
    refine V_iload_n X dX5_questionNumber_0 rfl ?_
    refine V_iN_lt X 21 (by omega) dX5_questionNumber_1 (by decide) ?_
    refine V_iload_n X dX5_questionNumber_4 rfl ?_
    refine V_iconst X (nI 4) dX5_questionNumber_5 (by decide) ?_
    refine V_cN_ge X 21 (by omega) (by omega) dX5_questionNumber_6 (by decide) (fun h6 => ?_) (fun h6 => ?_)
    · omega
    · refine V_iload_n X dX5_questionNumber_9 rfl ?_
      refine V_iN_lt X 21 (by omega) dX5_questionNumber_10 (by decide) ?_
      refine V_iload_n X dX5_questionNumber_13 rfl ?_
      refine V_iload_n X dX5_questionNumber_14 rfl ?_
      refine V_csi X (kX5_aboutCount ) cwX5_190 rfl (rm_ok hR (by decide) (by decide)) (Nat.le_of_ble_eq_true rfl) dX5_questionNumber_15 ?_
      refine V_top (nI (acN k)) (acF_n (by omega)) ?_
      refine V_cN_lt X 23 (by omega) (by omega) dX5_questionNumber_18 (by decide) (fun h18 => ?_) (fun h18 => ?_)
      · refine V_iload_n X dX5_questionNumber_23 rfl ?_
        rcases (show k = 0 ∨ k = 1 ∨ k = 2 ∨ 2 < k by omega) with rfl | rfl | rfl | h24
        · refine V_tabIn X 28 52 dX5_questionNumber_24 (by decide) (by decide) rfl (by decide) ?_
          refine V_iload_n X dX5_questionNumber_52 rfl ?_
          exact V_iret X E dX5_questionNumber_53 (by unfold qix; first | rfl | (rw [if_neg (by omega), if_neg (by omega), if_neg (by omega)])) rfl
        · refine V_tabIn X 30 54 dX5_questionNumber_24 (by decide) (by decide) rfl (by decide) ?_
          refine V_bipush X (nI 8) dX5_questionNumber_54 (by decide) ?_
          refine V_iload_n X dX5_questionNumber_56 rfl ?_
          refine V_addN X dX5_questionNumber_57 ?_
          exact V_iret X E dX5_questionNumber_58 (by unfold qix; first | rfl | (rw [if_neg (by omega), if_neg (by omega), if_neg (by omega)])) rfl
        · refine V_tabIn X 35 59 dX5_questionNumber_24 (by decide) (by decide) rfl (by decide) ?_
          refine V_bipush X (nI 18) dX5_questionNumber_59 (by decide) ?_
          refine V_iload_n X dX5_questionNumber_61 rfl ?_
          refine V_addN X dX5_questionNumber_62 ?_
          exact V_iret X E dX5_questionNumber_63 (by unfold qix; first | rfl | (rw [if_neg (by omega), if_neg (by omega), if_neg (by omega)])) rfl
        · refine V_tabOut X 64 dX5_questionNumber_24 (Or.inr (by rw [nI_toInt (by omega)]; omega)) (by decide) ?_
          refine V_bipush X (nI 28) dX5_questionNumber_64 (by decide) ?_
          refine V_iload_n X dX5_questionNumber_66 rfl ?_
          refine V_addN X dX5_questionNumber_67 ?_
          exact V_iret X E dX5_questionNumber_68 (by unfold qix; first | rfl | (rw [if_neg (by omega), if_neg (by omega), if_neg (by omega)])) rfl
      · omega
  · refine V_iload_n X dX5_questionNumber_0 rfl ?_
    refine V_if_lt X 21 dX5_questionNumber_1 (by decide) (fun h1 => ?_) (fun h1 => ?_)
    · refine V_iconst X (-1) dX5_questionNumber_21 (by decide) ?_
      exact V_iret X E dX5_questionNumber_22 (qnF_no hq0) rfl
    · refine V_iload_n X dX5_questionNumber_4 rfl ?_
      refine V_iconst X (nI 4) dX5_questionNumber_5 (by decide) ?_
      refine V_icmp_ge X 21 dX5_questionNumber_6 (by decide) (fun h6 => ?_) (fun h6 => ?_)
      · refine V_iconst X (-1) dX5_questionNumber_21 (by decide) ?_
        exact V_iret X E dX5_questionNumber_22 (qnF_no hq0) rfl
      · refine V_iload_n X dX5_questionNumber_9 rfl ?_
        refine V_if_lt X 21 dX5_questionNumber_10 (by decide) (fun h10 => ?_) (fun h10 => ?_)
        · refine V_iconst X (-1) dX5_questionNumber_21 (by decide) ?_
          exact V_iret X E dX5_questionNumber_22 (qnF_no hq0) rfl
        · refine V_iload_n X dX5_questionNumber_13 rfl ?_
          refine V_iload_n X dX5_questionNumber_14 rfl ?_
          refine V_csi X (kX5_aboutCount ) cwX5_190 rfl (rm_ok hR (by decide) (by decide)) (Nat.le_of_ble_eq_true rfl) dX5_questionNumber_15 ?_
          refine V_icmp_lt X 23 dX5_questionNumber_18 (by decide) (fun h18 => ?_) (fun h18 => ?_)
          · exfalso
            apply hq0
            obtain ⟨k, hk, rfl⟩ := nb' h1 h6 (by decide)
            rw [acF_n (by omega)] at h18
            have hac : acN k ≤ 10 := by unfold acN; split <;> omega
            obtain ⟨a, ha, rfl⟩ := nb h10 h18 (by omega)
            exact (okQ_n (by omega) (by omega)).mpr ⟨hk, ha⟩
          · refine V_iconst X (-1) dX5_questionNumber_21 (by decide) ?_
            exact V_iret X E dX5_questionNumber_22 (qnF_no hq0) rfl

set_option maxRecDepth 100000 in
set_option maxHeartbeats 4000000 in
theorem kX1_begin {G : Cx} {S : Sx} (hN : 80 ≤ gN G) {k q : Nat} {v b : Int32} (hk : k < 15) (hq : q < 36) : CV G (1) yX1_begin cX1_begin 5 [ra G 14, .int (nI k), .int (nI q), .int v, .int b] S (st (st (st S (35 + k) q v) (50 + k) q (bcF b)) (65 + k) q b) := by
  refine CV_of (by decide) (Nat.le_of_ble_eq_true rfl) (by intro v hv; simp only [List.mem_cons, List.not_mem_nil, or_false] at hv; rcases hv with rfl | rfl | rfl | rfl | rfl <;> rfl) (fun F X E => ?_)
  have hR := RV_R E
  refine V_aload_n X dX1_begin_0 rfl ?_
  refine V_getr X flX1_11 (ltN (by decide) hN) rfl rfl dX1_begin_1 ?_
  refine V_iload_n X dX1_begin_4 rfl ?_
  refine V_aaldN X (ltN (by decide) hN) rfl (by omega) dX1_begin_5 ?_
  refine V_iload_n X dX1_begin_6 rfl ?_
  refine V_iload_n X dX1_begin_7 rfl ?_
  refine V_iastN X (ltN (by omega) hN) (ds_fnd (by omega) (by omega)) (by omega) (by decide) dX1_begin_8 ?_
  refine V_aload_n X dX1_begin_9 rfl ?_
  refine V_getr X flX1_16 (ltN (by decide) hN) rfl rfl dX1_begin_10 ?_
  refine V_iload_n X dX1_begin_13 rfl ?_
  refine V_aaldN X (ltN (by decide) hN) rfl (by omega) dX1_begin_14 ?_
  refine V_iload_n X dX1_begin_15 rfl ?_
  refine V_iload X dX1_begin_16 rfl ?_
  refine V_csi X (kJ6_bitCount_0f7a4 ) cwX1_45 rfl (rm_ok hR (by decide) (by decide)) (Nat.le_of_ble_eq_true rfl) dX1_begin_18 ?_
  refine V_iastN X (ltN (by omega) hN) (ds_fnd (by omega) (by omega)) (by omega) (by decide) dX1_begin_21 ?_
  refine V_aload_n X dX1_begin_22 rfl ?_
  refine V_getr X flX1_19 (ltN (by decide) hN) rfl rfl dX1_begin_23 ?_
  refine V_iload_n X dX1_begin_26 rfl ?_
  refine V_aaldN X (ltN (by decide) hN) rfl (by omega) dX1_begin_27 ?_
  refine V_iload_n X dX1_begin_28 rfl ?_
  refine V_iload X dX1_begin_29 rfl ?_
  refine V_iastN X (ltN (by omega) hN) (ds_fnd (by omega) (by omega)) (by omega) (by decide) dX1_begin_31 ?_
  exact V_vret X E dX1_begin_32 rfl

def mx (x y : Int32) : Int32 := if x < y then y else x
def jn1 (S : Sx) (k q : Nat) (v : Int32) : Sx := if S (35 + k) q = v then S else st S (35 + k) q (-3)
def jnF (S : Sx) (k q : Nat) (v b : Int32) : Sx := st (st (jn1 S k q v) (50 + k) q (mx (S (50 + k) q) (bcF b))) (65 + k) q (S (65 + k) q &&& b)
theorem jn1_ne {S : Sx} {k q c : Nat} {v : Int32} (h : c ≠ 35 + k) : jn1 S k q v c = S c := by unfold jn1; split; rfl; exact st_ne h
set_option maxRecDepth 100000 in
set_option maxHeartbeats 4000000 in
theorem kX1_join {G : Cx} {S : Sx} (hN : 80 ≤ gN G) {k q : Nat} {v b : Int32} (hk : k < 15) (hq : q < 36) : CV G (1) yX1_join cX1_join 5 [ra G 14, .int (nI k), .int (nI q), .int v, .int b] S (jnF S k q v b) := by
  refine CV_of (by decide) (Nat.le_of_ble_eq_true rfl) (by intro v hv; simp only [List.mem_cons, List.not_mem_nil, or_false] at hv; rcases hv with rfl | rfl | rfl | rfl | rfl <;> rfl) (fun F X E => ?_)
  have hR := RV_R E
  refine V_aload_n X dX1_join_0 rfl ?_
  refine V_getr X flX1_11 (ltN (by decide) hN) rfl rfl dX1_join_1 ?_
  refine V_iload_n X dX1_join_4 rfl ?_
  refine V_aaldN X (ltN (by decide) hN) rfl (by omega) dX1_join_5 ?_
  refine V_iload_n X dX1_join_6 rfl ?_
  refine V_ialdN X (ltN (by omega) hN) (ds_fnd (by omega) (by omega)) (by omega) (by decide) dX1_join_7 ?_
  refine V_iload_n X dX1_join_8 rfl ?_
  refine V_icmp_eq X 22 dX1_join_9 (by decide) (fun h9 => ?_) (fun h9 => ?_)
  · refine V_aload_n X dX1_join_22 rfl ?_
    refine V_getr X flX1_16 (ltN (by decide) hN) rfl rfl dX1_join_23 ?_
    refine V_iload_n X dX1_join_26 rfl ?_
    refine V_aaldN X (ltN (by decide) hN) rfl (by omega) dX1_join_27 ?_
    refine V_iload_n X dX1_join_28 rfl ?_
    refine V_aload_n X dX1_join_29 rfl ?_
    refine V_getr X flX1_16 (ltN (by decide) hN) rfl rfl dX1_join_30 ?_
    refine V_iload_n X dX1_join_33 rfl ?_
    refine V_aaldN X (ltN (by decide) hN) rfl (by omega) dX1_join_34 ?_
    refine V_iload_n X dX1_join_35 rfl ?_
    refine V_ialdN X (ltN (by omega) hN) (ds_fnd (by omega) (by omega)) (by omega) (by decide) dX1_join_36 ?_
    refine V_iload X dX1_join_37 rfl ?_
    refine V_csi X (kJ6_bitCount_0f7a4 ) cwX1_45 rfl (rm_ok hR (by decide) (by decide)) (Nat.le_of_ble_eq_true rfl) dX1_join_39 ?_
    refine V_imax X hR (by decide) (Nat.le_of_ble_eq_true rfl) cwX1_50 dX1_join_42 ?_
    refine V_iastN X (ltN (by omega) hN) (ds_fnd (by omega) (by omega)) (by omega) (by decide) dX1_join_45 ?_
    refine V_aload_n X dX1_join_46 rfl ?_
    refine V_getr X flX1_19 (ltN (by decide) hN) rfl rfl dX1_join_47 ?_
    refine V_iload_n X dX1_join_50 rfl ?_
    refine V_aaldN X (ltN (by decide) hN) rfl (by omega) dX1_join_51 ?_
    refine V_iload_n X dX1_join_52 rfl ?_
    refine V_dup2 X dX1_join_53 ?_
    refine V_ialdN X (ltN (by omega) hN) (ds_fnd (by omega) (by omega)) (by omega) (by decide) dX1_join_54 ?_
    refine V_iload X dX1_join_55 rfl ?_
    refine V_iand X dX1_join_57 ?_
    refine V_iastN X (ltN (by omega) hN) (ds_fnd (by omega) (by omega)) (by omega) (by decide) dX1_join_58 ?_
    exact V_vret X E dX1_join_59 (by unfold jnF; first | (rw [show jn1 S k q v = S from if_pos h9, st_ne (by omega)]; rfl) | (rw [show jn1 S k q v = st S (35 + k) q (-3) from if_neg h9, st_ne (by omega), st_ne (by omega), st_ne (by omega)]; rfl))
  · refine V_aload_n X dX1_join_12 rfl ?_
    refine V_getr X flX1_11 (ltN (by decide) hN) rfl rfl dX1_join_13 ?_
    refine V_iload_n X dX1_join_16 rfl ?_
    refine V_aaldN X (ltN (by decide) hN) rfl (by omega) dX1_join_17 ?_
    refine V_iload_n X dX1_join_18 rfl ?_
    refine V_bipush X (-3) dX1_join_19 (by decide) ?_
    refine V_iastN X (ltN (by omega) hN) (ds_fnd (by omega) (by omega)) (by omega) (by decide) dX1_join_21 ?_
    refine V_aload_n X dX1_join_22 rfl ?_
    refine V_getr X flX1_16 (ltN (by decide) hN) rfl rfl dX1_join_23 ?_
    refine V_iload_n X dX1_join_26 rfl ?_
    refine V_aaldN X (ltN (by decide) hN) rfl (by omega) dX1_join_27 ?_
    refine V_iload_n X dX1_join_28 rfl ?_
    refine V_aload_n X dX1_join_29 rfl ?_
    refine V_getr X flX1_16 (ltN (by decide) hN) rfl rfl dX1_join_30 ?_
    refine V_iload_n X dX1_join_33 rfl ?_
    refine V_aaldN X (ltN (by decide) hN) rfl (by omega) dX1_join_34 ?_
    refine V_iload_n X dX1_join_35 rfl ?_
    refine V_ialdN X (ltN (by omega) hN) (ds_fnd (by omega) (by omega)) (by omega) (by decide) dX1_join_36 ?_
    refine V_iload X dX1_join_37 rfl ?_
    refine V_csi X (kJ6_bitCount_0f7a4 ) cwX1_45 rfl (rm_ok hR (by decide) (by decide)) (Nat.le_of_ble_eq_true rfl) dX1_join_39 ?_
    refine V_imax X hR (by decide) (Nat.le_of_ble_eq_true rfl) cwX1_50 dX1_join_42 ?_
    refine V_iastN X (ltN (by omega) hN) (ds_fnd (by omega) (by omega)) (by omega) (by decide) dX1_join_45 ?_
    refine V_aload_n X dX1_join_46 rfl ?_
    refine V_getr X flX1_19 (ltN (by decide) hN) rfl rfl dX1_join_47 ?_
    refine V_iload_n X dX1_join_50 rfl ?_
    refine V_aaldN X (ltN (by decide) hN) rfl (by omega) dX1_join_51 ?_
    refine V_iload_n X dX1_join_52 rfl ?_
    refine V_dup2 X dX1_join_53 ?_
    refine V_ialdN X (ltN (by omega) hN) (ds_fnd (by omega) (by omega)) (by omega) (by decide) dX1_join_54 ?_
    refine V_iload X dX1_join_55 rfl ?_
    refine V_iand X dX1_join_57 ?_
    refine V_iastN X (ltN (by omega) hN) (ds_fnd (by omega) (by omega)) (by omega) (by decide) dX1_join_58 ?_
    exact V_vret X E dX1_join_59 (by unfold jnF; first | (rw [show jn1 S k q v = S from if_pos h9, st_ne (by omega)]; rfl) | (rw [show jn1 S k q v = st S (35 + k) q (-3) from if_neg h9, st_ne (by omega), st_ne (by omega), st_ne (by omega)]; rfl))

def qk (q : Nat) : Nat := if q < 8 then 0 else if q < 18 then 1 else if q < 28 then 2 else 3
def qa (q : Nat) : Nat := if q < 8 then q else if q < 18 then q - 8 else if q < 28 then q - 18 else q - 28
def vq (S : Sx) (q : Nat) : Int32 := vl S (qk q) (qa q)
def bq (S : Sx) (q : Nat) : Int32 := bs S (qk q) (qa q)
def qb (k : Nat) : Nat := if k = 0 then 0 else if k = 1 then 8 else if k = 2 then 18 else if k = 3 then 28 else 36
theorem qb_s {k : Nat} (h : k < 4) : qb (k + 1) = qb k + acN k := by rcases (show k = 0 ∨ k = 1 ∨ k = 2 ∨ k = 3 by omega) with rfl | rfl | rfl | rfl <;> decide
theorem qix_b {k a : Nat} (h : k < 4) : qix k a = qb k + a := by rcases (show k = 0 ∨ k = 1 ∨ k = 2 ∨ k = 3 by omega) with rfl | rfl | rfl | rfl <;> simp [qix, qb]
theorem qk_b {k a : Nat} (h : qOk k a) : qk (qb k + a) = k ∧ qa (qb k + a) = a := by
  have h4 := h.1
  unfold qOk at h
  rcases (show k = 0 ∨ k = 1 ∨ k = 2 ∨ k = 3 by omega) with rfl | rfl | rfl | rfl
  · simp only [qk, qa, qb]; refine ⟨?_, ?_⟩ <;> simp <;> omega
  · simp only [qk, qa, qb]; refine ⟨?_, ?_⟩ <;> simp <;> (repeat' split) <;> omega
  · simp only [qk, qa, qb]; refine ⟨?_, ?_⟩ <;> simp <;> (repeat' split) <;> omega
  · simp only [qk, qa, qb]; refine ⟨?_, ?_⟩ <;> simp <;> (repeat' split) <;> omega
/-- what is heard of the first i questions -/
def hrF (S : Sx) (k fb i : Nat) : Sx := fun c q => if q < i then (if c = 35 + k then (if fb = 0 then (if S c q = vq S q then S c q else -3) else vq S q) else if c = 50 + k then (if fb = 0 then mx (S c q) (bcF (bq S q)) else bcF (bq S q)) else if c = 65 + k then (if fb = 0 then S c q &&& bq S q else bq S q) else S c q) else S c q
theorem hrF_0 (S : Sx) (k fb : Nat) : hrF S k fb 0 = S := by funext c q; simp [hrF]
theorem hrF_ne {S : Sx} {k fb i c : Nat} (h1 : c ≠ 35 + k) (h2 : c ≠ 50 + k) (h3 : c ≠ 65 + k) : hrF S k fb i c = S c := by funext q; simp [hrF, h1, h2, h3]
theorem hrF_w {S : Sx} {k fb i c : Nat} (hc : c < 35) : hrF S k fb i c = S c := hrF_ne (by omega) (by omega) (by omega)
theorem vl_congr {S S' : Sx} (h : ∀ c, 8 ≤ c → c ≤ 13 → S' c = S c) (k a : Nat) : vl S' k a = vl S k a := by
  unfold vl tpl; rw [h 8 (by decide) (by decide), h 10 (by decide) (by decide), h 12 (by decide) (by decide)]
theorem hbs_congr {S S' : Sx} (h : ∀ c, 8 ≤ c → c ≤ 13 → S' c = S c) (x : Int32) : ∀ n, hbs S' x n = hbs S x n
  | 0 => rfl
  | n + 1 => by unfold hbs; rw [h 10 (by decide) (by decide), h 11 (by decide) (by decide), hbs_congr h x n]
theorem bs_congr {S S' : Sx} (h : ∀ c, 8 ≤ c → c ≤ 13 → S' c = S c) (k a : Nat) : bs S' k a = bs S k a := by
  unfold bs tpb tpl; rw [h 8 (by decide) (by decide), h 9 (by decide) (by decide), h 10 (by decide) (by decide), h 11 (by decide) (by decide), h 12 (by decide) (by decide), h 13 (by decide) (by decide), hbs_congr h]
theorem hrF_at {S : Sx} {k fb i c q : Nat} (h : i ≤ q) : hrF S k fb i c q = S c q := by unfold hrF; rw [if_neg (by omega)]
theorem hrF_s1 {S : Sx} {k i : Nat} {v b : Int32} (hv : v = vq S i) (hb : b = bq S i) : st (st (st (hrF S k 1 i) (35 + k) i v) (50 + k) i (bcF b)) (65 + k) i b = hrF S k 1 (i + 1) := by
  funext c q
  simp only [st_at]
  by_cases hq : q = i
  · subst hq
    by_cases h1 : c = 65 + k
    · subst h1; simp [hrF, hb] <;> omega
    · by_cases h2 : c = 50 + k
      · subst h2; simp [hrF, hb] <;> omega
      · by_cases h3 : c = 35 + k
        · subst h3; simp [hrF, hv] <;> omega
        · simp [hrF, h1, h2, h3]
  · have e : (q < i + 1) = (q < i) := propext ⟨fun _ => by omega, fun _ => by omega⟩
    simp [hrF, hq, e]
theorem hrF_s0 {S : Sx} {k i : Nat} {v b : Int32} (hv : v = vq S i) (hb : b = bq S i) : jnF (hrF S k 0 i) k i v b = hrF S k 0 (i + 1) := by
  funext c q
  unfold jnF
  simp only [st_at, hrF_at (Nat.le_refl i)]
  have hj : jn1 (hrF S k 0 i) k i v c q = if c = 35 + k ∧ q = i then (if S c q = v then S c q else -3) else hrF S k 0 i c q := by
    unfold jn1
    rw [hrF_at (Nat.le_refl i)]
    by_cases hc : c = 35 + k ∧ q = i
    · obtain ⟨rfl, rfl⟩ := hc
      by_cases hh : S (35 + k) q = v
      · simp [hh, hrF]
      · simp [hh, st_at]
    · by_cases hh : S (35 + k) i = v
      · simp [hh, hc]
      · simp [hh, st_at, hc]
  rw [hj]
  by_cases hq : q = i
  · subst hq
    by_cases h1 : c = 65 + k
    · subst h1; simp [hrF, hb] <;> omega
    · by_cases h2 : c = 50 + k
      · subst h2; simp [hrF, hb] <;> omega
      · by_cases h3 : c = 35 + k
        · subst h3; simp [hrF, hv] <;> omega
        · simp [hrF, h1, h2, h3]
  · have e : (q < i + 1) = (q < i) := propext ⟨fun _ => by omega, fun _ => by omega⟩
    simp [hrF, hq, e]

set_option maxRecDepth 100000 in
set_option maxHeartbeats 4000000 in
theorem kX1_hear {G : Cx} {S : Sx} (hN : 80 ≤ gN G) {k fb : Nat} (hk : k < 15) (hfb1 : fb < 2) : CV G (4) yX1_hear cX1_hear 7 [ra G 14, .int (nI k), ra G 7, .int (nI fb)] S (hrF S k fb 36) := by
  refine CV_of (by decide) (Nat.le_of_ble_eq_true rfl) (by intro v hv; simp only [List.mem_cons, List.not_mem_nil, or_false] at hv; rcases hv with rfl | rfl | rfl | rfl <;> rfl) (fun F X E => ?_)
  have hR := RV_R E
  have loopA : ∀ (kd : Nat) (hkd : kd < 4), (∀ (S2 : Sx) (w : Option Value), S2 = hrF S k fb (qb kd + acN kd) → V F G S2 90 [some (ra G 14), some (.int (nI k)), some (ra G 7), some (.int (nI fb)), some (.int (nI kd)), some (.int (nI (acN kd))), w] []) → ∀ (f a : Nat) (S1 : Sx) (w : Option Value), a ≤ acN kd → acN kd - a < f → S1 = hrF S k fb (qb kd + a) → V F G S1 12 [some (ra G 14), some (.int (nI k)), some (ra G 7), some (.int (nI fb)), some (.int (nI kd)), some (.int (nI a)), w] [] := by
    intro kd hkd kx f
    induction f with
    | zero => intro a S1 w h1 h2; omega
    | succ f ih =>
      intro a S1 w h1 h2 hs
      have hac : acN kd ≤ 10 := by unfold acN; split <;> omega
      refine V_iload X dX1_hear_12 rfl ?_
      refine V_iload X dX1_hear_14 rfl ?_
      refine V_cti X (kX5_aboutCount ) cwX1_22 rfl (rm_ok hR (by decide) (by decide)) (Nat.le_of_ble_eq_true rfl) dX1_hear_16 ?_
      refine V_top (nI (acN kd)) (acF_n (by omega)) ?_
      refine V_cN_ge X 90 (by omega) (by omega) dX1_hear_19 (by decide) (fun h19 => ?_) (fun h19 => ?_)
      · rw [show a = acN kd by omega] at hs ⊢
        exact kx _ _ hs
      · have hq : qOk kd a := okQ_q.mp ⟨hkd, h19⟩
        have hb2 : qb kd + a < 36 := by rw [← qix_b hkd]; exact qix_36 hq
        have hqk := qk_b hq
        refine V_iload X dX1_hear_22 rfl ?_
        refine V_iload X dX1_hear_24 rfl ?_
        refine V_cti X (kX5_questionNumber ) cwX1_26 rfl (rm_ok hR (by decide) (by decide)) (Nat.le_of_ble_eq_true rfl) dX1_hear_26 ?_
        refine V_top (nI (qb kd + a)) (by rw [qnF_n hq, qix_b hkd]) ?_
        refine V_istore X dX1_hear_29 (by rw [hR.2]; decide) ?_
        refine V_iload_n X dX1_hear_31 rfl ?_
        refine V_iN_eq X 61 (by omega) dX1_hear_32 (by decide) (fun h32 => ?_) (fun h32 => ?_)
        · have hfb : fb = 0 := h32
          refine V_aload_n X dX1_hear_61 rfl ?_
          refine V_iload_n X dX1_hear_62 rfl ?_
          refine V_iload X dX1_hear_63 rfl ?_
          refine V_aload_n X dX1_hear_65 rfl ?_
          refine V_iload X dX1_hear_66 rfl ?_
          refine V_iload X dX1_hear_68 rfl ?_
          refine V_cvi X (ltN (by decide) hN) rfl rfl rfl (kX4_value hN hq) cwX1_30 rfl (rm_ok hR (by decide) (by decide)) (Nat.le_of_ble_eq_true rfl) dX1_hear_70 ?_
          refine V_aload_n X dX1_hear_73 rfl ?_
          refine V_iload X dX1_hear_74 rfl ?_
          refine V_iload X dX1_hear_76 rfl ?_
          refine V_cvi X (ltN (by decide) hN) rfl rfl rfl (kX4_basis hN hq) cwX1_35 rfl (rm_ok hR (by decide) (by decide)) (Nat.le_of_ble_eq_true rfl) dX1_hear_78 ?_
          refine V_cvv X (ltN (by decide) hN) rfl rfl rfl (kX1_join hN (by omega) (by omega)) cwX1_42 rfl (rm_ok hR (by decide) (by decide)) (Nat.le_of_ble_eq_true rfl) dX1_hear_81 ?_
          refine V_iinc X (nI (_ + 1)) dX1_hear_84 (by rw [hR.2]; decide) rfl (nI_add _ 1) ?_
          refine V_goto X 12 dX1_hear_87 (by decide) ?_
          exact ih (a + 1) _ _ (by omega) (by omega) (by subst hs; rw [show qb kd + (a + 1) = qb kd + a + 1 by omega]; subst hfb; exact hrF_s0 (by unfold vq; rw [hqk.1, hqk.2]; exact vl_congr (fun c _ _ => hrF_w (by omega)) _ _) (by unfold bq; rw [hqk.1, hqk.2]; exact bs_congr (fun c _ _ => hrF_w (by omega)) _ _))
        · have hfb : fb = 1 := by omega
          refine V_aload_n X dX1_hear_35 rfl ?_
          refine V_iload_n X dX1_hear_36 rfl ?_
          refine V_iload X dX1_hear_37 rfl ?_
          refine V_aload_n X dX1_hear_39 rfl ?_
          refine V_iload X dX1_hear_40 rfl ?_
          refine V_iload X dX1_hear_42 rfl ?_
          refine V_cvi X (ltN (by decide) hN) rfl rfl rfl (kX4_value hN hq) cwX1_30 rfl (rm_ok hR (by decide) (by decide)) (Nat.le_of_ble_eq_true rfl) dX1_hear_44 ?_
          refine V_aload_n X dX1_hear_47 rfl ?_
          refine V_iload X dX1_hear_48 rfl ?_
          refine V_iload X dX1_hear_50 rfl ?_
          refine V_cvi X (ltN (by decide) hN) rfl rfl rfl (kX4_basis hN hq) cwX1_35 rfl (rm_ok hR (by decide) (by decide)) (Nat.le_of_ble_eq_true rfl) dX1_hear_52 ?_
          refine V_cvv X (ltN (by decide) hN) rfl rfl rfl (kX1_begin hN (by omega) (by omega)) cwX1_38 rfl (rm_ok hR (by decide) (by decide)) (Nat.le_of_ble_eq_true rfl) dX1_hear_55 ?_
          refine V_goto X 84 dX1_hear_58 (by decide) ?_
          refine V_iinc X (nI (_ + 1)) dX1_hear_84 (by rw [hR.2]; decide) rfl (nI_add _ 1) ?_
          refine V_goto X 12 dX1_hear_87 (by decide) ?_
          exact ih (a + 1) _ _ (by omega) (by omega) (by subst hs; rw [show qb kd + (a + 1) = qb kd + a + 1 by omega]; subst hfb; exact hrF_s1 (by unfold vq; rw [hqk.1, hqk.2]; exact vl_congr (fun c _ _ => hrF_w (by omega)) _ _) (by unfold bq; rw [hqk.1, hqk.2]; exact bs_congr (fun c _ _ => hrF_w (by omega)) _ _))
  have loopB : ∀ (f kd : Nat) (S1 : Sx) (v w : Option Value), kd ≤ 4 → 4 - kd < f → S1 = hrF S k fb (qb kd) → V F G S1 3 [some (ra G 14), some (.int (nI k)), some (ra G 7), some (.int (nI fb)), some (.int (nI kd)), v, w] [] := by
    intro f
    induction f with
    | zero => intro kd S1 v w h1 h2; omega
    | succ f ih =>
      intro kd S1 v w h1 h2 hs
      refine V_iload X dX1_hear_3 rfl ?_
      refine V_iconst X (nI 4) dX1_hear_5 (by decide) ?_
      refine V_cN_ge X 96 (by omega) (by omega) dX1_hear_6 (by decide) (fun h6 => ?_) (fun h6 => ?_)
      · exact V_vret X E dX1_hear_96 (by rw [hs, show kd = 4 by omega]; rfl)
      · refine V_iconst X (nI 0) dX1_hear_9 (by decide) ?_
        refine V_istore X dX1_hear_10 (by rw [hR.2]; decide) ?_
        refine loopA kd h6 (fun S2 w2 e2 => ?_) 11 0 S1 w (by omega) (by have : acN kd ≤ 10 := (by unfold acN; split <;> omega); omega) hs
        refine V_iinc X (nI (_ + 1)) dX1_hear_90 (by rw [hR.2]; decide) rfl (nI_add _ 1) ?_
        refine V_goto X 3 dX1_hear_93 (by decide) ?_
        rw [← qb_s h6] at e2
        exact ih (kd + 1) S2 _ _ (by omega) (by omega) e2
  refine V_iconst X (nI 0) dX1_hear_0 (by decide) ?_
  refine V_istore X dX1_hear_1 (by rw [hR.2]; decide) ?_
  exact loopB 5 0 S none none (by omega) (by omega) (hrF_0 S k fb).symm

def clF (S : Sx) (k i : Nat) : Sx := fun c q => if c = 65 + k ∧ q < i ∧ S (35 + k) q < 0 then nI 0 else S c q
theorem clF_0 (S : Sx) (k : Nat) : clF S k 0 = S := by funext c q; simp [clF]
theorem clF_a {S : Sx} {k i q : Nat} : clF S k i (35 + k) q = S (35 + k) q := by unfold clF; rw [if_neg (by omega)]
theorem clF_st {S : Sx} {k i : Nat} (h : S (35 + k) i < 0) : st (clF S k i) (65 + k) i (nI 0) = clF S k (i + 1) := by
  funext c q; simp only [st_at, clF]
  by_cases hc : c = 65 + k
  · subst hc; by_cases hq : q = i
    · subst hq; simp [h]
    · have e : (q < i + 1) = (q < i) := propext ⟨fun _ => by omega, fun _ => by omega⟩
      simp [hq, e]
  · simp [hc]
theorem clF_sn {S : Sx} {k i : Nat} (h : ¬ S (35 + k) i < 0) : clF S k i = clF S k (i + 1) := by
  funext c q; simp only [clF]
  by_cases hq : q = i
  · subst hq; simp [h]
  · have e : (q < i + 1) = (q < i) := propext ⟨fun _ => by omega, fun _ => by omega⟩
    simp [e]
def anC (f : Nat → Int32) : Nat → Nat
  | 0 => 0
  | q + 1 => if f q < 0 then anC f q else anC f q + 1
def dbC (f : Nat → Int32) : Nat → Nat
  | 0 => 0
  | q + 1 => if f q = -3 then dbC f q + 1 else dbC f q

set_option maxRecDepth 100000 in
set_option maxHeartbeats 4000000 in
theorem kX1_close {G : Cx} {S : Sx} (hN : 80 ≤ gN G) {k : Nat} (hk : k < 15) : CV G (0) yX1_close cX1_close 3 [ra G 14, .int (nI k)] S (clF S k 36) := by
  refine CV_of (by decide) (Nat.le_of_ble_eq_true rfl) (by intro v hv; simp only [List.mem_cons, List.not_mem_nil, or_false] at hv; rcases hv with rfl | rfl <;> rfl) (fun F X E => ?_)
  have hR := RV_R E
  have loop : ∀ (f i : Nat) (S1 : Sx), i ≤ 36 → 36 - i < f → S1 = clF S k i → V F G S1 2 [some (ra G 14), some (.int (nI k)), some (.int (nI i))] [] := by
    intro f
    induction f with
    | zero => intro i S1 h1 h2; omega
    | succ f ih =>
      intro i S1 h1 h2 hs
      refine V_iload_n X dX1_close_2 rfl ?_
      refine V_bipush X (nI 36) dX1_close_3 (by decide) ?_
      refine V_cN_ge X 34 (by omega) (by omega) dX1_close_5 (by decide) (fun h5 => ?_) (fun h5 => ?_)
      · exact V_vret X E dX1_close_34 (by rw [hs, show i = 36 by omega])
      · refine V_aload_n X dX1_close_8 rfl ?_
        refine V_getr X flX1_11 (ltN (by decide) hN) rfl rfl dX1_close_9 ?_
        refine V_iload_n X dX1_close_12 rfl ?_
        refine V_aaldN X (ltN (by decide) hN) rfl (by omega) dX1_close_13 ?_
        refine V_iload_n X dX1_close_14 rfl ?_
        refine V_ialdN X (ltN (by omega) hN) (ds_fnd (by omega) (by omega)) (by omega) (by decide) dX1_close_15 ?_
        refine V_if_ge X 28 dX1_close_16 (by decide) (fun h16 => ?_) (fun h16 => ?_)
        · refine V_iinc X (nI (_ + 1)) dX1_close_28 (by rw [hR.2]; decide) rfl (nI_add _ 1) ?_
          refine V_goto X 2 dX1_close_31 (by decide) ?_
          exact ih (i + 1) _ (by omega) (by omega) (by rw [hs, clF_a] at h16; rw [hs]; first | exact clF_st (Int32.not_le.mp h16) | exact clF_sn (Int32.not_lt.mpr h16))
        · refine V_aload_n X dX1_close_19 rfl ?_
          refine V_getr X flX1_19 (ltN (by decide) hN) rfl rfl dX1_close_20 ?_
          refine V_iload_n X dX1_close_23 rfl ?_
          refine V_aaldN X (ltN (by decide) hN) rfl (by omega) dX1_close_24 ?_
          refine V_iload_n X dX1_close_25 rfl ?_
          refine V_iconst X (nI 0) dX1_close_26 (by decide) ?_
          refine V_iastN X (ltN (by omega) hN) (ds_fnd (by omega) (by omega)) (by omega) (by decide) dX1_close_27 ?_
          refine V_iinc X (nI (_ + 1)) dX1_close_28 (by rw [hR.2]; decide) rfl (nI_add _ 1) ?_
          refine V_goto X 2 dX1_close_31 (by decide) ?_
          exact ih (i + 1) _ (by omega) (by omega) (by rw [hs, clF_a] at h16; rw [hs]; first | exact clF_st (Int32.not_le.mp h16) | exact clF_sn (Int32.not_lt.mpr h16))
  refine V_iconst X (nI 0) dX1_close_0 (by decide) ?_
  refine V_istore_n X dX1_close_1 (by rw [hR.2]; decide) ?_
  exact loop 37 0 S (by omega) (by omega) (clF_0 S k).symm

set_option maxRecDepth 100000 in
set_option maxHeartbeats 4000000 in
theorem kX1_answered {G : Cx} {S : Sx} (hN : 80 ≤ gN G) {k : Nat} (hk : k < 15) : CT G (0) yX1_answered cX1_answered 4 (some .int) [ra G 14, .int (nI k)] S (nI (anC (S (35 + k)) 36)) (S) := by
  refine CT_of (by decide) (Nat.le_of_ble_eq_true rfl) (by intro v hv; simp only [List.mem_cons, List.not_mem_nil, or_false] at hv; rcases hv with rfl | rfl <;> rfl) (fun F X E => ?_)
  have hR := RI_R E
  have loop : ∀ (f i z : Nat), i ≤ 36 → 36 - i < f → z = anC (S (35 + k)) i → V F G S 4 [some (ra G 14), some (.int (nI k)), some (.int (nI z)), some (.int (nI i))] [] := by
    intro f
    induction f with
    | zero => intro i z h1 h2; omega
    | succ f ih =>
      intro i z h1 h2 hz
      refine V_iload_n X dX1_answered_4 rfl ?_
      refine V_bipush X (nI 36) dX1_answered_5 (by decide) ?_
      refine V_cN_ge X 30 (by omega) (by omega) dX1_answered_7 (by decide) (fun h7 => ?_) (fun h7 => ?_)
      · refine V_iload_n X dX1_answered_30 rfl ?_
        exact V_iret X E dX1_answered_31 (by rw [hz, show i = 36 by omega]) rfl
      · refine V_aload_n X dX1_answered_10 rfl ?_
        refine V_getr X flX1_11 (ltN (by decide) hN) rfl rfl dX1_answered_11 ?_
        refine V_iload_n X dX1_answered_14 rfl ?_
        refine V_aaldN X (ltN (by decide) hN) rfl (by omega) dX1_answered_15 ?_
        refine V_iload_n X dX1_answered_16 rfl ?_
        refine V_ialdN X (ltN (by omega) hN) (ds_fnd (by omega) (by omega)) (by omega) (by decide) dX1_answered_17 ?_
        refine V_if_lt X 24 dX1_answered_18 (by decide) (fun h18 => ?_) (fun h18 => ?_)
        · refine V_iinc X (nI (_ + 1)) dX1_answered_24 (by rw [hR.2]; decide) rfl (nI_add _ 1) ?_
          refine V_goto X 4 dX1_answered_27 (by decide) ?_
          exact ih (i + 1) _ (by omega) (by omega) (by rw [hz]; first | exact (if_pos h18).symm | exact (if_neg h18).symm)
        · refine V_iinc X (nI (_ + 1)) dX1_answered_21 (by rw [hR.2]; decide) rfl (nI_add _ 1) ?_
          refine V_iinc X (nI (_ + 1)) dX1_answered_24 (by rw [hR.2]; decide) rfl (nI_add _ 1) ?_
          refine V_goto X 4 dX1_answered_27 (by decide) ?_
          exact ih (i + 1) _ (by omega) (by omega) (by rw [hz]; first | exact (if_pos h18).symm | exact (if_neg h18).symm)
  refine V_iconst X (nI 0) dX1_answered_0 (by decide) ?_
  refine V_istore_n X dX1_answered_1 (by rw [hR.2]; decide) ?_
  refine V_iconst X (nI 0) dX1_answered_2 (by decide) ?_
  refine V_istore_n X dX1_answered_3 (by rw [hR.2]; decide) ?_
  exact loop 37 0 0 (by omega) (by omega) rfl

set_option maxRecDepth 100000 in
set_option maxHeartbeats 4000000 in
theorem kX1_doubted {G : Cx} {S : Sx} (hN : 80 ≤ gN G) {k : Nat} (hk : k < 15) : CT G (0) yX1_doubted cX1_doubted 4 (some .int) [ra G 14, .int (nI k)] S (nI (dbC (S (35 + k)) 36)) (S) := by
  refine CT_of (by decide) (Nat.le_of_ble_eq_true rfl) (by intro v hv; simp only [List.mem_cons, List.not_mem_nil, or_false] at hv; rcases hv with rfl | rfl <;> rfl) (fun F X E => ?_)
  have hR := RI_R E
  have loop : ∀ (f i z : Nat), i ≤ 36 → 36 - i < f → z = dbC (S (35 + k)) i → V F G S 4 [some (ra G 14), some (.int (nI k)), some (.int (nI z)), some (.int (nI i))] [] := by
    intro f
    induction f with
    | zero => intro i z h1 h2; omega
    | succ f ih =>
      intro i z h1 h2 hz
      refine V_iload_n X dX1_doubted_4 rfl ?_
      refine V_bipush X (nI 36) dX1_doubted_5 (by decide) ?_
      refine V_cN_ge X 32 (by omega) (by omega) dX1_doubted_7 (by decide) (fun h7 => ?_) (fun h7 => ?_)
      · refine V_iload_n X dX1_doubted_32 rfl ?_
        exact V_iret X E dX1_doubted_33 (by rw [hz, show i = 36 by omega]) rfl
      · refine V_aload_n X dX1_doubted_10 rfl ?_
        refine V_getr X flX1_11 (ltN (by decide) hN) rfl rfl dX1_doubted_11 ?_
        refine V_iload_n X dX1_doubted_14 rfl ?_
        refine V_aaldN X (ltN (by decide) hN) rfl (by omega) dX1_doubted_15 ?_
        refine V_iload_n X dX1_doubted_16 rfl ?_
        refine V_ialdN X (ltN (by omega) hN) (ds_fnd (by omega) (by omega)) (by omega) (by decide) dX1_doubted_17 ?_
        refine V_bipush X (-3) dX1_doubted_18 (by decide) ?_
        refine V_icmp_ne X 26 dX1_doubted_20 (by decide) (fun h20 => ?_) (fun h20 => ?_)
        · refine V_iinc X (nI (_ + 1)) dX1_doubted_26 (by rw [hR.2]; decide) rfl (nI_add _ 1) ?_
          refine V_goto X 4 dX1_doubted_29 (by decide) ?_
          exact ih (i + 1) _ (by omega) (by omega) (by rw [hz]; first | exact (if_pos (ts_nn h20)).symm | exact (if_neg h20).symm)
        · refine V_iinc X (nI (_ + 1)) dX1_doubted_23 (by rw [hR.2]; decide) rfl (nI_add _ 1) ?_
          refine V_iinc X (nI (_ + 1)) dX1_doubted_26 (by rw [hR.2]; decide) rfl (nI_add _ 1) ?_
          refine V_goto X 4 dX1_doubted_29 (by decide) ?_
          exact ih (i + 1) _ (by omega) (by omega) (by rw [hz]; first | exact (if_pos (ts_nn h20)).symm | exact (if_neg h20).symm)
  refine V_iconst X (nI 0) dX1_doubted_0 (by decide) ?_
  refine V_istore_n X dX1_doubted_1 (by rw [hR.2]; decide) ?_
  refine V_iconst X (nI 0) dX1_doubted_2 (by decide) ?_
  refine V_istore_n X dX1_doubted_3 (by rw [hR.2]; decide) ?_
  exact loop 37 0 0 (by omega) (by omega) rfl

