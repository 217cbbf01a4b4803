def ofB (f : Nat → Int32) (x : Int32) (z : Nat) : Bool := (List.range z).any (fun i => decide (x &&& (f i ^^^ -1) = 0))
theorem ofB_t {f : Nat → Int32} {x : Int32} {z i : Nat} (h : i < z) (e : x &&& (f i ^^^ -1) = 0) : ofB f x z = true := List.any_eq_true.mpr ⟨i, List.mem_range.mpr h, decide_eq_true e⟩
theorem ofB_f {f : Nat → Int32} {x : Int32} {z : Nat} (h : ∀ i, i < z → ¬ x &&& (f i ^^^ -1) = 0) : ofB f x z = false := by
  rw [← Bool.not_eq_true]; intro q
  obtain ⟨i, hi, e⟩ := List.any_eq_true.mp q
  exact h i (List.mem_range.mp hi) (of_decide_eq_true e)
def ofS (S : Sx) (x : Int32) : Nat → Sx × Nat
  | 0 => (S, 0)
  | i + 1 => if (ofS S x i).1 19 i &&& (x ^^^ -1) = 0 then ofS S x i else (st (ofS S x i).1 19 (ofS S x i).2 ((ofS S x i).1 19 i), (ofS S x i).2 + 1)
theorem ofS_le (S : Sx) (x : Int32) : ∀ i, (ofS S x i).2 ≤ i
  | 0 => Nat.le_refl _
  | i + 1 => by have := ofS_le S x i; unfold ofS; split <;> simp <;> omega
theorem ofS_18 (S : Sx) (x : Int32) : ∀ i, (ofS S x i).1 18 = S 18
  | 0 => rfl
  | i + 1 => by unfold ofS; split; exact ofS_18 S x i; dsimp only; rw [st_ne (by decide)]; exact ofS_18 S x i
def ofE (S : Sx) (k : Nat) (x : Int32) : Sx := if k < 36 then st (st (st S 19 k x) 18 1 (nI (k + 1))) 18 2 (S 18 2 ||| x) else S
def ofF (S : Sx) (x : Int32) (z : Nat) : Sx := if ofB (S 19) x z then S else ofE (ofS S x z).1 (ofS S x z).2 x

set_option maxRecDepth 100000 in
set_option maxHeartbeats 4000000 in
theorem kX0_clear {G : Cx} {S : Sx} (hN : 80 ≤ gN G)  : CV G (0) yX0_clear cX0_clear 1 [ra G 18] S (st (st S 18 1 (nI 0)) 18 2 (nI 0)) := by
  refine CV_of (by decide) (Nat.le_of_ble_eq_true rfl) (by intro v hv; simp only [List.mem_cons, List.not_mem_nil, or_false] at hv; rcases hv with rfl <;> rfl) (fun F X E => ?_)
  have hR := RV_R E
  refine V_aload_n X dX0_clear_0 rfl ?_
  refine V_iconst X (nI 0) dX0_clear_1 (by decide) ?_
  refine V_puti X fpX0_15 (ltN (by decide) hN) rfl rfl dX0_clear_2 ?_
  refine V_aload_n X dX0_clear_5 rfl ?_
  refine V_iconst X (nI 0) dX0_clear_6 (by decide) ?_
  refine V_puti X fpX0_19 (ltN (by decide) hN) rfl rfl dX0_clear_7 ?_
  exact V_vret X E dX0_clear_10 rfl

set_option maxRecDepth 100000 in
set_option maxHeartbeats 4000000 in
theorem kX0_offer {G : Cx} {S : Sx} (hN : 80 ≤ gN G) {x : Int32} {z : Nat} (hz : S 18 1 = nI z) (hz36 : z ≤ 36) : CV G (0) yX0_offer cX0_offer 4 [ra G 18, .int x] S (ofF S x z) := by
  refine CV_of (by decide) (Nat.le_of_ble_eq_true rfl) (by intro v hv; simp only [List.mem_cons, List.not_mem_nil, or_false] at hv; rcases hv with rfl | rfl <;> rfl) (fun F X E => ?_)
  have hR := RV_R E
  have loop2 : ofB (S 19) x z = false → ∀ (f i k : Nat) (S1 : Sx), i ≤ z → z - i < f → S1 = (ofS S x i).1 → k = (ofS S x i).2 → V F G S1 34 [some (ra G 18), some (.int x), some (.int (nI k)), some (.int (nI i))] [] := by
    intro hb f
    induction f with
    | zero => intro i k S1 h1 h2; omega
    | succ f ih =>
      intro i k S1 h1 h2 hs1 hk1
      have hki := ofS_le S x i
      refine V_iload_n X dX0_offer_34 rfl ?_
      refine V_aload_n X dX0_offer_35 rfl ?_
      refine V_geti X flX0_15 (ltN (by decide) hN) rfl rfl dX0_offer_36 ?_
      refine V_top (nI (z)) (by first | (rw [hs1, ofS_18]; exact hz) | exact hz) ?_
      refine V_cN_ge X 76 (by omega) (by omega) dX0_offer_39 (by decide) (fun h39 => ?_) (fun h39 => ?_)
      · refine V_iload_n X dX0_offer_76 rfl ?_
        refine V_bipush X (nI 36) dX0_offer_77 (by decide) ?_
        refine V_cN_ge X 106 (by omega) (by omega) dX0_offer_79 (by decide) (fun h79 => ?_) (fun h79 => ?_)
        · exact V_vret X E dX0_offer_106 (by unfold ofF ofE; rw [if_neg (by rw [hb]; decide), show z = i by omega]; first | (rw [← hk1, if_pos (by omega), hs1]; rfl) | (rw [← hk1, if_neg (by omega), hs1]))
        · refine V_aload_n X dX0_offer_82 rfl ?_
          refine V_getr X flX0_9 (ltN (by decide) hN) rfl rfl dX0_offer_83 ?_
          refine V_iload_n X dX0_offer_86 rfl ?_
          refine V_iload_n X dX0_offer_87 rfl ?_
          refine V_iastN X (ltN (by decide) hN) rfl (by omega) (by decide) dX0_offer_88 ?_
          refine V_aload_n X dX0_offer_89 rfl ?_
          refine V_iload_n X dX0_offer_90 rfl ?_
          refine V_iconst X (nI 1) dX0_offer_91 (by decide) ?_
          refine V_addN X dX0_offer_92 ?_
          refine V_puti X fpX0_15 (ltN (by decide) hN) rfl rfl dX0_offer_93 ?_
          refine V_aload_n X dX0_offer_96 rfl ?_
          refine V_dupr X dX0_offer_97 ?_
          refine V_geti X flX0_19 (ltN (by decide) hN) rfl rfl dX0_offer_98 ?_
          refine V_iload_n X dX0_offer_101 rfl ?_
          refine V_ior X dX0_offer_102 ?_
          refine V_puti X fpX0_19 (ltN (by decide) hN) rfl rfl dX0_offer_103 ?_
          exact V_vret X E dX0_offer_106 (by unfold ofF ofE; rw [if_neg (by rw [hb]; decide), show z = i by omega]; first | (rw [← hk1, if_pos (by omega), hs1]; rfl) | (rw [← hk1, if_neg (by omega), hs1]))
      · refine V_aload_n X dX0_offer_42 rfl ?_
        refine V_getr X flX0_9 (ltN (by decide) hN) rfl rfl dX0_offer_43 ?_
        refine V_iload_n X dX0_offer_46 rfl ?_
        refine V_ialdN X (ltN (by decide) hN) rfl (by omega) (by decide) dX0_offer_47 ?_
        refine V_iload_n X dX0_offer_48 rfl ?_
        refine V_iconst X (-1) dX0_offer_49 (by decide) ?_
        refine V_ixor X dX0_offer_50 ?_
        refine V_iand X dX0_offer_51 ?_
        refine V_if_eq X 70 dX0_offer_52 (by decide) (fun h52 => ?_) (fun h52 => ?_)
        · refine V_iinc X (nI (_ + 1)) dX0_offer_70 (by rw [hR.2]; decide) rfl (nI_add _ 1) ?_
          refine V_goto X 34 dX0_offer_73 (by decide) ?_
          exact ih (i + 1) _ _ (by omega) (by omega) (by rw [ofS, if_pos (by rw [← hs1]; exact h52)]; exact hs1) (by rw [ofS, if_pos (by rw [← hs1]; exact h52)]; exact hk1)
        · refine V_aload_n X dX0_offer_55 rfl ?_
          refine V_getr X flX0_9 (ltN (by decide) hN) rfl rfl dX0_offer_56 ?_
          refine V_iload_n X dX0_offer_59 rfl ?_
          refine V_aload_n X dX0_offer_60 rfl ?_
          refine V_getr X flX0_9 (ltN (by decide) hN) rfl rfl dX0_offer_61 ?_
          refine V_iload_n X dX0_offer_64 rfl ?_
          refine V_ialdN X (ltN (by decide) hN) rfl (by omega) (by decide) dX0_offer_65 ?_
          refine V_iastN X (ltN (by decide) hN) rfl (by have := ofS_le S x i; omega) (by decide) dX0_offer_66 ?_
          refine V_iinc X (nI (_ + 1)) dX0_offer_67 (by rw [hR.2]; decide) rfl (nI_add _ 1) ?_
          refine V_iinc X (nI (_ + 1)) dX0_offer_70 (by rw [hR.2]; decide) rfl (nI_add _ 1) ?_
          refine V_goto X 34 dX0_offer_73 (by decide) ?_
          exact ih (i + 1) _ _ (by omega) (by omega) (by rw [ofS, if_neg (by rw [← hs1]; exact h52), hk1, hs1]) (by rw [ofS, if_neg (by rw [← hs1]; exact h52), hk1])
  have loop1 : (∀ v, (∀ j, j < z → ¬ x &&& (S 19 j ^^^ -1) = 0) → V F G S 30 [some (ra G 18), some (.int x), v, none] []) → ∀ (f i : Nat), i ≤ z → z - i < f → (∀ j, j < i → ¬ x &&& (S 19 j ^^^ -1) = 0) → V F G S 2 [some (ra G 18), some (.int x), some (.int (nI i)), none] [] := by
    intro kx f
    induction f with
    | zero => intro i h1 h2; omega
    | succ f ih =>
      intro i h1 h2 hb
      refine V_iload_n X dX0_offer_2 rfl ?_
      refine V_aload_n X dX0_offer_3 rfl ?_
      refine V_geti X flX0_15 (ltN (by decide) hN) rfl rfl dX0_offer_4 ?_
      refine V_top (nI (z)) (by first | exact hz | (simp only [st_at]; simp; exact hz)) ?_
      refine V_cN_ge X 30 (by omega) (by omega) dX0_offer_7 (by decide) (fun h7 => ?_) (fun h7 => ?_)
      · exact kx _ (fun j hj => hb j (by omega))
      · refine V_iload_n X dX0_offer_10 rfl ?_
        refine V_aload_n X dX0_offer_11 rfl ?_
        refine V_getr X flX0_9 (ltN (by decide) hN) rfl rfl dX0_offer_12 ?_
        refine V_iload_n X dX0_offer_15 rfl ?_
        refine V_ialdN X (ltN (by decide) hN) rfl (by omega) (by decide) dX0_offer_16 ?_
        refine V_iconst X (-1) dX0_offer_17 (by decide) ?_
        refine V_ixor X dX0_offer_18 ?_
        refine V_iand X dX0_offer_19 ?_
        refine V_if_ne X 24 dX0_offer_20 (by decide) (fun h20 => ?_) (fun h20 => ?_)
        · refine V_iinc X (nI (_ + 1)) dX0_offer_24 (by rw [hR.2]; decide) rfl (nI_add _ 1) ?_
          refine V_goto X 2 dX0_offer_27 (by decide) ?_
          exact ih (i + 1) (by omega) (by omega) (fun j hj => by rcases Nat.lt_succ_iff_lt_or_eq.mp hj with q | q; exact hb j q; subst q; exact h20)
        · exact V_vret X E dX0_offer_23 (by unfold ofF; rw [if_pos (ofB_t h7 (ts_nn h20))])
  refine V_iconst X (nI 0) dX0_offer_0 (by decide) ?_
  refine V_istore_n X dX0_offer_1 (by rw [hR.2]; decide) ?_
  refine loop1 (fun v hb => ?_) (z + 1) 0 (by omega) (by omega) (fun j hj => absurd hj (by omega))
  refine V_iconst X (nI 0) dX0_offer_30 (by decide) ?_
  refine V_istore_n X dX0_offer_31 (by rw [hR.2]; decide) ?_
  refine V_iconst X (nI 0) dX0_offer_32 (by decide) ?_
  refine V_istore_n X dX0_offer_33 (by rw [hR.2]; decide) ?_
  exact loop2 (ofB_f hb) (z + 1) 0 0 S (by omega) (by omega) rfl rfl

def hoC (f : Nat → Int32) (x : Int32) : Nat → Nat
  | 0 => 0
  | k + 1 => if f k &&& x = 0 then hoC f x k else hoC f x k + 1
theorem hoC_le (f : Nat → Int32) (x : Int32) : ∀ k, hoC f x k ≤ k
  | 0 => Nat.le_refl _
  | k + 1 => by have := hoC_le f x k; unfold hoC; split <;> omega
def wdF (f : Nat → Int32) (x : Int32) : Nat → Int32
  | 0 => nI 0
  | k + 1 => mx (wdF f x k) (bcF (f k &&& x))
def rrF (f : Nat → Int32) (z : Nat) (l : Int32) : Nat → Int32 × Nat
  | 0 => (nI 0, 37)
  | b + 1 => if (if (l >>> (nI b &&& 31)) &&& nI 1 = 0 then (rrF f z l b).2 else hoC f (nI 1 <<< (nI b &&& 31)) z) < (rrF f z l b).2 then (nI 1 <<< (nI b &&& 31), (if (l >>> (nI b &&& 31)) &&& nI 1 = 0 then (rrF f z l b).2 else hoC f (nI 1 <<< (nI b &&& 31)) z)) else rrF f z l b
theorem rrF_le (f : Nat → Int32) (z : Nat) (l : Int32) : ∀ b, (rrF f z l b).2 ≤ 37
  | 0 => Nat.le_refl _
  | b + 1 => by
    have := rrF_le f z l b
    unfold rrF
    generalize (if (l >>> (nI b &&& 31)) &&& nI 1 = 0 then (rrF f z l b).2 else hoC f (nI 1 <<< (nI b &&& 31)) z) = h
    by_cases q : h < (rrF f z l b).2
    · rw [if_pos q]; exact Nat.le_trans (Nat.le_of_lt q) this
    · rw [if_neg q]; exact this

set_option maxRecDepth 100000 in
set_option maxHeartbeats 4000000 in
theorem kX0_holdersOf {G : Cx} {S : Sx} (hN : 80 ≤ gN G) {x : Int32} {z : Nat} (hz36 : z ≤ 36) : CT G (0) yX0_holdersOf cX0_holdersOf 5 (some .int) [ra G 19, .int (nI z), .int x] S (nI (hoC (S 19) x z)) (S) := by
  refine CT_of (by decide) (Nat.le_of_ble_eq_true rfl) (by intro v hv; simp only [List.mem_cons, List.not_mem_nil, or_false] at hv; rcases hv with rfl | rfl | rfl <;> rfl) (fun F X E => ?_)
  have hR := RI_R E
  have loop : ∀ (f i c : Nat), i ≤ z → z - i < f → c = hoC (S 19) x i → V F G S 5 [some (ra G 19), some (.int (nI z)), some (.int x), some (.int (nI c)), some (.int (nI i))] [] := by
    intro f
    induction f with
    | zero => intro i c h1 h2; omega
    | succ f ih =>
      intro i c h1 h2 hc
      refine V_iload X dX0_holdersOf_5 rfl ?_
      refine V_iload_n X dX0_holdersOf_7 rfl ?_
      refine V_cN_ge X 29 (by omega) (by omega) dX0_holdersOf_8 (by decide) (fun h8 => ?_) (fun h8 => ?_)
      · refine V_iload_n X dX0_holdersOf_29 rfl ?_
        exact V_iret X E dX0_holdersOf_30 (by rw [hc, show i = z by omega]) rfl
      · refine V_aload_n X dX0_holdersOf_11 rfl ?_
        refine V_iload X dX0_holdersOf_12 rfl ?_
        refine V_ialdN X (ltN (by decide) hN) rfl (by omega) (by decide) dX0_holdersOf_14 ?_
        refine V_iload_n X dX0_holdersOf_15 rfl ?_
        refine V_iand X dX0_holdersOf_16 ?_
        refine V_if_eq X 23 dX0_holdersOf_17 (by decide) (fun h17 => ?_) (fun h17 => ?_)
        · refine V_iinc X (nI (_ + 1)) dX0_holdersOf_23 (by rw [hR.2]; decide) rfl (nI_add _ 1) ?_
          refine V_goto X 5 dX0_holdersOf_26 (by decide) ?_
          exact ih (i + 1) _ (by omega) (by omega) (by rw [hc]; first | exact (if_pos h17).symm | exact (if_neg h17).symm)
        · refine V_iinc X (nI (_ + 1)) dX0_holdersOf_20 (by rw [hR.2]; decide) rfl (nI_add _ 1) ?_
          refine V_iinc X (nI (_ + 1)) dX0_holdersOf_23 (by rw [hR.2]; decide) rfl (nI_add _ 1) ?_
          refine V_goto X 5 dX0_holdersOf_26 (by decide) ?_
          exact ih (i + 1) _ (by omega) (by omega) (by rw [hc]; first | exact (if_pos h17).symm | exact (if_neg h17).symm)
  refine V_iconst X (nI 0) dX0_holdersOf_0 (by decide) ?_
  refine V_istore_n X dX0_holdersOf_1 (by rw [hR.2]; decide) ?_
  refine V_iconst X (nI 0) dX0_holdersOf_2 (by decide) ?_
  refine V_istore X dX0_holdersOf_3 (by rw [hR.2]; decide) ?_
  exact loop (z + 1) 0 0 (by omega) (by omega) rfl

set_option maxRecDepth 100000 in
set_option maxHeartbeats 4000000 in
theorem kX0_widest {G : Cx} {S : Sx} (hN : 80 ≤ gN G) {x : Int32} {z : Nat} (hz36 : z ≤ 36) : CT G (1) yX0_widest cX0_widest 5 (some .int) [ra G 19, .int (nI z), .int x] S (wdF (S 19) x z) (S) := by
  refine CT_of (by decide) (Nat.le_of_ble_eq_true rfl) (by intro v hv; simp only [List.mem_cons, List.not_mem_nil, or_false] at hv; rcases hv with rfl | rfl | rfl <;> rfl) (fun F X E => ?_)
  have hR := RI_R E
  have loop : ∀ (f i : Nat) (c : Int32), i ≤ z → z - i < f → c = wdF (S 19) x i → V F G S 5 [some (ra G 19), some (.int (nI z)), some (.int x), some (.int c), some (.int (nI i))] [] := by
    intro f
    induction f with
    | zero => intro i c h1 h2; omega
    | succ f ih =>
      intro i c h1 h2 hc
      refine V_iload X dX0_widest_5 rfl ?_
      refine V_iload_n X dX0_widest_7 rfl ?_
      refine V_cN_ge X 31 (by omega) (by omega) dX0_widest_8 (by decide) (fun h8 => ?_) (fun h8 => ?_)
      · refine V_iload_n X dX0_widest_31 rfl ?_
        exact V_iret X E dX0_widest_32 (by rw [hc, show i = z by omega]) rfl
      · refine V_iload_n X dX0_widest_11 rfl ?_
        refine V_aload_n X dX0_widest_12 rfl ?_
        refine V_iload X dX0_widest_13 rfl ?_
        refine V_ialdN X (ltN (by decide) hN) rfl (by omega) (by decide) dX0_widest_15 ?_
        refine V_iload_n X dX0_widest_16 rfl ?_
        refine V_iand X dX0_widest_17 ?_
        refine V_csi X (kJ6_bitCount_0f7a4 ) cwX0_30 rfl (rm_ok hR (by decide) (by decide)) (Nat.le_of_ble_eq_true rfl) dX0_widest_18 ?_
        refine V_imax X hR (by decide) (Nat.le_of_ble_eq_true rfl) cwX0_39 dX0_widest_21 ?_
        refine V_istore_n X dX0_widest_24 (by rw [hR.2]; decide) ?_
        refine V_iinc X (nI (_ + 1)) dX0_widest_25 (by rw [hR.2]; decide) rfl (nI_add _ 1) ?_
        refine V_goto X 5 dX0_widest_28 (by decide) ?_
        exact ih (i + 1) _ (by omega) (by omega) (by rw [hc]; rfl)
  refine V_iconst X (nI 0) dX0_widest_0 (by decide) ?_
  refine V_istore_n X dX0_widest_1 (by rw [hR.2]; decide) ?_
  refine V_iconst X (nI 0) dX0_widest_2 (by decide) ?_
  refine V_istore X dX0_widest_3 (by rw [hR.2]; decide) ?_
  exact loop (z + 1) 0 _ (by omega) (by omega) rfl

set_option maxRecDepth 100000 in
set_option maxHeartbeats 4000000 in
theorem kX0_rarest {G : Cx} {S : Sx} (hN : 80 ≤ gN G) {x : Int32} {z : Nat} (hz36 : z ≤ 36) : CT G (1) yX0_rarest cX0_rarest 7 (some .int) [ra G 19, .int (nI z), .int x] S ((rrF (S 19) z x 14).1) (S) := by
  refine CT_of (by decide) (Nat.le_of_ble_eq_true rfl) (by intro v hv; simp only [List.mem_cons, List.not_mem_nil, or_false] at hv; rcases hv with rfl | rfl | rfl <;> rfl) (fun F X E => ?_)
  have hR := RI_R E
  have loop : ∀ (f b : Nat) (c : Int32) (w : Nat) (v : Option Value), b ≤ 14 → 14 - b < f → c = (rrF (S 19) z x b).1 → w = (rrF (S 19) z x b).2 → V F G S 9 [some (ra G 19), some (.int (nI z)), some (.int x), some (.int c), some (.int (nI w)), some (.int (nI b)), v] [] := by
    intro f
    induction f with
    | zero => intro b c w v h1 h2; omega
    | succ f ih =>
      intro b c w v h1 h2 hc hw
      refine V_iload X dX0_rarest_9 rfl ?_
      refine V_bipush X (nI 14) dX0_rarest_11 (by decide) ?_
      refine V_cN_ge X 63 (by (have := rrF_le (S 19) z x b; have := hoC_le (S 19) (nI 1 <<< (nI b &&& 31)) z; omega)) (by (have := rrF_le (S 19) z x b; have := hoC_le (S 19) (nI 1 <<< (nI b &&& 31)) z; omega)) dX0_rarest_13 (by decide) (fun h13 => ?_) (fun h13 => ?_)
      · refine V_iload_n X dX0_rarest_63 rfl ?_
        exact V_iret X E dX0_rarest_64 (by rw [hc, show b = 14 by omega]) rfl
      · refine V_iload_n X dX0_rarest_16 rfl ?_
        refine V_iload X dX0_rarest_17 rfl ?_
        refine V_ishr X dX0_rarest_19 ?_
        refine V_iconst X (nI 1) dX0_rarest_20 (by decide) ?_
        refine V_iand X dX0_rarest_21 ?_
        refine V_if_ne X 30 dX0_rarest_22 (by decide) (fun h22 => ?_) (fun h22 => ?_)
        · refine V_aload_n X dX0_rarest_30 rfl ?_
          refine V_iload_n X dX0_rarest_31 rfl ?_
          refine V_iconst X (nI 1) dX0_rarest_32 (by decide) ?_
          refine V_iload X dX0_rarest_33 rfl ?_
          refine V_ishl X dX0_rarest_35 ?_
          refine V_csi X (kX0_holdersOf hN hz36) cwX0_45 rfl (rm_ok hR (by decide) (by decide)) (Nat.le_of_ble_eq_true rfl) dX0_rarest_36 ?_
          refine V_istore X dX0_rarest_39 (by rw [hR.2]; decide) ?_
          refine V_iload X dX0_rarest_41 rfl ?_
          refine V_iload X dX0_rarest_43 rfl ?_
          refine V_cN_ge X 57 (by (have := rrF_le (S 19) z x b; have := hoC_le (S 19) (nI 1 <<< (nI b &&& 31)) z; omega)) (by (have := rrF_le (S 19) z x b; have := hoC_le (S 19) (nI 1 <<< (nI b &&& 31)) z; omega)) dX0_rarest_45 (by decide) (fun h45 => ?_) (fun h45 => ?_)
          · refine V_iinc X (nI (_ + 1)) dX0_rarest_57 (by rw [hR.2]; decide) rfl (nI_add _ 1) ?_
            refine V_goto X 9 dX0_rarest_60 (by decide) ?_
            exact ih (b + 1) _ _ _ (by omega) (by omega) (by rw [rrF, if_neg (by rw [(if_neg h22), ← hw]; omega)]; exact hc) (by rw [rrF, if_neg (by rw [(if_neg h22), ← hw]; omega)]; exact hw)
          · refine V_iload X dX0_rarest_48 rfl ?_
            refine V_istore X dX0_rarest_50 (by rw [hR.2]; decide) ?_
            refine V_iconst X (nI 1) dX0_rarest_52 (by decide) ?_
            refine V_iload X dX0_rarest_53 rfl ?_
            refine V_ishl X dX0_rarest_55 ?_
            refine V_istore_n X dX0_rarest_56 (by rw [hR.2]; decide) ?_
            refine V_iinc X (nI (_ + 1)) dX0_rarest_57 (by rw [hR.2]; decide) rfl (nI_add _ 1) ?_
            refine V_goto X 9 dX0_rarest_60 (by decide) ?_
            exact ih (b + 1) _ _ _ (by omega) (by omega) (by rw [rrF, if_pos (by rw [(if_neg h22), ← hw]; exact h45)]) (by rw [rrF, if_pos (by rw [(if_neg h22), ← hw]; exact h45)]; exact (if_neg h22).symm)
        · refine V_iload X dX0_rarest_25 rfl ?_
          refine V_goto X 39 dX0_rarest_27 (by decide) ?_
          refine V_istore X dX0_rarest_39 (by rw [hR.2]; decide) ?_
          refine V_iload X dX0_rarest_41 rfl ?_
          refine V_iload X dX0_rarest_43 rfl ?_
          refine V_cN_ge X 57 (by (have := rrF_le (S 19) z x b; have := hoC_le (S 19) (nI 1 <<< (nI b &&& 31)) z; omega)) (by (have := rrF_le (S 19) z x b; have := hoC_le (S 19) (nI 1 <<< (nI b &&& 31)) z; omega)) dX0_rarest_45 (by decide) (fun h45 => ?_) (fun h45 => ?_)
          · refine V_iinc X (nI (_ + 1)) dX0_rarest_57 (by rw [hR.2]; decide) rfl (nI_add _ 1) ?_
            refine V_goto X 9 dX0_rarest_60 (by decide) ?_
            exact ih (b + 1) _ _ _ (by omega) (by omega) (by rw [rrF, if_neg (by rw [(if_pos (ts_nn h22)), ← hw]; omega)]; exact hc) (by rw [rrF, if_neg (by rw [(if_pos (ts_nn h22)), ← hw]; omega)]; exact hw)
          · refine V_iload X dX0_rarest_48 rfl ?_
            refine V_istore X dX0_rarest_50 (by rw [hR.2]; decide) ?_
            refine V_iconst X (nI 1) dX0_rarest_52 (by decide) ?_
            refine V_iload X dX0_rarest_53 rfl ?_
            refine V_ishl X dX0_rarest_55 ?_
            refine V_istore_n X dX0_rarest_56 (by rw [hR.2]; decide) ?_
            refine V_iinc X (nI (_ + 1)) dX0_rarest_57 (by rw [hR.2]; decide) rfl (nI_add _ 1) ?_
            refine V_goto X 9 dX0_rarest_60 (by decide) ?_
            exact absurd h45 (Nat.lt_irrefl _)
  refine V_iconst X (nI 0) dX0_rarest_0 (by decide) ?_
  refine V_istore_n X dX0_rarest_1 (by rw [hR.2]; decide) ?_
  refine V_bipush X (nI 37) dX0_rarest_2 (by decide) ?_
  refine V_istore X dX0_rarest_4 (by rw [hR.2]; decide) ?_
  refine V_iconst X (nI 0) dX0_rarest_6 (by decide) ?_
  refine V_istore X dX0_rarest_7 (by rw [hR.2]; decide) ?_
  exact loop 15 0 _ _ _ (by omega) (by omega) rfl rfl

def bb (b : Bool) : Int32 := if b then nI 1 else nI 0
theorem bb_0 {b : Bool} : bb b = 0 ↔ b = false := by cases b <;> decide
theorem bb_n {b : Bool} : bb b ≠ 0 ↔ b = true := by cases b <;> decide
theorem bb_01 (b : Bool) : bb b = 0 ∨ bb b = 1 := by cases b <;> decide
def sfF (f : Nat → Int32) (z : Nat) : Nat → Int32 → Bool
  | 0, l => decide (l = 0)
  | p + 1, l => if l = 0 then true else if nI (p + 1) * wdF f l z < bcF l then false else (List.range z).any (fun i => !decide (f i &&& (rrF f z l 14).1 = 0) && sfF f z p (l &&& (f i ^^^ -1)))
theorem bcF_pos0 : ∀ a, a < 128 → ∀ b, b < 128 → 128 * a + b ≠ 0 → 0 < bcF (nI (128 * a + b)) := by decide +kernel
theorem bcF_pos {m : Nat} (h : m < 16384) (h0 : m ≠ 0) : 0 < bcF (nI m) := by
  have := bcF_pos0 (m / 128) (by omega) (m % 128) (by omega) (by omega)
  rwa [show 128 * (m / 128) + m % 128 = m by omega] at this
theorem and_nat {m : Nat} (hm : m < 16384) (y : Int32) : ∃ k, k < 16384 ∧ nI m &&& y = nI k := by
  refine ⟨m &&& y.toBitVec.toNat, Nat.lt_of_le_of_lt Nat.and_le_left hm, ?_⟩
  apply Int32.toBitVec_inj.mp
  apply BitVec.eq_of_toNat_eq
  rw [Int32.toBitVec_and, BitVec.toNat_and, pk_tn (by omega), pk_tn (Nat.lt_of_le_of_lt Nat.and_le_left (by omega))]

theorem anyT {f : Nat → Int32} {h : Int32} {g : Int32 → Bool} {l : Int32} {z i : Nat} (hi : i < z) (h1 : ¬ f i &&& h = 0) (h2 : g (l &&& (f i ^^^ -1)) = true) : (List.range z).any (fun i => !decide (f i &&& h = 0) && g (l &&& (f i ^^^ -1))) = true :=
  List.any_eq_true.mpr ⟨i, List.mem_range.mpr hi, by rw [h2, decide_eq_false h1]; rfl⟩
theorem anyF {f : Nat → Int32} {h : Int32} {g : Int32 → Bool} {l : Int32} {z : Nat} (ha : ∀ i, i < z → (f i &&& h = 0 ∨ g (l &&& (f i ^^^ -1)) = false)) : (List.range z).any (fun i => !decide (f i &&& h = 0) && g (l &&& (f i ^^^ -1))) = false := by
  rw [← Bool.not_eq_true]; intro q
  obtain ⟨i, hi, e⟩ := List.any_eq_true.mp q
  rcases ha i (List.mem_range.mp hi) with q | q
  · rw [decide_eq_true q] at e; cases e
  · rw [q, Bool.and_false] at e; cases e
set_option maxRecDepth 100000 in
set_option maxHeartbeats 4000000 in
theorem kX0_suffice {G : Cx} {S : Sx} (hN : 80 ≤ gN G) {z : Nat} (hz36 : z ≤ 36) : ∀ (p : Nat), p < 20 → ∀ (l : Int32), (∃ m, m < 16384 ∧ l = nI m) → CT G (2 + p) yX0_suffice cX0_suffice 6 (some .boolean) [ra G 19, .int (nI z), .int l, .int (nI p)] S (bb (sfF (S 19) z p l)) S := by
  intro p
  induction p with
  | zero =>
    intro hp l hl
    have hpos : ¬ l = 0 → 0 < bcF l := by
      obtain ⟨m, hm, rfl⟩ := hl
      intro h; exact bcF_pos hm (fun q => h (by rw [q]; rfl))
    refine CT_of (by decide) (Nat.le_of_ble_eq_true rfl) (by intro v hv; simp only [List.mem_cons, List.not_mem_nil, or_false] at hv; rcases hv with rfl | rfl | rfl | rfl <;> rfl) (fun F X E => ?_)
    have hR := RI_R E
    refine V_iload_n X dX0_suffice_0 rfl ?_
    refine V_if_ne X 6 dX0_suffice_1 (by decide) (fun h1 => ?_) (fun h1 => ?_)
    · have hl0 : ¬ l = 0 := h1
      refine V_iload_n X dX0_suffice_6 rfl ?_
      refine V_aload_n X dX0_suffice_7 rfl ?_
      refine V_iload_n X dX0_suffice_8 rfl ?_
      refine V_iload_n X dX0_suffice_9 rfl ?_
      refine V_csi X (kX0_widest hN hz36) cwX0_26 rfl (rm_ok hR (by omega) (by decide)) (Nat.le_of_ble_eq_true rfl) dX0_suffice_10 ?_
      refine V_imul X dX0_suffice_13 ?_
      refine V_iload_n X dX0_suffice_14 rfl ?_
      refine V_csi X (kJ6_bitCount_0f7a4 ) cwX0_30 rfl (rm_ok hR (by omega) (by decide)) (Nat.le_of_ble_eq_true rfl) dX0_suffice_15 ?_
      refine V_icmp_ge X 23 dX0_suffice_18 (by decide) (fun h18 => ?_) (fun h18 => ?_)
      · exact absurd (by rw [nI_0, Int32.zero_mul]; exact (hpos hl0)) (Int32.not_lt.mpr h18)
      · refine V_iconst X (nI 0) dX0_suffice_21 (by decide) ?_
        exact V_zret X E dX0_suffice_22 (by first | exact Or.inl rfl | exact Or.inr rfl) (by rw [sfF, decide_eq_false hl0]; rfl) rfl
    · refine V_iconst X (nI 1) dX0_suffice_4 (by decide) ?_
      exact V_zret X E dX0_suffice_5 (by first | exact Or.inl rfl | exact Or.inr rfl) (by rw [sfF, decide_eq_true (ts_nn h1)]; rfl) rfl
  | succ p ih =>
    intro hp l hl
    have ih := ih (by omega)
    have hl2 : ∀ y : Int32, ∃ m, m < 16384 ∧ l &&& y = nI m := by
      obtain ⟨m, hm, rfl⟩ := hl
      exact fun y => and_nat hm y
    refine CT_of (by decide) (Nat.le_of_ble_eq_true rfl) (by intro v hv; simp only [List.mem_cons, List.not_mem_nil, or_false] at hv; rcases hv with rfl | rfl | rfl | rfl <;> rfl) (fun F X E => ?_)
    have hR := RI_R E
    refine V_iload_n X dX0_suffice_0 rfl ?_
    refine V_if_ne X 6 dX0_suffice_1 (by decide) (fun h1 => ?_) (fun h1 => ?_)
    · have hl0 : ¬ l = 0 := h1
      refine V_iload_n X dX0_suffice_6 rfl ?_
      refine V_aload_n X dX0_suffice_7 rfl ?_
      refine V_iload_n X dX0_suffice_8 rfl ?_
      refine V_iload_n X dX0_suffice_9 rfl ?_
      refine V_csi X (kX0_widest hN hz36) cwX0_26 rfl (rm_ok hR (by omega) (by decide)) (Nat.le_of_ble_eq_true rfl) dX0_suffice_10 ?_
      refine V_imul X dX0_suffice_13 ?_
      refine V_iload_n X dX0_suffice_14 rfl ?_
      refine V_csi X (kJ6_bitCount_0f7a4 ) cwX0_30 rfl (rm_ok hR (by omega) (by decide)) (Nat.le_of_ble_eq_true rfl) dX0_suffice_15 ?_
      refine V_icmp_ge X 23 dX0_suffice_18 (by decide) (fun h18 => ?_) (fun h18 => ?_)
      · have h18 : bcF l ≤ nI (p + 1) * wdF (S 19) l z := h18
        refine V_aload_n X dX0_suffice_23 rfl ?_
        refine V_iload_n X dX0_suffice_24 rfl ?_
        refine V_iload_n X dX0_suffice_25 rfl ?_
        refine V_csi X (kX0_rarest hN hz36) cwX0_36 rfl (rm_ok hR (by omega) (by decide)) (Nat.le_of_ble_eq_true rfl) dX0_suffice_26 ?_
        refine V_istore X dX0_suffice_29 (by rw [hR.2]; decide) ?_
        refine V_iconst X (nI 0) dX0_suffice_31 (by decide) ?_
        refine V_istore X dX0_suffice_32 (by rw [hR.2]; decide) ?_
        have loop : ∀ (f i : Nat), i ≤ z → z - i < f → (∀ j, j < i → (S 19 j &&& (rrF (S 19) z l 14).1 = 0 ∨ sfF (S 19) z p (l &&& (S 19 j ^^^ -1)) = false)) → V F G S 34 [some (ra G 19), some (.int (nI z)), some (.int l), some (.int (nI (p + 1))), some (.int (rrF (S 19) z l 14).1), some (.int (nI i))] [] := by
          intro f
          induction f with
          | zero => intro i h1 h2; omega
          | succ f ih2 =>
            intro i h5 h6 hall
            refine V_iload X dX0_suffice_34 rfl ?_
            refine V_iload_n X dX0_suffice_36 rfl ?_
            refine V_cN_ge X 77 (by omega) (by omega) dX0_suffice_37 (by decide) (fun h37 => ?_) (fun h37 => ?_)
            · refine V_iconst X (nI 0) dX0_suffice_77 (by decide) ?_
              exact V_zret X E dX0_suffice_78 (by first | exact Or.inl rfl | exact Or.inr rfl) (by rw [sfF, if_neg hl0, if_neg (Int32.not_lt.mpr h18), anyF (fun j hj => hall j (by omega))]; rfl) rfl
            · refine V_aload_n X dX0_suffice_40 rfl ?_
              refine V_iload X dX0_suffice_41 rfl ?_
              refine V_ialdN X (ltN (by decide) hN) rfl (by omega) (by decide) dX0_suffice_43 ?_
              refine V_iload X dX0_suffice_44 rfl ?_
              refine V_iand X dX0_suffice_46 ?_
              refine V_if_eq X 71 dX0_suffice_47 (by decide) (fun h47 => ?_) (fun h47 => ?_)
              · refine V_iinc X (nI (_ + 1)) dX0_suffice_71 (by rw [hR.2]; decide) rfl (nI_add _ 1) ?_
                refine V_goto X 34 dX0_suffice_74 (by decide) ?_
                exact ih2 (i + 1) (by omega) (by omega) (fun j hj => by rcases Nat.lt_succ_iff_lt_or_eq.mp hj with q | q; exact hall j q; subst q; exact Or.inl h47)
              · refine V_aload_n X dX0_suffice_50 rfl ?_
                refine V_iload_n X dX0_suffice_51 rfl ?_
                refine V_iload_n X dX0_suffice_52 rfl ?_
                refine V_aload_n X dX0_suffice_53 rfl ?_
                refine V_iload X dX0_suffice_54 rfl ?_
                refine V_ialdN X (ltN (by decide) hN) rfl (by omega) (by decide) dX0_suffice_56 ?_
                refine V_iconst X (-1) dX0_suffice_57 (by decide) ?_
                refine V_ixor X dX0_suffice_58 ?_
                refine V_iand X dX0_suffice_59 ?_
                refine V_iload_n X dX0_suffice_60 rfl ?_
                refine V_iconst X (nI 1) dX0_suffice_61 (by decide) ?_
                refine V_subN X dX0_suffice_62 (by omega) ?_
                refine V_csi X ((ih _ (hl2 (S 19 i ^^^ -1)))) cwX0_22 rfl (rm_ok hR (by omega) (by decide)) (Nat.le_of_ble_eq_true rfl) dX0_suffice_63 ?_
                refine V_if_eq X 71 dX0_suffice_66 (by decide) (fun h66 => ?_) (fun h66 => ?_)
                · refine V_iinc X (nI (_ + 1)) dX0_suffice_71 (by rw [hR.2]; decide) rfl (nI_add _ 1) ?_
                  refine V_goto X 34 dX0_suffice_74 (by decide) ?_
                  exact ih2 (i + 1) (by omega) (by omega) (fun j hj => by rcases Nat.lt_succ_iff_lt_or_eq.mp hj with q | q; exact hall j q; subst q; exact Or.inr (bb_0.mp h66))
                · refine V_iconst X (nI 1) dX0_suffice_69 (by decide) ?_
                  exact V_zret X E dX0_suffice_70 (by first | exact Or.inl rfl | exact Or.inr rfl) (by rw [sfF, if_neg hl0, if_neg (Int32.not_lt.mpr h18), anyT h37 h47 (bb_n.mp h66)]; rfl) rfl
        exact loop (z + 1) 0 (by omega) (by omega) (fun j hj => absurd hj (by omega))
      · refine V_iconst X (nI 0) dX0_suffice_21 (by decide) ?_
        exact V_zret X E dX0_suffice_22 (by first | exact Or.inl rfl | exact Or.inr rfl) (by rw [sfF, if_neg hl0, if_pos (Int32.not_le.mp h18)]; rfl) rfl
    · refine V_iconst X (nI 1) dX0_suffice_4 (by decide) ?_
      exact V_zret X E dX0_suffice_5 (by first | exact Or.inl rfl | exact Or.inr rfl) (by rw [sfF, if_pos (ts_nn h1)]; rfl) rfl

def lsF (f : Nat → Int32) (z : Nat) (a : Int32) : Nat → Nat → Nat
  | 0, p => p
  | k + 1, p => if sfF f z p a then p else lsF f z a k (p + 1)
set_option maxRecDepth 100000 in
set_option maxHeartbeats 4000000 in
theorem kX0_least {G : Cx} {S : Sx} (hN : 80 ≤ gN G) {z r : Nat} {a : Int32} (hz : S 18 1 = nI z) (hz36 : z ≤ 36) (ha : S 18 2 = a) (hl : ∃ m, m < 16384 ∧ a = nI m) (hr : lsF (S 19) z a 14 0 = r) : CT G (20) yX0_least cX0_least 2 (some .int) [ra G 18] S (nI r) (S) := by
  subst ha
  refine CT_of (by decide) (Nat.le_of_ble_eq_true rfl) (by intro v hv; simp only [List.mem_cons, List.not_mem_nil, or_false] at hv; rcases hv with rfl <;> rfl) (fun F X E => ?_)
  have hR := RI_R E
  have loop : ∀ (k p : Nat), p + k = 14 → lsF (S 19) z (S 18 2) k p = r → V F G S 2 [some (ra G 18), some (.int (nI p))] [] := by
    intro k
    induction k with
    | zero =>
      intro p hp hr
      refine V_iload_n X dX0_least_2 rfl ?_
      refine V_bipush X (nI 14) dX0_least_3 (by decide) ?_
      refine V_cN_ge X 35 (by omega) (by omega) dX0_least_5 (by decide) (fun h5 => ?_) (fun h5 => ?_)
      · refine V_bipush X (nI 14) dX0_least_35 (by decide) ?_
        exact V_iret X E dX0_least_37 (by rw [← hr, lsF, show p = 14 by omega]) rfl
      · omega
    | succ k ih =>
      intro p hp hr
      refine V_iload_n X dX0_least_2 rfl ?_
      refine V_bipush X (nI 14) dX0_least_3 (by decide) ?_
      refine V_cN_ge X 35 (by omega) (by omega) dX0_least_5 (by decide) (fun h5 => ?_) (fun h5 => ?_)
      · refine V_bipush X (nI 14) dX0_least_35 (by decide) ?_
        exact absurd h5 (by omega)
      · refine V_aload_n X dX0_least_8 rfl ?_
        refine V_getr X flX0_9 (ltN (by decide) hN) rfl rfl dX0_least_9 ?_
        refine V_aload_n X dX0_least_12 rfl ?_
        refine V_geti X flX0_15 (ltN (by decide) hN) rfl rfl dX0_least_13 ?_
        refine V_top (nI (z)) (by first | exact hz | (simp only [st_at]; simp; exact hz)) ?_
        refine V_aload_n X dX0_least_16 rfl ?_
        refine V_geti X flX0_19 (ltN (by decide) hN) rfl rfl dX0_least_17 ?_
        refine V_iload_n X dX0_least_20 rfl ?_
        refine V_csi X (kX0_suffice hN hz36 p (by omega) _ hl) cwX0_22 rfl (rm_ok hR (by omega) (by decide)) (Nat.le_of_ble_eq_true rfl) dX0_least_21 ?_
        refine V_if_eq X 29 dX0_least_24 (by decide) (fun h24 => ?_) (fun h24 => ?_)
        · refine V_iinc X (nI (_ + 1)) dX0_least_29 (by rw [hR.2]; decide) rfl (nI_add _ 1) ?_
          refine V_goto X 2 dX0_least_32 (by decide) ?_
          exact ih (p + 1) (by omega) (by rw [← hr, lsF, if_neg (by rw [bb_0.mp h24]; decide)])
        · refine V_iload_n X dX0_least_27 rfl ?_
          exact V_iret X E dX0_least_28 (by rw [lsF, if_pos (bb_n.mp h24)] at hr; exact congrArg nI hr) rfl
  refine V_iconst X (nI 0) dX0_least_0 (by decide) ?_
  refine V_istore_n X dX0_least_1 (by rw [hR.2]; decide) ?_
  exact loop 14 0 rfl hr

