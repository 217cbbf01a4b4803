def adS (S : Sx) (k z : Nat) (c : Int32) : Sx := st (st S (20 + k) z c) 6 k (nI (z + 1))
/-- the candidates of a sentence are tried one behind the other -/
def ewF (s : Nat) : List Int32 → Sx → Nat → Sx × Nat × Bool
  | [], S, z => (S, z, true)
  | c :: l, S, z => if alF S s c = 0 then ewF s l S z else if z < 64 then ewF s l (adS S (s + 1) z c) (z + 1) else (S, z, false)
def lg (s : Nat) (ch : Int32) (i j : Nat) : Int32 := (ch ||| cbt s 0 (nI i)) ||| cbt s 1 (nI j)
def cin (s : Nat) (ch : Int32) (i : Nat) : Nat → Nat → List Int32
  | 0, _ => []
  | m + 1, j => lg s ch i j :: cin s ch i m (j + 1)
def cou (s : Nat) (ch : Int32) (nr : Nat) : Nat → Nat → List Int32
  | 0, _ => []
  | m + 1, i => cin s ch i nr 0 ++ cou s ch nr m (i + 1)
def ewI (S : Sx) (s z : Nat) : Prop := okS S s ∧ S 6 (s + 1) = nI z ∧ z ≤ 64
theorem adS_ne {S : Sx} {k z q : Nat} {c : Int32} (h6 : q ≠ 6) (hk : q ≠ 20 + k) : adS S k z c q = S q := by unfold adS; rw [st_ne h6, st_ne hk]
theorem adS_6 {S : Sx} {k z j : Nat} {c : Int32} : adS S k z c 6 j = if j = k then nI (z + 1) else S 6 j := by
  unfold adS; rw [st_at]
  by_cases h : j = k
  · simp [h]
  · simp [h, st_at]
    intro h; omega
theorem ewI_s {S : Sx} {s z : Nat} {c : Int32} (h : ewI S s z) (hz : z < 64) : ewI (adS S (s + 1) z c) s (z + 1) :=
  ⟨okS_congr (adS_ne (by omega) (by omega)) (adS_ne (by omega) (by omega)) h.1, by rw [adS_6, if_pos rfl], by omega⟩

set_option maxRecDepth 100000 in
set_option maxHeartbeats 4000000 in
theorem kX5_extendWay {G : Cx} {S : Sx} (hN : 80 ≤ gN G) {s ns nr z : Nat} {ch : Int32} {R : Sx × Nat × Bool} (hs : s ≤ 13) (hns : bcF (S 3 (2 * s + 0)) = nI ns) (hnr : (if S 2 (s * 5 + 1) = nI 33 then bcF (S 3 (2 * s + 1)) else nI 1) = nI nr) (hns8 : ns ≤ 8) (hnr8 : nr ≤ 8) (hinv : ewI S s z) (hR0 : ewF s (cou s ch nr ns 0) S z = R) : CT G (4) yX5_extendWay cX5_extendWay 8 (some .boolean) [ra G 0, .int (nI s), .int ch] S (bb R.2.2) (R.1) := by
  refine CT_of (by decide) (Nat.le_of_ble_eq_true rfl) (by intro v hv; simp only [List.mem_cons, List.not_mem_nil, or_false] at hv; rcases hv with rfl | rfl | rfl <;> rfl) (fun F X E => ?_)
  have hR := RI_R E
  have loopA : ∀ (i : Nat), i < ns → (∀ (S2 : Sx) (z2 : Nat) (u w : Option Value), ewI S2 s z2 → ewF s (cou s ch nr (ns - (i + 1)) (i + 1)) S2 z2 = R → V F G S2 122 [some (ra G 0), some (.int (nI s)), some (.int ch), some (.int (nI ns)), some (.int (nI nr)), some (.int (nI i)), u, w] []) → ∀ (f j : Nat) (S1 : Sx) (z : Nat) (w : Option Value), j ≤ nr → nr - j < f → ewI S1 s z → ewF s (cin s ch i (nr - j) j ++ cou s ch nr (ns - (i + 1)) (i + 1)) S1 z = R → V F G S1 56 [some (ra G 0), some (.int (nI s)), some (.int ch), some (.int (nI ns)), some (.int (nI nr)), some (.int (nI i)), some (.int (nI j)), w] [] := by
    intro i hi kx f
    induction f with
    | zero => intro j S1 z w h1 h2; omega
    | succ f ih =>
      intro j S1 z w h1 h2 hinv hr
      refine V_iload X dX5_extendWay_56 rfl ?_
      refine V_iload X dX5_extendWay_58 rfl ?_
      refine V_cN_ge X 122 (by omega) (by omega) dX5_extendWay_60 (by decide) (fun h60 => ?_) (fun h60 => ?_)
      · exact kx _ _ _ _ hinv (by rw [show nr - j = 0 by omega, cin, List.nil_append] at hr; exact hr)
      · have hnj : nr - j = (nr - (j + 1)) + 1 := by omega
        refine V_iload_n X dX5_extendWay_63 rfl ?_
        refine V_iload_n X dX5_extendWay_64 rfl ?_
        refine V_iconst X (nI 0) dX5_extendWay_65 (by decide) ?_
        refine V_iload X dX5_extendWay_66 rfl ?_
        refine V_csi X (kX5_choiceBit ) cwX5_174 rfl (rm_ok hR (by decide) (by decide)) (Nat.le_of_ble_eq_true rfl) dX5_extendWay_68 ?_
        refine V_ior X dX5_extendWay_71 ?_
        refine V_iload_n X dX5_extendWay_72 rfl ?_
        refine V_iconst X (nI 1) dX5_extendWay_73 (by decide) ?_
        refine V_iload X dX5_extendWay_74 rfl ?_
        refine V_csi X (kX5_choiceBit ) cwX5_174 rfl (rm_ok hR (by decide) (by decide)) (Nat.le_of_ble_eq_true rfl) dX5_extendWay_76 ?_
        refine V_ior X dX5_extendWay_79 ?_
        refine V_istore X dX5_extendWay_80 (by rw [hR.2]; decide) ?_
        refine V_aload_n X dX5_extendWay_82 rfl ?_
        refine V_getr X flX5_26 (ltN (by decide) hN) rfl rfl dX5_extendWay_83 ?_
        refine V_aload_n X dX5_extendWay_86 rfl ?_
        refine V_getr X flX5_12 (ltN (by decide) hN) rfl rfl dX5_extendWay_87 ?_
        refine V_iload_n X dX5_extendWay_90 rfl ?_
        refine V_iload X dX5_extendWay_91 rfl ?_
        refine V_cvi X (ltN (by decide) hN) rfl rfl rfl (kX4_allows hN (by omega) hinv.1) cwX5_177 rfl (rm_ok hR (by decide) (by decide)) (Nat.le_of_ble_eq_true rfl) dX5_extendWay_93 ?_
        refine V_if_eq X 116 dX5_extendWay_96 (by decide) (fun h96 => ?_) (fun h96 => ?_)
        · have h96 : alF S1 s (lg s ch i j) = 0 := h96
          refine V_iinc X (nI (_ + 1)) dX5_extendWay_116 (by rw [hR.2]; decide) rfl (nI_add _ 1) ?_
          refine V_goto X 56 dX5_extendWay_119 (by decide) ?_
          exact ih (j + 1) _ _ _ (by omega) (by omega) hinv (by rw [hnj, cin, List.cons_append, ewF, if_pos h96] at hr; exact hr)
        · have h96 : ¬ alF S1 s (lg s ch i j) = 0 := h96
          refine V_aload_n X dX5_extendWay_99 rfl ?_
          refine V_getr X flX5_19 (ltN (by decide) hN) rfl rfl dX5_extendWay_100 ?_
          refine V_iload_n X dX5_extendWay_103 rfl ?_
          refine V_iconst X (nI 1) dX5_extendWay_104 (by decide) ?_
          refine V_addN X dX5_extendWay_105 ?_
          refine V_iload X dX5_extendWay_106 rfl ?_
          refine V_cvi X (ltN (by decide) hN) rfl rfl rfl (kX3_add hN (by omega) hinv.2.1 hinv.2.2) cwX5_181 rfl (rm_ok hR (by decide) (by decide)) (Nat.le_of_ble_eq_true rfl) dX5_extendWay_108 ?_
          refine V_if_ne X 116 dX5_extendWay_111 (by decide) (fun h111 => ?_) (fun h111 => ?_)
          · have hz1 := bi_ne.mp h111
            rw [if_pos hz1]
            refine V_iinc X (nI (_ + 1)) dX5_extendWay_116 (by rw [hR.2]; decide) rfl (nI_add _ 1) ?_
            refine V_goto X 56 dX5_extendWay_119 (by decide) ?_
            exact ih (j + 1) _ _ _ (by omega) (by omega) (ewI_s hinv hz1) (by rw [hnj, cin, List.cons_append, ewF, if_neg h96, if_pos hz1] at hr; exact hr)
          · have hz0 := bi_eq.mp (ts_nn h111)
            rw [if_neg hz0]
            refine V_iconst X (nI 0) dX5_extendWay_114 (by decide) ?_
            exact V_zret X E dX5_extendWay_115 (by first | exact Or.inl rfl | exact Or.inr rfl) (by rw [hnj, cin, List.cons_append, ewF, if_neg h96, if_neg hz0] at hr; rw [← hr]; rfl) (by rw [hnj, cin, List.cons_append, ewF, if_neg h96, if_neg hz0] at hr; rw [← hr])
  have loopB : ∀ (f i : Nat) (S1 : Sx) (z : Nat) (u w : Option Value), i ≤ ns → ns - i < f → ewI S1 s z → ewF s (cou s ch nr (ns - i) i) S1 z = R → V F G S1 47 [some (ra G 0), some (.int (nI s)), some (.int ch), some (.int (nI ns)), some (.int (nI nr)), some (.int (nI i)), u, w] [] := by
    intro f
    induction f with
    | zero => intro i S1 z u w h1 h2; omega
    | succ f ih =>
      intro i S1 z u w h1 h2 hinv hr
      refine V_iload X dX5_extendWay_47 rfl ?_
      refine V_iload_n X dX5_extendWay_49 rfl ?_
      refine V_cN_ge X 128 (by omega) (by omega) dX5_extendWay_50 (by decide) (fun h50 => ?_) (fun h50 => ?_)
      · refine V_iconst X (nI 1) dX5_extendWay_128 (by decide) ?_
        exact V_zret X E dX5_extendWay_129 (by first | exact Or.inl rfl | exact Or.inr rfl) (by rw [show ns - i = 0 by omega, cou, ewF] at hr; rw [← hr]; rfl) (by rw [show ns - i = 0 by omega, cou, ewF] at hr; rw [← hr])
      · refine V_iconst X (nI 0) dX5_extendWay_53 (by decide) ?_
        refine V_istore X dX5_extendWay_54 (by rw [hR.2]; decide) ?_
        refine loopA i h50 (fun S2 z2 u2 w2 hinv2 hr2 => ?_) (nr + 1) 0 S1 z w (by omega) (by omega) hinv (by rw [show ns - i = (ns - (i + 1)) + 1 by omega, cou] at hr; exact hr)
        refine V_iinc X (nI (_ + 1)) dX5_extendWay_122 (by rw [hR.2]; decide) rfl (nI_add _ 1) ?_
        refine V_goto X 47 dX5_extendWay_125 (by decide) ?_
        exact ih (i + 1) _ _ _ _ (by omega) (by omega) hinv2 hr2
  refine V_aload_n X dX5_extendWay_0 rfl ?_
  refine V_getr X flX5_12 (ltN (by decide) hN) rfl rfl dX5_extendWay_1 ?_
  refine V_iload_n X dX5_extendWay_4 rfl ?_
  refine V_iconst X (nI 0) dX5_extendWay_5 (by decide) ?_
  refine V_cvi X (ltN (by decide) hN) rfl rfl rfl (kX2_mayMean hN (by omega) (by omega)) cwX5_163 rfl (rm_ok hR (by decide) (by decide)) (Nat.le_of_ble_eq_true rfl) dX5_extendWay_6 ?_
  refine V_csi X (kJ6_bitCount_0f7a4 ) cwX5_166 rfl (rm_ok hR (by decide) (by decide)) (Nat.le_of_ble_eq_true rfl) dX5_extendWay_9 ?_
  refine V_top (nI (ns)) (hns) ?_
  refine V_istore_n X dX5_extendWay_12 (by rw [hR.2]; decide) ?_
  refine V_aload_n X dX5_extendWay_13 rfl ?_
  refine V_getr X flX5_12 (ltN (by decide) hN) rfl rfl dX5_extendWay_14 ?_
  refine V_iload_n X dX5_extendWay_17 rfl ?_
  refine V_cvi X (ltN (by decide) hN) rfl rfl rfl (kX2_verb hN (by omega)) cwX5_171 rfl (rm_ok hR (by decide) (by decide)) (Nat.le_of_ble_eq_true rfl) dX5_extendWay_18 ?_
  refine V_bipush X (nI 33) dX5_extendWay_21 (by decide) ?_
  refine V_icmp_ne X 41 dX5_extendWay_23 (by decide) (fun h23 => ?_) (fun h23 => ?_)
  · refine V_iconst X (nI 1) dX5_extendWay_41 (by decide) ?_
    refine V_top (nI (nr)) (by rw [if_neg h23] at hnr; exact hnr) ?_
    refine V_istore X dX5_extendWay_42 (by rw [hR.2]; decide) ?_
    refine V_iconst X (nI 0) dX5_extendWay_44 (by decide) ?_
    refine V_istore X dX5_extendWay_45 (by rw [hR.2]; decide) ?_
    exact loopB (ns + 1) 0 S z none none (by omega) (by omega) hinv hR0
  · refine V_aload_n X dX5_extendWay_26 rfl ?_
    refine V_getr X flX5_12 (ltN (by decide) hN) rfl rfl dX5_extendWay_27 ?_
    refine V_iload_n X dX5_extendWay_30 rfl ?_
    refine V_iconst X (nI 1) dX5_extendWay_31 (by decide) ?_
    refine V_cvi X (ltN (by decide) hN) rfl rfl rfl (kX2_mayMean hN (by omega) (by omega)) cwX5_163 rfl (rm_ok hR (by decide) (by decide)) (Nat.le_of_ble_eq_true rfl) dX5_extendWay_32 ?_
    refine V_csi X (kJ6_bitCount_0f7a4 ) cwX5_166 rfl (rm_ok hR (by decide) (by decide)) (Nat.le_of_ble_eq_true rfl) dX5_extendWay_35 ?_
    refine V_top (nI (nr)) (by rw [if_pos (ts_nn h23)] at hnr; exact hnr) ?_
    refine V_goto X 42 dX5_extendWay_38 (by decide) ?_
    refine V_istore X dX5_extendWay_42 (by rw [hR.2]; decide) ?_
    refine V_iconst X (nI 0) dX5_extendWay_44 (by decide) ?_
    refine V_istore X dX5_extendWay_45 (by rw [hR.2]; decide) ?_
    exact loopB (ns + 1) 0 S z none none (by omega) (by omega) hinv hR0

theorem ewF_keep (s : Nat) : ∀ (l : List Int32) (S : Sx) (z : Nat) (q : Nat), q ≠ 6 → q ≠ 20 + (s + 1) → (ewF s l S z).1 q = S q
  | [], S, z, q, _, _ => rfl
  | c :: l, S, z, q, h1, h2 => by
    unfold ewF; split
    · exact ewF_keep s l S z q h1 h2
    · split
      · exact (ewF_keep s l _ _ q h1 h2).trans (adS_ne h1 h2)
      · rfl
theorem ewF_6 (s : Nat) : ∀ (l : List Int32) (S : Sx) (z : Nat) (j : Nat), j ≠ s + 1 → (ewF s l S z).1 6 j = S 6 j
  | [], S, z, j, _ => rfl
  | c :: l, S, z, j, h => by
    unfold ewF; split
    · exact ewF_6 s l S z j h
    · split
      · rw [ewF_6 s l _ _ j h, adS_6, if_neg h]
      · rfl
theorem ewF_z (s : Nat) : ∀ (l : List Int32) (S : Sx) (z : Nat), S 6 (s + 1) = nI z → z ≤ 64 → (ewF s l S z).1 6 (s + 1) = nI (ewF s l S z).2.1 ∧ (ewF s l S z).2.1 ≤ 64
  | [], S, z, h, hz => ⟨h, hz⟩
  | c :: l, S, z, h, hz => by
    unfold ewF; split
    · exact ewF_z s l S z h hz
    · split
      · exact ewF_z s l _ _ (by rw [adS_6, if_pos rfl]) (by omega)
      · exact ⟨h, hz⟩
def ews (s ns nr : Nat) : Nat → Nat → Sx → Nat → Sx × Nat × Bool
  | 0, _, S, z => (S, z, true)
  | m + 1, r, S, z => if (ewF s (cou s (S (20 + s) r) nr ns 0) (goT S (S (20 + s) r) s) z).2.2 then ews s ns nr m (r + 1) (ewF s (cou s (S (20 + s) r) nr ns 0) (goT S (S (20 + s) r) s) z).1 (ewF s (cou s (S (20 + s) r) nr ns 0) (goT S (S (20 + s) r) s) z).2.1 else ewF s (cou s (S (20 + s) r) nr ns 0) (goT S (S (20 + s) r) s) z
/-- what holds before each way that is made longer -/
def ewJ (S0 S : Sx) (s zs z : Nat) : Prop := S 2 = S0 2 ∧ S 3 = S0 3 ∧ S 6 s = nI zs ∧ S 6 (s + 1) = nI z ∧ z ≤ 64
theorem ewJ_I {S0 S : Sx} {s zs z : Nat} (c : Int32) (h : ewJ S0 S s zs z) (ok : okS S0 s) : ewI (goT S c s) s z :=
  ⟨okS_congr (by rw [goT_ne (by omega), h.1]) (by rw [goT_ne (by omega), h.2.1]) ok, by rw [goT_ne (by omega)]; exact h.2.2.2.1, h.2.2.2.2⟩
theorem ewJ_s {S0 S : Sx} {s zs z : Nat} (c : Int32) (l : List Int32) (h : ewJ S0 S s zs z) : ewJ S0 (ewF s l (goT S c s) z).1 s zs (ewF s l (goT S c s) z).2.1 := by
  obtain ⟨h1, h2, h3, h4, h5⟩ := h
  have h4' : goT S c s 6 (s + 1) = nI z := by rw [goT_ne (by omega)]; exact h4
  exact ⟨by rw [ewF_keep s _ _ _ 2 (by omega) (by omega), goT_ne (by omega), h1], by rw [ewF_keep s _ _ _ 3 (by omega) (by omega), goT_ne (by omega), h2], by rw [ewF_6 s _ _ _ s (by omega), goT_ne (by omega)]; exact h3, (ewF_z s l _ z h4' h5).1, (ewF_z s l _ z h4' h5).2⟩

set_option maxRecDepth 100000 in
set_option maxHeartbeats 4000000 in
theorem kX5_extendWays {G : Cx} {S : Sx} (hN : 80 ≤ gN G) {s ns nr zs : Nat} {R : Sx × Nat × Bool} (hs : s ≤ 13) (hzs : S 6 s = nI zs) (hzs64 : zs ≤ 64) (hok : ∀ t, t ≤ s → okS S t) (hns : bcF (S 3 (2 * s + 0)) = nI ns) (hnr : (if S 2 (s * 5 + 1) = nI 33 then bcF (S 3 (2 * s + 1)) else nI 1) = nI nr) (hns8 : ns ≤ 8) (hnr8 : nr ≤ 8) (hR0 : ews s ns nr zs 0 (st S 6 (s + 1) (nI 0)) 0 = R) : CT G (5) yX5_extendWays cX5_extendWays 4 (some .boolean) [ra G 0, .int (nI s)] S (bb (R.2.2 && decide (0 < R.2.1))) (R.1) := by
  refine CT_of (by decide) (Nat.le_of_ble_eq_true rfl) (by intro v hv; simp only [List.mem_cons, List.not_mem_nil, or_false] at hv; rcases hv with rfl | rfl <;> rfl) (fun F X E => ?_)
  have hR := RI_R E
  have loop : ∀ (f r : Nat) (S1 : Sx) (z : Nat) (w : Option Value), r ≤ zs → zs - r < f → ewJ S S1 s zs z → ews s ns nr (zs - r) r S1 z = R → V F G S1 12 [some (ra G 0), some (.int (nI s)), some (.int (nI r)), w] [] := by
    intro f
    induction f with
    | zero => intro r S1 z w h1 h2; omega
    | succ f ih =>
      intro r S1 z w h1 h2 hj hr
      refine V_iload_n X dX5_extendWays_12 rfl ?_
      refine V_aload_n X dX5_extendWays_13 rfl ?_
      refine V_getr X flX5_19 (ltN (by decide) hN) rfl rfl dX5_extendWays_14 ?_
      refine V_iload_n X dX5_extendWays_17 rfl ?_
      refine V_cvi X (ltN (by decide) hN) rfl rfl rfl (kX3_size hN (by omega)) cwX5_69 rfl (rm_ok hR (by decide) (by decide)) (Nat.le_of_ble_eq_true rfl) dX5_extendWays_18 ?_
      refine V_top (nI (zs)) (hj.2.2.1) ?_
      refine V_cN_ge X 64 (by (have := hj.2.2.2.2; omega)) (by (have := hj.2.2.2.2; omega)) dX5_extendWays_21 (by decide) (fun h21 => ?_) (fun h21 => ?_)
      · refine V_aload_n X dX5_extendWays_64 rfl ?_
        refine V_getr X flX5_19 (ltN (by decide) hN) rfl rfl dX5_extendWays_65 ?_
        refine V_iload_n X dX5_extendWays_68 rfl ?_
        refine V_iconst X (nI 1) dX5_extendWays_69 (by decide) ?_
        refine V_addN X dX5_extendWays_70 ?_
        refine V_cvi X (ltN (by decide) hN) rfl rfl rfl (kX3_size hN (by omega)) cwX5_69 rfl (rm_ok hR (by decide) (by decide)) (Nat.le_of_ble_eq_true rfl) dX5_extendWays_71 ?_
        refine V_top (nI (z)) (hj.2.2.2.1) ?_
        refine V_iN_le X 81 (by (have := hj.2.2.2.2; omega)) dX5_extendWays_74 (by decide) (fun h74 => ?_) (fun h74 => ?_)
        · refine V_iconst X (nI 0) dX5_extendWays_81 (by decide) ?_
          exact V_zret X E dX5_extendWays_82 (by first | exact Or.inl rfl | exact Or.inr rfl | exact bi_01 _) (by rw [show zs - r = 0 by omega, ews] at hr; rw [← hr]; first | (rw [show decide (0 < z) = true from decide_eq_true h74]; rfl) | (rw [show decide (0 < z) = false from decide_eq_false (by omega)]; rfl)) (by rw [show zs - r = 0 by omega, ews] at hr; rw [← hr])
        · refine V_iconst X (nI 1) dX5_extendWays_77 (by decide) ?_
          refine V_goto X 82 dX5_extendWays_78 (by decide) ?_
          exact V_zret X E dX5_extendWays_82 (by first | exact Or.inl rfl | exact Or.inr rfl | exact bi_01 _) (by rw [show zs - r = 0 by omega, ews] at hr; rw [← hr]; first | (rw [show decide (0 < z) = true from decide_eq_true h74]; rfl) | (rw [show decide (0 < z) = false from decide_eq_false (by omega)]; rfl)) (by rw [show zs - r = 0 by omega, ews] at hr; rw [← hr])
      · have hm : zs - r = (zs - (r + 1)) + 1 := by omega
        refine V_aload_n X dX5_extendWays_24 rfl ?_
        refine V_getr X flX5_19 (ltN (by decide) hN) rfl rfl dX5_extendWays_25 ?_
        refine V_iload_n X dX5_extendWays_28 rfl ?_
        refine V_iload_n X dX5_extendWays_29 rfl ?_
        refine V_cvi X (ltN (by decide) hN) rfl rfl rfl (kX3_choices hN (by omega) (by omega)) cwX5_80 rfl (rm_ok hR (by decide) (by decide)) (Nat.le_of_ble_eq_true rfl) dX5_extendWays_30 ?_
        refine V_istore_n X dX5_extendWays_33 (by rw [hR.2]; decide) ?_
        refine V_aload_n X dX5_extendWays_34 rfl ?_
        refine V_getr X flX5_26 (ltN (by decide) hN) rfl rfl dX5_extendWays_35 ?_
        refine V_aload_n X dX5_extendWays_38 rfl ?_
        refine V_getr X flX5_12 (ltN (by decide) hN) rfl rfl dX5_extendWays_39 ?_
        refine V_iload_n X dX5_extendWays_42 rfl ?_
        refine V_iload_n X dX5_extendWays_43 rfl ?_
        refine V_cvv X (ltN (by decide) hN) rfl rfl rfl (kX4_goThrough hN (by omega) (fun t ht => okS_congr hj.1 hj.2.1 (hok t (by omega)))) cwX5_97 rfl (rm_ok hR (by decide) (by decide)) (Nat.le_of_ble_eq_true rfl) dX5_extendWays_44 ?_
        refine V_aload_n X dX5_extendWays_47 rfl ?_
        refine V_iload_n X dX5_extendWays_48 rfl ?_
        refine V_iload_n X dX5_extendWays_49 rfl ?_
        refine V_cvi X (ltN (by decide) hN) rfl rfl rfl (kX5_extendWay hN hs (by rw [goT_ne (by omega), hj.2.1]; exact hns) (by rw [goT_ne (by omega), goT_ne (by omega), hj.1, hj.2.1]; exact hnr) hns8 hnr8 (ewJ_I _ hj (hok s (by omega))) rfl) cwX5_160 rfl (rm_ok hR (by decide) (by decide)) (Nat.le_of_ble_eq_true rfl) dX5_extendWays_50 ?_
        refine V_if_ne X 58 dX5_extendWays_53 (by decide) (fun h53 => ?_) (fun h53 => ?_)
        · refine V_iinc X (nI (_ + 1)) dX5_extendWays_58 (by rw [hR.2]; decide) rfl (nI_add _ 1) ?_
          refine V_goto X 12 dX5_extendWays_61 (by decide) ?_
          exact ih (r + 1) _ _ _ (by omega) (by omega) (ewJ_s _ _ hj) (by rw [hm, ews, if_pos (bb_n.mp h53)] at hr; exact hr)
        · refine V_iconst X (nI 0) dX5_extendWays_56 (by decide) ?_
          exact V_zret X E dX5_extendWays_57 (by first | exact Or.inl rfl | exact Or.inr rfl | exact bi_01 _) (by rw [hm, ews, if_neg (by rw [bb_0.mp (ts_nn h53)]; decide)] at hr; rw [← hr]; rw [bb_0.mp (ts_nn h53)]; rfl) (by rw [hm, ews, if_neg (by rw [bb_0.mp (ts_nn h53)]; decide)] at hr; rw [← hr])
  refine V_aload_n X dX5_extendWays_0 rfl ?_
  refine V_getr X flX5_19 (ltN (by decide) hN) rfl rfl dX5_extendWays_1 ?_
  refine V_iload_n X dX5_extendWays_4 rfl ?_
  refine V_iconst X (nI 1) dX5_extendWays_5 (by decide) ?_
  refine V_addN X dX5_extendWays_6 ?_
  refine V_cvv X (ltN (by decide) hN) rfl rfl rfl (kX3_clear hN (by omega)) cwX5_158 rfl (rm_ok hR (by decide) (by decide)) (Nat.le_of_ble_eq_true rfl) dX5_extendWays_7 ?_
  refine V_iconst X (nI 0) dX5_extendWays_10 (by decide) ?_
  refine V_istore_n X dX5_extendWays_11 (by rw [hR.2]; decide) ?_
  exact loop (zs + 1) 0 _ 0 none (by omega) (by omega) ⟨rfl, rfl, by rw [st_at, if_neg (by omega)]; exact hzs, by rw [st_at, if_pos ⟨rfl, rfl⟩], by omega⟩ hR0

def castF (S : Sx) (n : Nat) : Sx := st (st S 3 (2 * n + 0) (cnd (S 2) n (S 2 (n * 5)))) 3 (2 * n + 1) (if S 2 (n * 5 + 1) = nI 33 then cnd (S 2) n (S 2 (n * 5 + 3)) else nI 0)
theorem castF_ne {S : Sx} {n q : Nat} (h : q ≠ 3) : castF S n q = S q := by unfold castF; rw [st_ne h, st_ne h]
def clsF (S : Sx) (n : Nat) : Sx := st (st S 1 3 (nI 0)) 1 2 (nI (n + 1))
theorem clsF_ne {S : Sx} {n q : Nat} (h : q ≠ 1) : clsF S n q = S q := by unfold clsF; rw [st_ne h, st_ne h]
theorem ews_J {S0 : Sx} {s ns nr zs : Nat} : ∀ (m r : Nat) (S : Sx) (z : Nat), ewJ S0 S s zs z → ewJ S0 (ews s ns nr m r S z).1 s zs (ews s ns nr m r S z).2.1
  | 0, _, _, _, h => h
  | m + 1, r, S, z, h => by
    unfold ews; split
    · exact ews_J m _ _ _ (ewJ_s _ _ h)
    · exact ewJ_s _ _ h
theorem ews_keep {s ns nr : Nat} {q : Nat} (h1 : q ≠ 6) (h2 : q ≠ 20 + (s + 1)) (h3 : q < 8 ∨ 13 < q) : ∀ (m r : Nat) (S : Sx) (z : Nat), (ews s ns nr m r S z).1 q = S q
  | 0, _, _, _ => rfl
  | m + 1, r, S, z => by
    unfold ews; split
    · rw [ews_keep h1 h2 h3 m, ewF_keep s _ _ _ q h1 h2, goT_ne h3]
    · rw [ewF_keep s _ _ _ q h1 h2, goT_ne h3]
/-- what finishing a sentence leaves -/
def fnS (R : Sx × Nat × Bool) (n : Nat) : Sx := if (R.2.2 && decide (0 < R.2.1)) = true then clF (faS (clsF R.1 n) (n + 1) R.2.1) (n + 1) 36 else st R.1 1 3 (nI 0)

set_option maxRecDepth 100000 in
set_option maxHeartbeats 4000000 in
theorem kX5_finishSentence {G : Cx} {S : Sx} (hN : 80 ≤ gN G) {n ns nr zs : Nat} {R : Sx × Nat × Bool} (hn : S 1 2 = nI n) (hn13 : n ≤ 13) (hzs : S 6 n = nI zs) (hzs64 : zs ≤ 64) (hok : ∀ t, t ≤ n → okS (castF S n) t) (hns : bcF (castF S n 3 (2 * n + 0)) = nI ns) (hnr : (if S 2 (n * 5 + 1) = nI 33 then bcF (castF S n 3 (2 * n + 1)) else nI 1) = nI nr) (hns8 : ns ≤ 8) (hnr8 : nr ≤ 8) (hR0 : ews n ns nr zs 0 (st (castF S n) 6 (n + 1) (nI 0)) 0 = R) : CT G (6) yX5_finishSentence cX5_finishSentence 1 (some .boolean) [ra G 0] S (bb (R.2.2 && decide (0 < R.2.1))) (fnS R n) := by
  have hJ : ewJ (castF S n) R.1 n zs R.2.1 := by
    rw [← hR0]; exact ews_J zs 0 _ 0 ⟨rfl, rfl, by rw [st_at, if_neg (by omega), castF_ne (by decide)]; exact hzs, by rw [st_at, if_pos ⟨rfl, rfl⟩], by omega⟩
  have h1 : R.1 1 = S 1 := by rw [← hR0, ews_keep (by omega) (by omega) (by omega), st_ne (by decide), castF_ne (by decide)]
  refine CT_of (by decide) (Nat.le_of_ble_eq_true rfl) (by intro v hv; simp only [List.mem_cons, List.not_mem_nil, or_false] at hv; rcases hv with rfl <;> rfl) (fun F X E => ?_)
  have hR := RI_R E
  refine V_aload_n X dX5_finishSentence_0 rfl ?_
  refine V_getr X flX5_12 (ltN (by decide) hN) rfl rfl dX5_finishSentence_1 ?_
  refine V_cvv X (ltN (by decide) hN) rfl rfl rfl (kX2_cast hN hn hn13) cwX5_146 rfl (rm_ok hR (by decide) (by decide)) (Nat.le_of_ble_eq_true rfl) dX5_finishSentence_4 ?_
  refine V_aload_n X dX5_finishSentence_7 rfl ?_
  refine V_aload_n X dX5_finishSentence_8 rfl ?_
  refine V_getr X flX5_12 (ltN (by decide) hN) rfl rfl dX5_finishSentence_9 ?_
  refine V_getNi X fnX5_73 (ltN (by decide) hN) rfl rfl dX5_finishSentence_12 ?_
  refine V_top (nI (n)) (by first | exact hn | (show castF S n 1 2 = _; rw [castF_ne (by decide)]; exact hn)) ?_
  refine V_cvi X (ltN (by decide) hN) rfl rfl rfl (kX5_extendWays hN hn13 (by show castF S n 6 n = _; rw [castF_ne (by decide)]; exact hzs) hzs64 hok hns (by show (if castF S n 2 (n * 5 + 1) = nI 33 then _ else _) = _; rw [castF_ne (by decide)]; exact hnr) hns8 hnr8 hR0) cwX5_149 rfl (rm_ok hR (by decide) (by decide)) (Nat.le_of_ble_eq_true rfl) dX5_finishSentence_15 ?_
  refine V_if_ne X 30 dX5_finishSentence_18 (by decide) (fun h18 => ?_) (fun h18 => ?_)
  · refine V_aload_n X dX5_finishSentence_30 rfl ?_
    refine V_getr X flX5_12 (ltN (by decide) hN) rfl rfl dX5_finishSentence_31 ?_
    refine V_cvv X (ltN (by decide) hN) rfl rfl rfl (kX2_closeBegun hN (by rw [h1]; exact hn)) cwX5_155 rfl (rm_ok hR (by decide) (by decide)) (Nat.le_of_ble_eq_true rfl) dX5_finishSentence_34 ?_
    refine V_aload_n X dX5_finishSentence_37 rfl ?_
    refine V_aload_n X dX5_finishSentence_38 rfl ?_
    refine V_getr X flX5_12 (ltN (by decide) hN) rfl rfl dX5_finishSentence_39 ?_
    refine V_getNi X fnX5_73 (ltN (by decide) hN) rfl rfl dX5_finishSentence_42 ?_
    refine V_top (nI (n + 1)) (rfl) ?_
    refine V_cvv X (ltN (by decide) hN) rfl rfl rfl (kX5_findAnswers hN (by omega) (by show clsF R.1 n 6 (n + 1) = _; rw [clsF_ne (by decide)]; exact hJ.2.2.2.1) hJ.2.2.2.2 (fun t ht => okS_congr (by show clsF R.1 n 2 = _; rw [clsF_ne (by decide)]; exact hJ.1) (by show clsF R.1 n 3 = _; rw [clsF_ne (by decide)]; exact hJ.2.1) (hok t (by omega)))) cwX5_44 rfl (rm_ok hR (by decide) (by decide)) (Nat.le_of_ble_eq_true rfl) dX5_finishSentence_45 ?_
    refine V_iconst X (nI 1) dX5_finishSentence_48 (by decide) ?_
    exact V_zret X E dX5_finishSentence_49 (by first | exact Or.inl rfl | exact Or.inr rfl) (by rw [bb_n.mp h18]; rfl) (by unfold fnS; rw [if_pos (bb_n.mp h18)]; rfl)
  · refine V_aload_n X dX5_finishSentence_21 rfl ?_
    refine V_getr X flX5_12 (ltN (by decide) hN) rfl rfl dX5_finishSentence_22 ?_
    refine V_cvv X (ltN (by decide) hN) rfl rfl rfl (kX2_forgetBegun hN) cwX5_152 rfl (rm_ok hR (by decide) (by decide)) (Nat.le_of_ble_eq_true rfl) dX5_finishSentence_25 ?_
    refine V_iconst X (nI 0) dX5_finishSentence_28 (by decide) ?_
    exact V_zret X E dX5_finishSentence_29 (by first | exact Or.inl rfl | exact Or.inr rfl) (by rw [bb_0.mp (ts_nn h18)]; rfl) (by unfold fnS; rw [if_neg (by rw [bb_0.mp (ts_nn h18)]; decide)])

