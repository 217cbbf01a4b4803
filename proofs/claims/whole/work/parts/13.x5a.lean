abbrev pfP (n : Nat) (x : Int32) : Prop := 0 ≤ x.toInt ∧ x.toInt ≤ n
abbrev rdP (z : Nat) (x : Int32) : Prop := 0 ≤ x.toInt ∧ x.toInt < z
theorem pf_nat {n : Nat} {x : Int32} (hn : n < 2147483648) (h : pfP n x) : ∃ k, k ≤ n ∧ x = nI k := ⟨x.toInt.toNat, by have := h.1; have := h.2; omega, i_of (by have := h.1; omega) (by have := h.1; have := h.2; omega)⟩
theorem rd_nat {n : Nat} {x : Int32} (hn : n < 2147483648) (h : rdP n x) : ∃ k, k < n ∧ x = nI k := ⟨x.toInt.toNat, by have := h.1; have := h.2; omega, i_of (by have := h.1; omega) (by have := h.1; have := h.2; omega)⟩
theorem gek {x : Int32} {k : Nat} (hk : k < 2147483648) (h : nI k ≤ x) : (k : Int) ≤ x.toInt := by have := i_le.mp h; rwa [t_k k hk] at this
theorem ngek {x : Int32} {k : Nat} (hk : k < 2147483648) (h : ¬ nI k ≤ x) : x.toInt < (k : Int) := by rw [i_le, t_k k hk] at h; omega

set_option maxRecDepth 100000 in
set_option maxHeartbeats 4000000 in
theorem kX5_hasPrefix {G : Cx} {S : Sx} (hN : 80 ≤ gN G) {x : Int32} {n : Nat} (hn : S 1 2 = nI n) (hn14 : n ≤ 14) : CT G (0) yX5_hasPrefix cX5_hasPrefix 2 (some .boolean) [ra G 0, .int x] S (bi (pfP n x)) (S) := by
  refine CT_of (by decide) (Nat.le_of_ble_eq_true rfl) (by intro v hv; simp only [List.mem_cons, List.not_mem_nil, or_false] at hv; rcases hv with rfl | rfl <;> rfl) (fun F X E => ?_)
  have hR := RI_R E
  refine V_iload_n X dX5_hasPrefix_0 rfl ?_
  refine V_if_lt X 19 dX5_hasPrefix_1 (by decide) (fun h1 => ?_) (fun h1 => ?_)
  · refine V_iconst X (nI 0) dX5_hasPrefix_19 (by decide) ?_
    exact V_zret X E dX5_hasPrefix_20 (by first | exact Or.inl rfl | exact Or.inr rfl | exact bi_01 _) (bi_f (fun q => by have := lt0 h1; have := q.1; omega)) rfl
  · refine V_iload_n X dX5_hasPrefix_4 rfl ?_
    refine V_aload_n X dX5_hasPrefix_5 rfl ?_
    refine V_getr X flX5_12 (ltN (by decide) hN) rfl rfl dX5_hasPrefix_6 ?_
    refine V_getNi X fnX5_73 (ltN (by decide) hN) rfl rfl dX5_hasPrefix_9 ?_
    refine V_top (nI (n)) (by first | exact hn | (simp only [st_at]; simp; exact hn)) ?_
    refine V_icmp_gt X 19 dX5_hasPrefix_12 (by decide) (fun h12 => ?_) (fun h12 => ?_)
    · refine V_iconst X (nI 0) dX5_hasPrefix_19 (by decide) ?_
      exact V_zret X E dX5_hasPrefix_20 (by first | exact Or.inl rfl | exact Or.inr rfl | exact bi_01 _) (by first | exact bi_t ⟨nlt0 h1, ngtk (by omega) h12⟩ | exact bi_f (fun q => by have := gtk (by omega) h12; have := q.2; omega)) rfl
    · refine V_iconst X (nI 1) dX5_hasPrefix_15 (by decide) ?_
      refine V_goto X 20 dX5_hasPrefix_16 (by decide) ?_
      exact V_zret X E dX5_hasPrefix_20 (by first | exact Or.inl rfl | exact Or.inr rfl | exact bi_01 _) (by first | exact bi_t ⟨nlt0 h1, ngtk (by omega) h12⟩ | exact bi_f (fun q => by have := gtk (by omega) h12; have := q.2; omega)) rfl

set_option maxRecDepth 100000 in
set_option maxHeartbeats 4000000 in
theorem kX5_hasReading {G : Cx} {S : Sx} (hN : 80 ≤ gN G) {x : Int32} {n z : Nat} (hn : S 1 2 = nI n) (hn14 : n ≤ 14) (hz : S 6 n = nI z) (hz64 : z ≤ 64) : CT G (1) yX5_hasReading cX5_hasReading 2 (some .boolean) [ra G 0, .int x] S (bi (rdP z x)) (S) := by
  refine CT_of (by decide) (Nat.le_of_ble_eq_true rfl) (by intro v hv; simp only [List.mem_cons, List.not_mem_nil, or_false] at hv; rcases hv with rfl | rfl <;> rfl) (fun F X E => ?_)
  have hR := RI_R E
  refine V_iload_n X dX5_hasReading_0 rfl ?_
  refine V_if_lt X 26 dX5_hasReading_1 (by decide) (fun h1 => ?_) (fun h1 => ?_)
  · refine V_iconst X (nI 0) dX5_hasReading_26 (by decide) ?_
    exact V_zret X E dX5_hasReading_27 (by first | exact Or.inl rfl | exact Or.inr rfl | exact bi_01 _) (bi_f (fun q => by have := lt0 h1; have := q.1; omega)) rfl
  · refine V_iload_n X dX5_hasReading_4 rfl ?_
    refine V_aload_n X dX5_hasReading_5 rfl ?_
    refine V_getr X flX5_19 (ltN (by decide) hN) rfl rfl dX5_hasReading_6 ?_
    refine V_aload_n X dX5_hasReading_9 rfl ?_
    refine V_getr X flX5_12 (ltN (by decide) hN) rfl rfl dX5_hasReading_10 ?_
    refine V_getNi X fnX5_73 (ltN (by decide) hN) rfl rfl dX5_hasReading_13 ?_
    refine V_top (nI (n)) (by first | exact hn | (simp only [st_at]; simp; exact hn)) ?_
    refine V_cvi X (ltN (by decide) hN) rfl rfl rfl (kX3_size hN (by omega)) cwX5_69 rfl (rm_ok hR (by decide) (by decide)) (Nat.le_of_ble_eq_true rfl) dX5_hasReading_16 ?_
    refine V_top (nI (z)) (hz) ?_
    refine V_icmp_ge X 26 dX5_hasReading_19 (by decide) (fun h19 => ?_) (fun h19 => ?_)
    · refine V_iconst X (nI 0) dX5_hasReading_26 (by decide) ?_
      exact V_zret X E dX5_hasReading_27 (by first | exact Or.inl rfl | exact Or.inr rfl | exact bi_01 _) (by first | exact bi_t ⟨nlt0 h1, ngek (by omega) h19⟩ | exact bi_f (fun q => by have := gek (by omega) h19; have := q.2; omega)) rfl
    · refine V_iconst X (nI 1) dX5_hasReading_22 (by decide) ?_
      refine V_goto X 27 dX5_hasReading_23 (by decide) ?_
      exact V_zret X E dX5_hasReading_27 (by first | exact Or.inl rfl | exact Or.inr rfl | exact bi_01 _) (by first | exact bi_t ⟨nlt0 h1, ngek (by omega) h19⟩ | exact bi_f (fun q => by have := gek (by omega) h19; have := q.2; omega)) rfl

set_option maxRecDepth 100000 in
set_option maxHeartbeats 4000000 in
theorem kX5_rightAnswer {G : Cx} {S : Sx} (hN : 80 ≤ gN G) {q n : Nat} (hn : S 1 2 = nI n) (hn14 : n ≤ 14) (hq : q < 36) : CT G (0) yX5_rightAnswer cX5_rightAnswer 2 (some .int) [ra G 0, .int (nI q)] S (S (35 + n) q) (S) := by
  refine CT_of (by decide) (Nat.le_of_ble_eq_true rfl) (by intro v hv; simp only [List.mem_cons, List.not_mem_nil, or_false] at hv; rcases hv with rfl | rfl <;> rfl) (fun F X E => ?_)
  have hR := RI_R E
  refine V_aload_n X dX5_rightAnswer_0 rfl ?_
  refine V_getr X flX5_33 (ltN (by decide) hN) rfl rfl dX5_rightAnswer_1 ?_
  refine V_getNr X fnX5_90 (ltN (by decide) hN) rfl rfl dX5_rightAnswer_4 ?_
  refine V_aload_n X dX5_rightAnswer_7 rfl ?_
  refine V_getr X flX5_12 (ltN (by decide) hN) rfl rfl dX5_rightAnswer_8 ?_
  refine V_getNi X fnX5_73 (ltN (by decide) hN) rfl rfl dX5_rightAnswer_11 ?_
  refine V_top (nI (n)) (by first | exact hn | (simp only [st_at]; simp; exact hn)) ?_
  refine V_aaldN X (ltN (by decide) hN) rfl (by omega) dX5_rightAnswer_14 ?_
  refine V_iload_n X dX5_rightAnswer_15 rfl ?_
  refine V_ialdN X (ltN (by omega) hN) (ds_fnd (by omega) (by omega)) (by omega) (by decide) dX5_rightAnswer_16 ?_
  exact V_iret X E dX5_rightAnswer_17 rfl rfl

def waF (S : Sx) (q : Nat) (x : Int32) (n : Nat) : Bool := (List.range n).any (fun k => decide (S (35 + k) q = x))
theorem waF_t {S : Sx} {q n i : Nat} {x : Int32} (h : i < n) (e : S (35 + i) q = x) : waF S q x n = true := List.any_eq_true.mpr ⟨i, List.mem_range.mpr h, decide_eq_true e⟩
theorem waF_f {S : Sx} {q n : Nat} {x : Int32} (h : ∀ i, i < n → ¬ S (35 + i) q = x) : waF S q x n = false := by
  rw [← Bool.not_eq_true]; intro z
  obtain ⟨i, hi, e⟩ := List.any_eq_true.mp z
  exact h i (List.mem_range.mp hi) (of_decide_eq_true e)

set_option maxRecDepth 100000 in
set_option maxHeartbeats 4000000 in
theorem kX5_wasAnswer {G : Cx} {S : Sx} (hN : 80 ≤ gN G) {q n : Nat} {x : Int32} (hn : S 1 2 = nI n) (hn14 : n ≤ 14) (hq : q < 36) : CT G (0) yX5_wasAnswer cX5_wasAnswer 4 (some .boolean) [ra G 0, .int (nI q), .int x] S (bb (waF S q x n)) (S) := by
  refine CT_of (by decide) (Nat.le_of_ble_eq_true rfl) (by intro v hv; simp only [List.mem_cons, List.not_mem_nil, or_false] at hv; rcases hv with rfl | rfl | rfl <;> rfl) (fun F X E => ?_)
  have hR := RI_R E
  have loop : ∀ (f i : Nat), i ≤ n → n - i < f → (∀ j, j < i → ¬ S (35 + j) q = x) → V F G S 2 [some (ra G 0), some (.int (nI q)), some (.int x), some (.int (nI i))] [] := by
    intro f
    induction f with
    | zero => intro i h1 h2; omega
    | succ f ih =>
      intro i h1 h2 hall
      refine V_iload_n X dX5_wasAnswer_2 rfl ?_
      refine V_aload_n X dX5_wasAnswer_3 rfl ?_
      refine V_getr X flX5_12 (ltN (by decide) hN) rfl rfl dX5_wasAnswer_4 ?_
      refine V_getNi X fnX5_73 (ltN (by decide) hN) rfl rfl dX5_wasAnswer_7 ?_
      refine V_top (nI (n)) (by first | exact hn | (simp only [st_at]; simp; exact hn)) ?_
      refine V_cN_ge X 36 (by omega) (by omega) dX5_wasAnswer_10 (by decide) (fun h10 => ?_) (fun h10 => ?_)
      · refine V_iconst X (nI 0) dX5_wasAnswer_36 (by decide) ?_
        exact V_zret X E dX5_wasAnswer_37 (by first | exact Or.inl rfl | exact Or.inr rfl | exact bi_01 _) (by rw [waF_f (fun j hj => hall j (by omega))]; rfl) rfl
      · refine V_aload_n X dX5_wasAnswer_13 rfl ?_
        refine V_getr X flX5_33 (ltN (by decide) hN) rfl rfl dX5_wasAnswer_14 ?_
        refine V_getNr X fnX5_90 (ltN (by decide) hN) rfl rfl dX5_wasAnswer_17 ?_
        refine V_iload_n X dX5_wasAnswer_20 rfl ?_
        refine V_aaldN X (ltN (by decide) hN) rfl (by omega) dX5_wasAnswer_21 ?_
        refine V_iload_n X dX5_wasAnswer_22 rfl ?_
        refine V_ialdN X (ltN (by omega) hN) (ds_fnd (by omega) (by omega)) (by omega) (by decide) dX5_wasAnswer_23 ?_
        refine V_iload_n X dX5_wasAnswer_24 rfl ?_
        refine V_icmp_ne X 30 dX5_wasAnswer_25 (by decide) (fun h25 => ?_) (fun h25 => ?_)
        · refine V_iinc X (nI (_ + 1)) dX5_wasAnswer_30 (by rw [hR.2]; decide) rfl (nI_add _ 1) ?_
          refine V_goto X 2 dX5_wasAnswer_33 (by decide) ?_
          exact ih (i + 1) (by omega) (by omega) (fun j hj => by rcases Nat.lt_succ_iff_lt_or_eq.mp hj with z | z; exact hall j z; subst z; exact h25)
        · refine V_iconst X (nI 1) dX5_wasAnswer_28 (by decide) ?_
          exact V_zret X E dX5_wasAnswer_29 (by first | exact Or.inl rfl | exact Or.inr rfl | exact bi_01 _) (by rw [waF_t h10 (ts_nn h25)]; rfl) rfl
  refine V_iconst X (nI 0) dX5_wasAnswer_0 (by decide) ?_
  refine V_istore_n X dX5_wasAnswer_1 (by rw [hR.2]; decide) ?_
  exact loop (n + 1) 0 (by omega) (by omega) (fun j hj => absurd hj (by omega))

def cbF (r nm fs : Int32) : Nat → Nat → Int32 → Int32
  | 0, _, _ => -1
  | k + 1, b, a => if (nm >>> (nI b &&& 31)) &&& nI 1 = 0 then cbF r nm fs k (b + 1) a else if fs + nI b = r then cbF r nm fs k (b + 1) a else if a = 0 then fs + nI b else cbF r nm fs k (b + 1) (a + Int32.ofInt (-1))

set_option maxRecDepth 100000 in
set_option maxHeartbeats 4000000 in
theorem kX5_choiceBut {G : Cx} {S : Sx}  {x nm fs i r : Int32} (hr : cbF x nm fs 8 0 i = r) : CT G (0) yX5_choiceBut cX5_choiceBut 6 (some .int) [.int x, .int nm, .int fs, .int i] S (r) (S) := by
  refine CT_of (by decide) (Nat.le_of_ble_eq_true rfl) (by intro v hv; simp only [List.mem_cons, List.not_mem_nil, or_false] at hv; rcases hv with rfl | rfl | rfl | rfl <;> rfl) (fun F X E => ?_)
  have hR := RI_R E
  have loop : ∀ (k b : Nat) (a : Int32), b + k = 8 → cbF x nm fs k b a = r → V F G S 6 [some (.int x), some (.int nm), some (.int fs), some (.int i), some (.int a), some (.int (nI b))] [] := by
    intro k
    induction k with
    | zero =>
      intro b a hb hr
      refine V_iload X dX5_choiceBut_6 rfl ?_
      refine V_bipush X (nI 8) dX5_choiceBut_8 (by decide) ?_
      refine V_cN_ge X 49 (by omega) (by omega) dX5_choiceBut_10 (by decide) (fun h10 => ?_) (fun h10 => ?_)
      · refine V_iconst X (-1) dX5_choiceBut_49 (by decide) ?_
        exact V_iret X E dX5_choiceBut_50 hr rfl
      · omega
    | succ k ih =>
      intro b a hb hr
      refine V_iload X dX5_choiceBut_6 rfl ?_
      refine V_bipush X (nI 8) dX5_choiceBut_8 (by decide) ?_
      refine V_cN_ge X 49 (by omega) (by omega) dX5_choiceBut_10 (by decide) (fun h10 => ?_) (fun h10 => ?_)
      · refine V_iconst X (-1) dX5_choiceBut_49 (by decide) ?_
        exact absurd h10 (by omega)
      · refine V_iload_n X dX5_choiceBut_13 rfl ?_
        refine V_iload X dX5_choiceBut_14 rfl ?_
        refine V_ishr X dX5_choiceBut_16 ?_
        refine V_iconst X (nI 1) dX5_choiceBut_17 (by decide) ?_
        refine V_iand X dX5_choiceBut_18 ?_
        refine V_if_eq X 43 dX5_choiceBut_19 (by decide) (fun h19 => ?_) (fun h19 => ?_)
        · refine V_iinc X (nI (_ + 1)) dX5_choiceBut_43 (by rw [hR.2]; decide) rfl (nI_add _ 1) ?_
          refine V_goto X 6 dX5_choiceBut_46 (by decide) ?_
          exact ih (b + 1) _ (by omega) (by rw [← hr, cbF, if_pos h19])
        · refine V_iload_n X dX5_choiceBut_22 rfl ?_
          refine V_iload X dX5_choiceBut_23 rfl ?_
          refine V_iadd X dX5_choiceBut_25 ?_
          refine V_iload_n X dX5_choiceBut_26 rfl ?_
          refine V_icmp_eq X 43 dX5_choiceBut_27 (by decide) (fun h27 => ?_) (fun h27 => ?_)
          · refine V_iinc X (nI (_ + 1)) dX5_choiceBut_43 (by rw [hR.2]; decide) rfl (nI_add _ 1) ?_
            refine V_goto X 6 dX5_choiceBut_46 (by decide) ?_
            exact ih (b + 1) _ (by omega) (by rw [← hr, cbF, if_neg h19, if_pos h27])
          · refine V_iload X dX5_choiceBut_30 rfl ?_
            refine V_if_ne X 40 dX5_choiceBut_32 (by decide) (fun h32 => ?_) (fun h32 => ?_)
            · refine V_iinc X _ dX5_choiceBut_40 (by rw [hR.2]; decide) rfl rfl ?_
              refine V_iinc X (nI (_ + 1)) dX5_choiceBut_43 (by rw [hR.2]; decide) rfl (nI_add _ 1) ?_
              refine V_goto X 6 dX5_choiceBut_46 (by decide) ?_
              exact ih (b + 1) _ (by omega) (by rw [← hr, cbF, if_neg h19, if_neg h27, if_neg h32])
            · refine V_iload_n X dX5_choiceBut_35 rfl ?_
              refine V_iload X dX5_choiceBut_36 rfl ?_
              refine V_iadd X dX5_choiceBut_38 ?_
              exact V_iret X E dX5_choiceBut_39 (by rw [cbF, if_neg h19, if_neg h27, if_pos (ts_nn h32)] at hr; exact hr) rfl
  refine V_iload_n X dX5_choiceBut_0 rfl ?_
  refine V_istore X dX5_choiceBut_1 (by rw [hR.2]; decide) ?_
  refine V_iconst X (nI 0) dX5_choiceBut_3 (by decide) ?_
  refine V_istore X dX5_choiceBut_4 (by rw [hR.2]; decide) ?_
  exact loop 8 0 i rfl hr

def cbt (s w : Nat) (c : Int32) : Int32 := c <<< (nI (2 * s + w) &&& 31)
set_option maxRecDepth 100000 in
set_option maxHeartbeats 4000000 in
theorem kX5_choiceBit {G : Cx} {S : Sx}  {s w : Nat} {c : Int32} : CT G (0) yX5_choiceBit cX5_choiceBit 3 (some .int) [.int (nI s), .int (nI w), .int c] S (cbt s w c) (S) := by
  refine CT_of (by decide) (Nat.le_of_ble_eq_true rfl) (by intro v hv; simp only [List.mem_cons, List.not_mem_nil, or_false] at hv; rcases hv with rfl | rfl | rfl <;> rfl) (fun F X E => ?_)
  have hR := RI_R E
  refine V_iload_n X dX5_choiceBit_0 rfl ?_
  refine V_iconst X (nI 2) dX5_choiceBit_1 (by decide) ?_
  refine V_iload_n X dX5_choiceBit_2 rfl ?_
  refine V_mulN X dX5_choiceBit_3 ?_
  refine V_iload_n X dX5_choiceBit_4 rfl ?_
  refine V_addN X dX5_choiceBit_5 ?_
  refine V_ishl X dX5_choiceBit_6 ?_
  exact V_iret X E dX5_choiceBit_7 rfl rfl

def okF (k : Nat) (x : Int32) : Int32 := if k = 2 then bi (isP x ∨ x = nI 9) else if k = 3 then bi (¬ x < 0 ∧ ¬ nI 10 < x) else bi (isL x)
theorem okF_01 (k : Nat) (x : Int32) : okF k x = 0 ∨ okF k x = 1 := by unfold okF; split; exact bi_01 _; split; exact bi_01 _; exact bi_01 _
set_option maxRecDepth 100000 in
set_option maxHeartbeats 4000000 in
theorem kX5_isOfKind {G : Cx} {S : Sx} {k : Nat} {x : Int32} (hk : k < 4) : CT G 1 yX5_isOfKind cX5_isOfKind 2 (some .boolean) [.int (nI k), .int x] S (okF k x) S := by
  refine CT_of (by decide) (Nat.le_of_ble_eq_true rfl) (by intro v hv; simp only [List.mem_cons, List.not_mem_nil, or_false] at hv; rcases hv with rfl | rfl <;> rfl) (fun F X E => ?_)
  have hR := RI_R E
  refine V_iload_n X dX5_isOfKind_0 rfl ?_
  rcases (show k = 0 ∨ k = 1 ∨ k = 2 ∨ k = 3 by omega) with rfl | rfl | rfl | rfl
  · refine V_look X 62 63 dX5_isOfKind_1 (by decide) (by decide) (by decide) ?_
    refine V_iload_n X dX5_isOfKind_63 rfl ?_
    refine V_csi X (kX5_isPlace ) cwX5_196 rfl (rm_ok hR (by decide) (by decide)) (Nat.le_of_ble_eq_true rfl) dX5_isOfKind_64 ?_
    exact V_zret X E dX5_isOfKind_67 (by first | exact Or.inl rfl | exact Or.inr rfl | exact bi_01 _) rfl rfl
  · refine V_look X 62 63 dX5_isOfKind_1 (by decide) (by decide) (by decide) ?_
    refine V_iload_n X dX5_isOfKind_63 rfl ?_
    refine V_csi X (kX5_isPlace ) cwX5_196 rfl (rm_ok hR (by decide) (by decide)) (Nat.le_of_ble_eq_true rfl) dX5_isOfKind_64 ?_
    exact V_zret X E dX5_isOfKind_67 (by first | exact Or.inl rfl | exact Or.inr rfl | exact bi_01 _) rfl rfl
  · refine V_look X 27 28 dX5_isOfKind_1 (by decide) (by decide) (by decide) ?_
    refine V_iload_n X dX5_isOfKind_28 rfl ?_
    refine V_csi X (kX5_isPerson ) cwX5_193 rfl (rm_ok hR (by decide) (by decide)) (Nat.le_of_ble_eq_true rfl) dX5_isOfKind_29 ?_
    refine V_if_ne X 41 dX5_isOfKind_32 (by decide) (fun h32 => ?_) (fun h32 => ?_)
    · refine V_iconst X (nI 1) dX5_isOfKind_41 (by decide) ?_
      refine V_goto X 46 dX5_isOfKind_42 (by decide) ?_
      exact V_zret X E dX5_isOfKind_46 (by first | exact Or.inl rfl | exact Or.inr rfl | exact bi_01 _) (bi_t (Or.inl (bi_ne.mp h32))) rfl
    · refine V_iload_n X dX5_isOfKind_35 rfl ?_
      refine V_bipush X (nI 9) dX5_isOfKind_36 (by decide) ?_
      refine V_icmp_ne X 45 dX5_isOfKind_38 (by decide) (fun h38 => ?_) (fun h38 => ?_)
      · refine V_iconst X (nI 0) dX5_isOfKind_45 (by decide) ?_
        exact V_zret X E dX5_isOfKind_46 (by first | exact Or.inl rfl | exact Or.inr rfl | exact bi_01 _) (by first | exact bi_t (Or.inr (ts_nn h38)) | exact bi_f (fun q => q.elim (fun z => h32 (bi_ne.mpr z)) h38)) rfl
      · refine V_iconst X (nI 1) dX5_isOfKind_41 (by decide) ?_
        refine V_goto X 46 dX5_isOfKind_42 (by decide) ?_
        exact V_zret X E dX5_isOfKind_46 (by first | exact Or.inl rfl | exact Or.inr rfl | exact bi_01 _) (by first | exact bi_t (Or.inr (ts_nn h38)) | exact bi_f (fun q => q.elim (fun z => h32 (bi_ne.mpr z)) h38)) rfl
  · refine V_look X 46 47 dX5_isOfKind_1 (by decide) (by decide) (by decide) ?_
    refine V_iload_n X dX5_isOfKind_47 rfl ?_
    refine V_if_lt X 61 dX5_isOfKind_48 (by decide) (fun h48 => ?_) (fun h48 => ?_)
    · refine V_iconst X (nI 0) dX5_isOfKind_61 (by decide) ?_
      exact V_zret X E dX5_isOfKind_62 (by first | exact Or.inl rfl | exact Or.inr rfl | exact bi_01 _) (bi_f (fun q => q.1 h48)) rfl
    · refine V_iload_n X dX5_isOfKind_51 rfl ?_
      refine V_bipush X (nI 10) dX5_isOfKind_52 (by decide) ?_
      refine V_icmp_gt X 61 dX5_isOfKind_54 (by decide) (fun h54 => ?_) (fun h54 => ?_)
      · refine V_iconst X (nI 0) dX5_isOfKind_61 (by decide) ?_
        exact V_zret X E dX5_isOfKind_62 (by first | exact Or.inl rfl | exact Or.inr rfl | exact bi_01 _) (by first | exact bi_t ⟨h48, h54⟩ | exact bi_f (fun q => q.2 h54)) rfl
      · refine V_iconst X (nI 1) dX5_isOfKind_57 (by decide) ?_
        refine V_goto X 62 dX5_isOfKind_58 (by decide) ?_
        exact V_zret X E dX5_isOfKind_62 (by first | exact Or.inl rfl | exact Or.inr rfl | exact bi_01 _) (by first | exact bi_t ⟨h48, h54⟩ | exact bi_f (fun q => q.2 h54)) rfl

def faS (S : Sx) (k : Nat) : Nat → Sx
  | 0 => S
  | r + 1 => hrF (goT (faS S k r) (S (20 + k) r) k) k (if r = 0 then 1 else 0) 36
theorem faS_ne {S : Sx} {k q : Nat} (h : q < 8 ∨ (14 ≤ q ∧ q < 35)) : ∀ r, faS S k r q = S q
  | 0 => rfl
  | r + 1 => by unfold faS; rw [hrF_w (by omega), goT_ne (by omega)]; exact faS_ne h r

set_option maxRecDepth 100000 in
set_option maxHeartbeats 4000000 in
theorem kX5_findAnswers {G : Cx} {S : Sx} (hN : 80 ≤ gN G) {k z : Nat} (hk : k ≤ 14) (hz : S 6 k = nI z) (hz64 : z ≤ 64) (hok : ∀ s, s < k → okS S s) : CV G (5) yX5_findAnswers cX5_findAnswers 3 [ra G 0, .int (nI k)] S (clF (faS S k z) k 36) := by
  refine CV_of (by decide) (Nat.le_of_ble_eq_true rfl) (by intro v hv; simp only [List.mem_cons, List.not_mem_nil, or_false] at hv; rcases hv with rfl | rfl <;> rfl) (fun F X E => ?_)
  have hR := RV_R E
  have loop : ∀ (f r : Nat) (S1 : Sx), r ≤ z → z - r < f → S1 = faS S k r → V F G S1 2 [some (ra G 0), some (.int (nI k)), some (.int (nI r))] [] := by
    intro f
    induction f with
    | zero => intro r S1 h1 h2; omega
    | succ f ih =>
      intro r S1 h1 h2 hs
      have hch : S1 (20 + k) r = S (20 + k) r := by rw [hs, faS_ne (by omega)]
      refine V_iload_n X dX5_findAnswers_2 rfl ?_
      refine V_aload_n X dX5_findAnswers_3 rfl ?_
      refine V_getr X flX5_19 (ltN (by decide) hN) rfl rfl dX5_findAnswers_4 ?_
      refine V_iload_n X dX5_findAnswers_7 rfl ?_
      refine V_cvi X (ltN (by decide) hN) rfl rfl rfl (kX3_size hN (by omega)) cwX5_69 rfl (rm_ok hR (by decide) (by decide)) (Nat.le_of_ble_eq_true rfl) dX5_findAnswers_8 ?_
      refine V_top (nI (z)) (by rw [hs, faS_ne (by omega)]; exact hz) ?_
      refine V_cN_ge X 62 (by omega) (by omega) dX5_findAnswers_11 (by decide) (fun h11 => ?_) (fun h11 => ?_)
      · refine V_aload_n X dX5_findAnswers_62 rfl ?_
        refine V_getr X flX5_33 (ltN (by decide) hN) rfl rfl dX5_findAnswers_63 ?_
        refine V_iload_n X dX5_findAnswers_66 rfl ?_
        refine V_cvv X (ltN (by decide) hN) rfl rfl rfl (kX1_close hN (by omega)) cwX5_187 rfl (rm_ok hR (by decide) (by decide)) (Nat.le_of_ble_eq_true rfl) dX5_findAnswers_67 ?_
        exact V_vret X E dX5_findAnswers_70 (by rw [hs, show r = z by omega])
      · refine V_aload_n X dX5_findAnswers_14 rfl ?_
        refine V_getr X flX5_26 (ltN (by decide) hN) rfl rfl dX5_findAnswers_15 ?_
        refine V_aload_n X dX5_findAnswers_18 rfl ?_
        refine V_getr X flX5_12 (ltN (by decide) hN) rfl rfl dX5_findAnswers_19 ?_
        refine V_iload_n X dX5_findAnswers_22 rfl ?_
        refine V_aload_n X dX5_findAnswers_23 rfl ?_
        refine V_getr X flX5_19 (ltN (by decide) hN) rfl rfl dX5_findAnswers_24 ?_
        refine V_iload_n X dX5_findAnswers_27 rfl ?_
        refine V_iload_n X dX5_findAnswers_28 rfl ?_
        refine V_cvi X (ltN (by decide) hN) rfl rfl rfl (kX3_choices hN (by omega) (by omega)) cwX5_80 rfl (rm_ok hR (by decide) (by decide)) (Nat.le_of_ble_eq_true rfl) dX5_findAnswers_29 ?_
        refine V_cvv X (ltN (by decide) hN) rfl rfl rfl (kX4_goThrough hN hk (fun s hs2 => okS_congr (by rw [hs]; exact faS_ne (by omega) r) (by rw [hs]; exact faS_ne (by omega) r) (hok s hs2))) cwX5_97 rfl (rm_ok hR (by decide) (by decide)) (Nat.le_of_ble_eq_true rfl) dX5_findAnswers_32 ?_
        refine V_aload_n X dX5_findAnswers_35 rfl ?_
        refine V_getr X flX5_33 (ltN (by decide) hN) rfl rfl dX5_findAnswers_36 ?_
        refine V_iload_n X dX5_findAnswers_39 rfl ?_
        refine V_aload_n X dX5_findAnswers_40 rfl ?_
        refine V_getr X flX5_26 (ltN (by decide) hN) rfl rfl dX5_findAnswers_41 ?_
        refine V_iload_n X dX5_findAnswers_44 rfl ?_
        refine V_iN_ne X 52 (by omega) dX5_findAnswers_45 (by decide) (fun h45 => ?_) (fun h45 => ?_)
        · refine V_iconst X (nI 0) dX5_findAnswers_52 (by decide) ?_
          refine V_cvv X (ltN (by decide) hN) rfl rfl rfl (kX1_hear hN (by omega) (by omega)) cwX5_183 rfl (rm_ok hR (by decide) (by decide)) (Nat.le_of_ble_eq_true rfl) dX5_findAnswers_53 ?_
          refine V_iinc X (nI (_ + 1)) dX5_findAnswers_56 (by rw [hR.2]; decide) rfl (nI_add _ 1) ?_
          refine V_goto X 2 dX5_findAnswers_59 (by decide) ?_
          exact ih (r + 1) _ (by omega) (by omega) (by rw [faS, hch, hs]; first | rw [if_pos h45] | rw [if_neg h45])
        · refine V_iconst X (nI 1) dX5_findAnswers_48 (by decide) ?_
          refine V_goto X 53 dX5_findAnswers_49 (by decide) ?_
          refine V_cvv X (ltN (by decide) hN) rfl rfl rfl (kX1_hear hN (by omega) (by omega)) cwX5_183 rfl (rm_ok hR (by decide) (by decide)) (Nat.le_of_ble_eq_true rfl) dX5_findAnswers_53 ?_
          refine V_iinc X (nI (_ + 1)) dX5_findAnswers_56 (by rw [hR.2]; decide) rfl (nI_add _ 1) ?_
          refine V_goto X 2 dX5_findAnswers_59 (by decide) ?_
          exact ih (r + 1) _ (by omega) (by omega) (by rw [faS, hch, hs]; first | rw [if_pos h45] | rw [if_neg h45])
  refine V_iconst X (nI 0) dX5_findAnswers_0 (by decide) ?_
  refine V_istore_n X dX5_findAnswers_1 (by rw [hR.2]; decide) ?_
  exact loop (z + 1) 0 S (by omega) (by omega) rfl

