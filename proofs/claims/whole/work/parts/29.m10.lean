/-- what the model's questions leave as it was -/
def kM (S S' : Sx) : Prop := S' 81 = S 81 ∧ S' 80 0 = S 80 0 ∧ S' 82 = S 82 ∧ ∀ q, q < 80 → S' q = S q
theorem kM_rf (S : Sx) : kM S S := ⟨rfl, rfl, rfl, fun _ _ => rfl⟩
theorem kM_tr {S S' S'' : Sx} (h : kM S S') (h2 : kM S' S'') : kM S S'' := ⟨h2.1.trans h.1, h2.2.1.trans h.2.1, h2.2.2.1.trans h.2.2.1, fun q hq => (h2.2.2.2 q hq).trans (h.2.2.2 q hq)⟩
theorem gB_ne {q : Nat} (h1 : q ≠ 80) (h2 : q ≠ 84) {r s a : Nat} : ∀ (k j : Nat) (p : Sx × Nat), (gB r s a k j p).1 q = p.1 q
  | 0, _, _ => rfl
  | k + 1, j, p => by
    unfold gB; rw [gB_ne h1 h2 k (j + 1)]; split
    · rfl
    · exact trF_ne h2 h1
theorem gW_ne {q : Nat} (h1 : q ≠ 80) (h2 : q ≠ 84) {r s : Nat} : ∀ (k a : Nat) (p : Sx × Nat), (gW r s k a p).1 q = p.1 q
  | 0, _, _ => rfl
  | k + 1, a, p => by
    unfold gW; rw [gW_ne h1 h2 k (a + 1)]; split
    · rfl
    · split
      · exact gB_ne h1 h2 8 0 p
      · exact trF_ne h2 h1
theorem gR_ne {q : Nat} (h1 : q ≠ 80) (h2 : q ≠ 84) {s : Nat} : ∀ (k r : Nat) (p : Sx × Nat), (gR s k r p).1 q = p.1 q
  | 0, _, _ => rfl
  | k + 1, r, p => by unfold gR; rw [gR_ne h1 h2 k (r + 1), gW_ne h1 h2]
theorem rdL_ne {q : Nat} (h1 : q ≠ 80) (h2 : q ≠ 84) (h3 : q ≠ 83) (S : Sx) : ∀ k, (rdL S k).1 q = S q
  | 0 => by simp only [rdL]; rw [st_ne h1, inF_ne h3]
  | k + 1 => by simp only [rdL, goP, gO2]; rw [cpN_ne h3, gR_ne h1 h2]; dsimp only; rw [st_ne h1]; exact rdL_ne h1 h2 h3 S k
theorem rdL_kM (S : Sx) (k : Nat) : kM S (rdL S k).1 := ⟨(rdL_I S k).1, (rdL_I S k).2.2, rdL_ne (by decide) (by decide) (by decide) S k, fun q hq => rdL_ne (by omega) (by omega) (by omega) S k⟩
/-- the text is in order, and every beginning of it has its readings -/
def GT (g : Nat → Int32) (n : Nat) : Prop := n ≤ 14 ∧ (∀ s, s < n → wfM g s) ∧ ∀ s, s ≤ n → 1 ≤ rdN g s ∧ rdN g s ≤ 64
theorem GT_MR {S : Sx} {n k : Nat} (h : GT (S 81) n) (hk : k ≤ n) : MR S k := MR_of (by have := h.1; omega) (fun s hs => h.2.1 s (by omega)) (fun s hs => (h.2.2 s (by omega)).2) (h.2.2 k hk).1
theorem GT_ok {g : Nat → Int32} {n k : Nat} (h : GT g n) (hk : k ≤ n) : ∀ s, s < k → okM g s := fun s hs => (h.2.1 s (by omega)).2.1
theorem an_g {S : Sx} {n j k a : Nat} (h : GT (S 81) n) (hj : j ≤ n) (hq : qOk k a) : anF ((rdL S j).1 83) k a (rdL S j).2 = AN (rdX (S 81) j) k a :=
  an_l (rdL_rep j (by have := h.1; omega) (GT_ok h hj)) (rdX_ok j (GT_ok h hj)) (by rw [rdL_n (by have := h.1; omega) (GT_ok h hj)]; exact (h.2.2 j hj).1) hq
def jdG (g : Nat → Int32) (n k a : Nat) (v : Int32) : Int32 := if AN (rdX g n) k a < 0 then -1 else if AN (rdX g n) k a = v then nI 0 else if okF k v = 0 then nI 1 else if (List.range n).any (fun j => decide (AN (rdX g j) k a = v)) then nI 2 else nI 3

set_option maxRecDepth 100000 in
set_option maxHeartbeats 4000000 in
theorem kX6_judge_no {G : Cx} {S : Sx} (hN : 88 ≤ gN G) {n : Nat} (hn : S 80 0 = nI n) (hn14 : n ≤ 14) {x y v : Int32} (hno : ¬ okQ x y) : CT G (6) yX6_judge cX6_judge 6 (some .int) [ra G 80, .int x, .int y, .int v] S (-1) (S) := by
  refine CT_of (by decide) (Nat.le_of_ble_eq_true rfl) (by intro v hv; simp only [List.mem_cons, List.not_mem_nil, or_false] at hv; rcases hv with rfl | rfl | rfl | rfl <;> rfl) (fun F X E => ?_)
  have hR := RI_R E
  refine V_aload_n X dX6_judge_0 rfl ?_
  refine V_iload_n X dX6_judge_1 rfl ?_
  refine V_iload_n X dX6_judge_2 rfl ?_
  refine V_aload_n X dX6_judge_3 rfl ?_
  refine V_geti X flX6_35 (ltN (by decide) hN) rfl rfl dX6_judge_4 ?_
  refine V_top (nI (n)) (hn) ?_
  refine V_cvi X (ltN (by decide) hN) rfl rfl rfl (kX6_answer_no hN hn hn14 (fun q => hno q.1)) cwX6_108 rfl (rm_ok hR (by decide) (by decide)) (Nat.le_of_ble_eq_true rfl) dX6_judge_7 ?_
  refine V_istore X dX6_judge_10 (by rw [hR.2]; decide) ?_
  refine V_iload X dX6_judge_12 rfl ?_
  refine V_if_ge X 19 dX6_judge_14 (by decide) (fun h14 => ?_) (fun h14 => ?_)
  · exact absurd h14 (by decide)
  · refine V_iconst X (-1) dX6_judge_17 (by decide) ?_
    exact V_iret X E dX6_judge_18 rfl rfl

set_option maxRecDepth 100000 in
set_option maxHeartbeats 4000000 in
theorem kX6_judge {G : Cx} {S : Sx} (hN : 88 ≤ gN G) {n : Nat} (hn : S 80 0 = nI n) (hn14 : n ≤ 14) {k a : Nat} {v : Int32} (hq : qOk k a) (hG : GT (S 81) n) : CTp G 6 yX6_judge cX6_judge 6 (some .int) [ra G 80, .int (nI k), .int (nI a), .int v] S (fun r S' => r = jdG (S 81) n k a v ∧ kM S S') := by
  refine CTp_of (by decide) (Nat.le_of_ble_eq_true rfl) (by intro v hv; simp only [List.mem_cons, List.not_mem_nil, or_false] at hv; rcases hv with rfl | rfl | rfl | rfl <;> rfl) (fun F X E => ?_)
  have hR := RIp_R E
  have loop : ¬ AN (rdX (S 81) n) k a < 0 → ¬ AN (rdX (S 81) n) k a = v → ¬ okF k v = 0 → ∀ (fu i : Nat) (S1 : Sx), i ≤ n → n - i < fu → kM S S1 → (∀ j, j < i → ¬ AN (rdX (S 81) j) k a = v) → V F G S1 40 [some (ra G 80), some (.int (nI k)), some (.int (nI a)), some (.int v), some (.int (AN (rdX (S 81) n) k a)), some (.int (nI i))] [] := by
    intro ha hb hc fu
    induction fu with
    | zero => intro i S1 h1 h2; omega
    | succ fu ih =>
      intro i S1 h1 h2 hk hall
      refine V_iload X dX6_judge_40 rfl ?_
      refine V_aload_n X dX6_judge_42 rfl ?_
      refine V_geti X flX6_35 (ltN (by decide) hN) rfl rfl dX6_judge_43 ?_
      refine V_top (nI (n)) (by rw [hk.2.1]; exact hn) ?_
      refine V_cN_ge X 69 (by omega) (by omega) dX6_judge_46 (by decide) (fun h46 => ?_) (fun h46 => ?_)
      · refine V_iconst X (nI 3) dX6_judge_69 (by decide) ?_
        exact V_iretp X E dX6_judge_70 ⟨by unfold jdG; rw [if_neg ha, if_neg hb, if_neg hc, if_neg (fun z => by obtain ⟨j, hj, e⟩ := List.any_eq_true.mp z; exact hall j (by have := List.mem_range.mp hj; omega) (of_decide_eq_true e))], hk⟩
      · refine V_aload_n X dX6_judge_49 rfl ?_
        refine V_iload_n X dX6_judge_50 rfl ?_
        refine V_iload_n X dX6_judge_51 rfl ?_
        refine V_iload X dX6_judge_52 rfl ?_
        refine V_cvi X (ltN (by decide) hN) rfl rfl rfl (kX6_answer hN (by rw [hk.2.1]; exact hn) hn14 hq (show i ≤ n by omega) (GT_MR (by rw [hk.1]; exact hG) (by omega))) cwX6_108 rfl (rm_ok hR (by decide) (by decide)) (Nat.le_of_ble_eq_true rfl) dX6_judge_54 ?_
        refine V_top (AN (rdX (S 81) i) k a) (by rw [an_g (n := n) (by rw [hk.1]; exact hG) (by omega) hq, hk.1]) ?_
        refine V_iload_n X dX6_judge_57 rfl ?_
        refine V_icmp_ne X 63 dX6_judge_58 (by decide) (fun h58 => ?_) (fun h58 => ?_)
        · refine V_iinc X (nI (_ + 1)) dX6_judge_63 (by rw [hR.2]; decide) rfl (nI_add _ 1) ?_
          refine V_goto X 40 dX6_judge_66 (by decide) ?_
          exact ih (i + 1) _ (by omega) (by omega) (kM_tr hk (rdL_kM _ i)) (fun j hj => by rcases Nat.lt_succ_iff_lt_or_eq.mp hj with z | z; exact hall j z; subst z; exact h58)
        · refine V_iconst X (nI 2) dX6_judge_61 (by decide) ?_
          exact V_iretp X E dX6_judge_62 ⟨by unfold jdG; rw [if_neg ha, if_neg hb, if_neg hc, if_pos (List.any_eq_true.mpr ⟨i, List.mem_range.mpr h46, decide_eq_true (ts_nn h58)⟩)], kM_tr hk (rdL_kM _ i)⟩
  refine V_aload_n X dX6_judge_0 rfl ?_
  refine V_iload_n X dX6_judge_1 rfl ?_
  refine V_iload_n X dX6_judge_2 rfl ?_
  refine V_aload_n X dX6_judge_3 rfl ?_
  refine V_geti X flX6_35 (ltN (by decide) hN) rfl rfl dX6_judge_4 ?_
  refine V_top (nI (n)) (hn) ?_
  refine V_cvi X (ltN (by decide) hN) rfl rfl rfl (kX6_answer hN hn hn14 hq (Nat.le_refl n) (GT_MR hG (Nat.le_refl n))) cwX6_108 rfl (rm_ok hR (by decide) (by decide)) (Nat.le_of_ble_eq_true rfl) dX6_judge_7 ?_
  refine V_top (AN (rdX (S 81) n) k a) (an_g hG (Nat.le_refl n) hq) ?_
  refine V_istore X dX6_judge_10 (by rw [hR.2]; decide) ?_
  refine V_iload X dX6_judge_12 rfl ?_
  refine V_if_ge X 19 dX6_judge_14 (by decide) (fun h14 => ?_) (fun h14 => ?_)
  · refine V_iload X dX6_judge_19 rfl ?_
    refine V_iload_n X dX6_judge_21 rfl ?_
    refine V_icmp_ne X 27 dX6_judge_22 (by decide) (fun h22 => ?_) (fun h22 => ?_)
    · refine V_iload_n X dX6_judge_27 rfl ?_
      refine V_iload_n X dX6_judge_28 rfl ?_
      refine V_csi X (kX6_isOfKind hq.1) cwX6_111 rfl (rm_ok hR (by decide) (by decide)) (Nat.le_of_ble_eq_true rfl) dX6_judge_29 ?_
      refine V_if_ne X 37 dX6_judge_32 (by decide) (fun h32 => ?_) (fun h32 => ?_)
      · refine V_iconst X (nI 0) dX6_judge_37 (by decide) ?_
        refine V_istore X dX6_judge_38 (by rw [hR.2]; decide) ?_
        exact loop (Int32.not_lt.mpr h14) h22 h32 (n + 1) 0 _ (by omega) (by omega) (rdL_kM S n) (fun j hj => absurd hj (by omega))
      · refine V_iconst X (nI 1) dX6_judge_35 (by decide) ?_
        exact V_iretp X E dX6_judge_36 ⟨by unfold jdG; rw [if_neg (Int32.not_lt.mpr h14), if_neg h22, if_pos (ts_nn h32)], rdL_kM S n⟩
    · refine V_iconst X (nI 0) dX6_judge_25 (by decide) ?_
      exact V_iretp X E dX6_judge_26 ⟨by unfold jdG; rw [if_neg (Int32.not_lt.mpr h14), if_pos (ts_nn h22)], rdL_kM S n⟩
  · refine V_iconst X (-1) dX6_judge_17 (by decide) ?_
    exact V_iretp X E dX6_judge_18 ⟨by unfold jdG; rw [if_pos (Int32.not_le.mp h14)], rdL_kM S n⟩

