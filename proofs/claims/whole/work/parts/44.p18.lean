/-! ===== fewest ===== -/
theorem ofS_A (S : Sx) (x : Int32) : ∀ i, (ofS S x i).1 19 = (ofA (S 19) x i).1 ∧ (ofS S x i).2 = (ofA (S 19) x i).2
  | 0 => ⟨rfl, rfl⟩
  | i + 1 => by
    obtain ⟨h1, h2⟩ := ofS_A S x i
    unfold ofS ofA
    rw [h1, h2]
    by_cases e : (ofA (S 19) x i).1 i &&& (x ^^^ -1) = 0
    · rw [if_pos e, if_pos e]; exact ⟨h1, h2⟩
    · rw [if_neg e, if_neg e]
      refine ⟨?_, rfl⟩
      show st _ 19 _ _ 19 = _
      rw [st_ud, h1]
def csS (p : (Nat → Int32) × Nat) (x : Int32) : (Nat → Int32) × Nat := if ofB p.1 x p.2 then p else (upd (ofA p.1 x p.2).1 (ofA p.1 x p.2).2 x, (ofA p.1 x p.2).2 + 1)
theorem cv_step {S : Sx} {n i : Nat} (hi : i < 36) : ((cvS S n (i + 1)).1 19, (cvS S n (i + 1)).2) = csS ((cvS S n i).1 19, (cvS S n i).2) (S (65 + n) i) ∧ (cvS S n (i + 1)).1 18 2 = if ofB ((cvS S n i).1 19) (S (65 + n) i) (cvS S n i).2 then (cvS S n i).1 18 2 else (cvS S n i).1 18 2 ||| S (65 + n) i := by
  have hz := cvS_le S n i
  have hk := ofA_le ((cvS S n i).1 19) (S (65 + n) i) (cvS S n i).2
  obtain ⟨a1, a2⟩ := ofS_A (cvS S n i).1 (S (65 + n) i) (cvS S n i).2
  simp only [cvS, csS, ofF, ofZ]
  by_cases e : ofB ((cvS S n i).1 19) (S (65 + n) i) (cvS S n i).2 = true
  · rw [if_pos e, if_pos e, if_pos e, if_pos e]; exact ⟨rfl, rfl⟩
  · rw [if_neg e, if_neg e, if_neg e, if_neg e]
    unfold ofE
    rw [a2, if_pos (by omega), if_pos (by omega)]
    refine ⟨?_, ?_⟩
    · rw [st_ne (by decide), st_ne (by decide), st_ud, a1]
    · rw [st_at, if_pos ⟨rfl, rfl⟩, ofS_18]
theorem ofA_P {P : Int32 → Prop} {f : Nat → Int32} {x : Int32} {z : Nat} (h : ∀ j, j < z → P (f j)) : ∀ i, i ≤ z → ∀ j, j < z → P ((ofA f x i).1 j)
  | 0, _, j, hj => h j hj
  | i + 1, hi, j, hj => by
    have ih := ofA_P (x := x) h i (by omega)
    unfold ofA
    by_cases e : (ofA f x i).1 i &&& (x ^^^ -1) = 0
    · rw [if_pos e]; exact ih j hj
    · rw [if_neg e]
      show P (upd _ _ _ j)
      unfold upd; split
      · exact ih i (by omega)
      · exact ih j hj
theorem csS_P {P : Int32 → Prop} {p : (Nat → Int32) × Nat} {x : Int32} (hx : P x) (h : ∀ j, j < p.2 → P (p.1 j)) : ∀ j, j < (csS p x).2 → P ((csS p x).1 j) := by
  intro j hj
  unfold csS at hj ⊢
  by_cases e : ofB p.1 x p.2 = true
  · rw [if_pos e] at hj ⊢; exact h j hj
  · rw [if_neg e] at hj ⊢
    have hk := ofA_le p.1 x p.2
    show P (upd _ _ _ j)
    have hj : j < (ofA p.1 x p.2).2 + 1 := hj
    unfold upd
    by_cases ej : j = (ofA p.1 x p.2).2
    · rw [if_pos ej]; exact hx
    · rw [if_neg ej]; exact ofA_P h p.2 (Nat.le_refl _) j (by omega)
theorem ofA_hi {f : Nat → Int32} {x : Int32} : ∀ i j, i ≤ j → (ofA f x i).1 j = f j
  | 0, _, _ => rfl
  | i + 1, j, hj => by
    have hk := ofA_le f x i
    unfold ofA
    by_cases e : (ofA f x i).1 i &&& (x ^^^ -1) = 0
    · rw [if_pos e]; exact ofA_hi i j (by omega)
    · rw [if_neg e]
      show upd _ _ _ j = _
      rw [ud_ne (by omega)]; exact ofA_hi i j (by omega)
theorem orA_ud {g : Nat → Int32} {i : Nat} {v : Int32} : ∀ k, k ≤ i → orA (upd g i v) k = orA g k
  | 0, _ => rfl
  | k + 1, hk => by unfold orA; rw [orA_ud k (by omega), ud_ne (by omega)]
theorem orA_ag {f g : Nat → Int32} : ∀ k, (∀ i, i < k → f i = g i) → orA f k = orA g k
  | 0, _ => rfl
  | k + 1, h => by unfold orA; rw [orA_ag k (fun i hi => h i (by omega)), h k (by omega)]
theorem absorb {v x : Int32} (hv : bd v) (hx : bd x) (h : v &&& (x ^^^ -1) = 0) : v ||| x = x := by
  obtain ⟨P, hP, rfl⟩ := hv
  obtain ⟨X, hX, rfl⟩ := hx
  have hd := dN_lt (F := X) hP
  rw [dif_n, nI_z (by omega)] at h
  rw [or_n (by omega) (by omega)]
  congr 1
  refine Nat.eq_of_testBit_eq (fun t => ?_)
  have e := dN_bit P X t
  rw [h, Nat.zero_testBit] at e
  rw [Nat.testBit_or]
  revert e
  cases P.testBit t <;> cases X.testBit t <;> simp
theorem orA_ofA {f : Nat → Int32} {x : Int32} (hx : bd x) : ∀ i, (∀ j, j < i → bd (f j)) → orA (ofA f x i).1 (ofA f x i).2 ||| x = orA f i ||| x
  | 0, _ => rfl
  | i + 1, hb => by
    have ih := orA_ofA hx i (fun j hj => hb j (by omega))
    have hh := ofA_hi (f := f) (x := x) i i (Nat.le_refl i)
    unfold ofA
    rw [hh]
    by_cases e : f i &&& (x ^^^ -1) = 0
    · rw [if_pos e, ih]
      show _ = (orA f i ||| f i) ||| x
      rw [Int32.or_assoc, absorb (hb i (by omega)) hx e]
    · rw [if_neg e]
      show orA (upd _ _ _) (_ + 1) ||| x = (orA f i ||| f i) ||| x
      show (orA (upd (ofA f x i).1 (ofA f x i).2 (f i)) (ofA f x i).2 ||| upd (ofA f x i).1 (ofA f x i).2 (f i) (ofA f x i).2) ||| x = _
      rw [orA_ud _ (Nat.le_refl _), ud_eq, Int32.or_assoc, Int32.or_comm (f i) x, ← Int32.or_assoc, ih, Int32.or_assoc, Int32.or_comm x (f i), ← Int32.or_assoc]
/-- the class's sets after i offers -/
theorem cv_all {S : Sx} {n : Nat} (hb : ∀ q, q < 36 → bd (S (65 + n) q)) : ∀ i, i ≤ 36 → (∀ j, j < (cvS S n i).2 → bd ((cvS S n i).1 19 j)) ∧ (cvS S n i).1 18 2 = orA ((cvS S n i).1 19) (cvS S n i).2
  | 0, _ => by
    refine ⟨fun j hj => absurd hj (by simp [cvS]), ?_⟩
    simp only [cvS]
    rw [st_at, if_pos ⟨rfl, rfl⟩]; rfl
  | i + 1, hi => by
    obtain ⟨i1, i2⟩ := cv_all hb i (by omega)
    obtain ⟨s1, s2⟩ := cv_step (S := S) (n := n) (i := i) (by omega)
    have e19 : (cvS S n (i + 1)).1 19 = (csS ((cvS S n i).1 19, (cvS S n i).2) (S (65 + n) i)).1 := congrArg Prod.fst s1
    have ez : (cvS S n (i + 1)).2 = (csS ((cvS S n i).1 19, (cvS S n i).2) (S (65 + n) i)).2 := congrArg Prod.snd s1
    rw [e19, ez, s2, i2]
    refine ⟨csS_P (hb i (by omega)) i1, ?_⟩
    unfold csS
    by_cases e : ofB ((cvS S n i).1 19) (S (65 + n) i) (cvS S n i).2 = true
    · rw [if_pos e, if_pos e]
    · rw [if_neg e, if_neg e]
      show _ = orA (upd (ofA _ _ _).1 (ofA _ _ _).2 _) ((ofA ((cvS S n i).1 19) (S (65 + n) i) (cvS S n i).2).2 + 1)
      show _ = orA (upd (ofA _ _ _).1 (ofA _ _ _).2 _) (ofA ((cvS S n i).1 19) (S (65 + n) i) (cvS S n i).2).2 ||| upd _ _ _ _
      rw [orA_ud _ (Nat.le_refl _), ud_eq, orA_ofA (hb i (by omega)) _ i1]
theorem ofB_ag {f g : Nat → Int32} {x : Int32} {z : Nat} (h : ∀ i, i < z → f i = g i) : ofB f x z = ofB g x z := by
  unfold ofB
  exact any_congr (fun i hi => by rw [h i (List.mem_range.mp hi)])
theorem ofA_ag {f g : Nat → Int32} {x : Int32} {z : Nat} (h : ∀ i, i < z → f i = g i) : ∀ i, i ≤ z → (ofA f x i).2 = (ofA g x i).2 ∧ ∀ j, j < z → (ofA f x i).1 j = (ofA g x i).1 j
  | 0, _ => ⟨rfl, h⟩
  | i + 1, hi => by
    obtain ⟨i1, i2⟩ := ofA_ag (x := x) h i (by omega)
    unfold ofA
    rw [i2 i (by omega), i1]
    by_cases e : (ofA g x i).1 i &&& (x ^^^ -1) = 0
    · rw [if_pos e, if_pos e]; exact ⟨i1, i2⟩
    · rw [if_neg e, if_neg e]
      refine ⟨rfl, fun j hj => ?_⟩
      show upd _ _ _ j = upd _ _ _ j
      unfold upd; split
      · rfl
      · exact i2 j hj
/-- the class's sets and the model's masks -/
def RE (p q : (Nat → Int32) × Nat) : Prop := (p.2 = q.2 ∧ ∀ i, i < p.2 → p.1 i = q.1 i) ∨ (p.2 = 1 ∧ p.1 0 = 0 ∧ q.2 = 0)
theorem RE_s {p q : (Nat → Int32) × Nat} {x : Int32} (h : RE p q) : RE (csS p x) (gtS q x) := by
  rcases h with ⟨hz, hf⟩ | ⟨h1, h2, h3⟩
  · by_cases x0 : x = 0
    · have eg : gtS q x = q := by
        unfold gtS isK; rw [decide_eq_true x0]; rfl
      rw [eg]
      by_cases z0 : p.2 = 0
      · right
        unfold csS
        rw [z0, if_neg (show ¬ ofB p.1 x 0 = true by unfold ofB; simp)]
        refine ⟨rfl, ?_, by omega⟩
        show upd p.1 0 x 0 = 0
        rw [ud_eq]; exact x0
      · left
        have : csS p x = p := by
          unfold csS; rw [if_pos (ofB_t (i := 0) (by omega) (by rw [x0, Int32.zero_and]))]
        rw [this]; exact ⟨hz, hf⟩
    · left
      have eb := ofB_ag (x := x) hf
      obtain ⟨a1, a2⟩ := ofA_ag (x := x) hf p.2 (Nat.le_refl _)
      have hk := ofA_le p.1 x p.2
      unfold csS gtS isK
      rw [← hz, ← eb, decide_eq_false x0]
      by_cases e : ofB p.1 x p.2 = true
      · rw [if_pos e, if_neg (by rw [e]; decide)]; exact ⟨hz, hf⟩
      · rw [if_neg e, if_pos (by rw [Bool.not_eq_true _ |>.mp e]; rfl)]
        rw [← a1]
        refine ⟨rfl, fun i hi => ?_⟩
        show upd _ _ _ i = upd _ _ _ i
        have hi : i < (ofA p.1 x p.2).2 + 1 := hi
        unfold upd
        by_cases ei : i = (ofA p.1 x p.2).2
        · rw [if_pos ei, if_pos ei]
        · rw [if_neg ei, if_neg ei]; exact a2 i (by omega)
  · by_cases x0 : x = 0
    · right
      have eg : gtS q x = q := by
        unfold gtS isK; rw [decide_eq_true x0]; rfl
      have ec : csS p x = p := by
        unfold csS; rw [if_pos (ofB_t (i := 0) (by omega) (by rw [x0, Int32.zero_and]))]
      rw [eg, ec]; exact ⟨h1, h2, h3⟩
    · left
      have e1 : ¬ ofB p.1 x p.2 = true := by
        rw [h1, ofB_f (fun i hi => ?_)]
        · decide
        · rw [show i = 0 by omega, h2, Int32.zero_xor, Int32.and_neg_one]; exact x0
      have e2 : ofA p.1 x 1 = (p.1, 0) := by
        unfold ofA
        rw [if_pos (by show p.1 0 &&& _ = 0; rw [h2, Int32.zero_and])]; rfl
      have eg : gtS q x = (upd q.1 0 x, 1) := by
        unfold gtS isK
        rw [h3, decide_eq_false x0, if_pos (by unfold ofB; simp)]; rfl
      rw [eg]
      unfold csS
      rw [if_neg e1, h1, e2]
      refine ⟨rfl, fun i hi => ?_⟩
      have hi : i < 1 := hi
      rw [show i = 0 by omega]
      show upd p.1 0 x 0 = upd q.1 0 x 0
      rw [ud_eq, ud_eq]
theorem RE_all {S : Sx} {n : Nat} {f mk : Nat → Int32} (hm : ∀ q, q < 36 → mk q = S (65 + n) q) : ∀ i, i ≤ 36 → RE ((cvS S n i).1 19, (cvS S n i).2) (gtL f mk i)
  | 0, _ => Or.inl ⟨rfl, fun i hi => absurd hi (by simp [cvS])⟩
  | i + 1, hi => by
    rw [(cv_step (by omega)).1]
    show RE _ (gtS (gtL f mk i) (mk i))
    rw [hm i (by omega)]
    exact RE_s (RE_all hm i (by omega))
theorem bd_cl {v : Int32} (h : bd v) : v = nI v.toNatClampNeg ∧ v.toNatClampNeg < 16384 := by
  obtain ⟨m, hm, rfl⟩ := h
  rw [nI_clamp (by omega)]; exact ⟨rfl, hm⟩
theorem orA_b {f : Nat → Int32} {F : Nat → Nat} {z : Nat} (hf : ∀ i, i < z → f i = nI (F i) ∧ F i < 16384) : ∀ k, k ≤ z → ∃ D, D < 16384 ∧ orA f k = nI D ∧ ∀ t, (D.testBit t = true ↔ ∃ i, i < k ∧ (F i).testBit t = true)
  | 0, _ => ⟨0, by decide, rfl, fun t => ⟨fun y => (by rw [Nat.zero_testBit] at y; cases y), fun ⟨i, hi, _⟩ => absurd hi (by omega)⟩⟩
  | k + 1, hk => by
    obtain ⟨D, d1, d2, d3⟩ := orA_b hf k (by omega)
    have h1 := hf k (by omega)
    have h16 := h1.2
    refine ⟨D ||| F k, Nat.or_lt_two_pow (n := 14) d1 h1.2, ?_, fun t => ?_⟩
    · unfold orA; rw [d2, h1.1, or_n (by omega) (by omega)]
    · rw [Nat.testBit_or, Bool.or_eq_true, d3 t]
      constructor
      · rintro (⟨i, hi, y⟩ | y)
        · exact ⟨i, by omega, y⟩
        · exact ⟨k, by omega, y⟩
      · rintro ⟨i, hi, y⟩
        by_cases e : i = k
        · rw [e] at y; exact Or.inr y
        · exact Or.inl ⟨i, by omega, y⟩
theorem few_eq {fc fm : Nat → Int32} {zc zm : Nat} (h : RE (fc, zc) (fm, zm)) (hz : zc ≤ 36) (hb : ∀ i, i < zc → bd (fc i)) : lsF fc zc (orA fc zc) 14 0 = vis fm zm (orA fm zm) 14 0 (nI 0) zm := by
  rcases h with ⟨e0, hf0⟩ | ⟨h1, h2, h3⟩
  · have key : zc = zm ∧ ∀ i, i < zc → fc i = fm i := ⟨e0, hf0⟩
    clear e0 hf0
    obtain ⟨e, hf⟩ := key
    subst e
    rw [← orA_ag zc hf]
    have hc : ∀ i, i < zc → fc i = nI ((fc i).toNatClampNeg) ∧ (fc i).toNatClampNeg < 16384 := fun i hi => bd_cl (hb i hi)
    have hm : ∀ i, i < zc → fm i = nI ((fc i).toNatClampNeg) ∧ (fc i).toNatClampNeg < 16384 := fun i hi => by rw [← hf i hi]; exact hc i hi
    obtain ⟨D, d1, d2, d3⟩ := orA_b (F := fun i => (fc i).toNatClampNeg) hc zc (Nat.le_refl _)
    rw [d2]
    obtain ⟨l1, l2, l3⟩ := ls_min (F := fun i => (fc i).toNatClampNeg) hz hc d1 14 0 (by decide)
    obtain ⟨v1, v2, v3⟩ := vis_min (F := fun i => (fc i).toNatClampNeg) hm d1 (fun i hi t ht => (d3 t).mpr ⟨i, hi, ht⟩) 14 0 0 zc (by decide) (fun t ht => by rw [Nat.zero_testBit] at ht; cases ht) (bsN_le _ 14)
    have e0 : dN D 0 = D := Nat.eq_of_testBit_eq (fun t => by rw [dN_bit, Nat.zero_testBit]; cases D.testBit t <;> rfl)
    rw [e0] at v2 v3
    have c1 : CVr (fun i => (fc i).toNatClampNeg) zc 14 D := CV_bits 14 D d1 (bsN_le _ 14) (fun t ht => (d3 t).mp ht)
    have c2 : CVr (fun i => (fc i).toNatClampNeg) zc zc D := CV_all zc D (Nat.le_refl _) (fun t ht => (d3 t).mp ht)
    have r1 : CVr (fun i => (fc i).toNatClampNeg) zc (lsF fc zc (nI D) 14 0) D := by
      rcases l3 with q | q
      · rw [q]; exact c1
      · exact q
    have r2 : CVr (fun i => (fc i).toNatClampNeg) zc (vis fm zc (nI D) 14 0 (nI 0) zc) D := by
      rcases v2 with q | ⟨p, q1, q2⟩
      · rw [q]; exact c2
      · rw [q1, Nat.zero_add]; exact q2
    have a1 := v3 _ r1
    apply Classical.byContradiction
    intro y
    exact l2 (vis fm zc (nI D) 14 0 (nI 0) zc) (by omega) (by omega) r2
  · have key : zc = 1 ∧ fc 0 = 0 ∧ zm = 0 := ⟨h1, h2, h3⟩
    clear h1 h2 h3
    obtain ⟨h1, h2, h3⟩ := key
    subst h1 h3
    have e : orA fc 1 = 0 := by show nI 0 ||| fc 0 = 0; rw [h2]; rfl
    rw [e]
    have e1 : lsF fc 1 0 14 0 = 0 := by
      show (if sfF fc 1 0 0 then 0 else _) = 0
      rw [if_pos (by unfold sfF; exact decide_eq_true rfl)]
    rw [e1]
    show 0 = vis fm 0 (nI 0) 14 0 (nI 0) 0
    unfold vis; rw [if_pos rfl]; rfl
theorem AKl_bd {k a : Nat} : ∀ (l : List Xs) (v : Int32), bd v → (∀ x ∈ l, bd (bX x k a)) → bd (AKl k a l v)
  | [], v, h, _ => h
  | x :: l, v, h, hl => by
    show bd (AKl k a l (v &&& bX x k a))
    exact AKl_bd l _ (bd_and h (hl x List.mem_cons_self)) (fun y hy => hl y (List.mem_cons_of_mem _ hy))
theorem AK_bd {l : List Xs} {k a : Nat} (h0 : l ≠ []) (h : ∀ x ∈ l, bd (bX x k a)) : bd (AK l k a) := by
  unfold AK; split
  · exact bd_0
  · cases l with
    | nil => exact absurd rfl h0
    | cons x l => exact AKl_bd _ _ (h x List.mem_cons_self) (fun y hy => h y (List.mem_cons_of_mem _ hy))
theorem op_fewest {G : Cx} {S : Sx} {n b : Nat} (hN : 88 ≤ gN G) (h : IV S n b) : ∃ (r : Int32) (S1 : Sx), CT G 21 yX5_fewest cX5_fewest 2 (some .int) [ra G 0] S r S1 ∧ OPM G 7 yX6_fewest cX6_fewest 6 (some .int) [ra G 80] S1 r := by
  have h0 := h
  obtain ⟨h1, h2, h3, h4, h5, h6, h7, h8, h9, h10, h11⟩ := h
  have hN' : 80 ≤ gN G := Nat.le_trans (by decide) hN
  have hbd : ∀ q, q < 36 → bd (S (65 + n) q) := fun q hq => by
    rw [((h11.2 n (Nat.le_refl n)).2 q hq).2.2]
    refine AK_bd (fun y => ?_) (fun x hx => rdX_bd h1 (GT_ok h9 (Nat.le_refl n)) x hx _ _ (qOk_q hq))
    have := (h9.2.2 n (Nat.le_refl n)).1
    unfold rdN at this; rw [y] at this; exact absurd this (by decide)
  obtain ⟨Q, eQ⟩ : ∃ Q, Q = cvS S n 36 := ⟨_, rfl⟩
  obtain ⟨a1, a2⟩ := cv_all hbd 36 (Nat.le_refl _)
  have hzc := cvS_le S n 36
  have kc : kC S (cvS S n 36).1 := fun q hq => cvS_ne (by omega) (by omega) 36
  have hRE0 : ∀ f mk : Nat → Int32, (∀ q, q < 36 → mk q = S (65 + n) q) → RE ((cvS S n 36).1 19, (cvS S n 36).2) (gtL f mk 36) := fun f mk hm => RE_all hm 36 (Nat.le_refl _)
  have K0 := fun hh => kX5_fewest (G := G) hN' h4 h1 hh
  rw [← eQ] at a1 a2 hzc kc hRE0 K0
  clear eQ
  obtain ⟨D0, d01, d02, -⟩ := orA_b (F := fun i => (Q.1 19 i).toNatClampNeg) (fun i hi => bd_cl (a1 i hi)) Q.2 (Nat.le_refl _)
  have K1 := K0 ⟨D0, d01, a2.trans d02⟩
  have hi := IV_kC h0 kc
  obtain ⟨r1, r2, r3⟩ := rd_rep hi (Nat.le_refl n)
  refine ⟨_, _, K1, ?_⟩
  have hmk : ∀ q, q < 36 → akF ((rdL Q.1 n).1 83) (qk q) (qa q) (rdL Q.1 n).2 = S (65 + n) q := fun q hq => by
    rw [ak_l r1 r2 r3 (qOk_q hq), kc 81 (by omega), h7, ((h11.2 n (Nat.le_refl n)).2 q hq).2.2]
  obtain ⟨P, eP⟩ : ∃ P, P = gtL ((rdL Q.1 n).1 85) (fun q => akF ((rdL Q.1 n).1 83) (qk q) (qa q) (rdL Q.1 n).2) 36 := ⟨_, rfl⟩
  have hRE : RE (Q.1 19, Q.2) P := by rw [eP]; exact hRE0 _ _ hmk
  have hm : ∀ i, i < P.2 → P.1 i = nI ((P.1 i).toNatClampNeg) ∧ (P.1 i).toNatClampNeg < 16384 := fun i hi2 => by
    rcases hRE with ⟨e, hf⟩ | ⟨-, -, e⟩
    · have e : Q.2 = P.2 := e
      have hf := hf i (by show i < Q.2; omega)
      rw [← hf]; exact bd_cl (a1 i (by omega))
    · have e : P.2 = 0 := e
      omega
  obtain ⟨D, d1, d2, d3⟩ := orA_b (F := fun i => (P.1 i).toNatClampNeg) hm P.2 (Nat.le_refl _)
  have K2 := kX6_fewest (G := G) (S := Q.1) (n := n) (Ok := fun k c => ∃ C, C < 16384 ∧ c = nI C ∧ (∀ t, C.testBit t = true → D.testBit t = true) ∧ bsN (dN D C) 14 ≤ k) hN (by rw [kc 80 (by omega)]; exact h6) h1 (GT_MR (IV_GT hi) (Nat.le_refl n)) (by
      rw [← eP, d2]
      rintro c ⟨C, c1, c2, c3, c4⟩
      rw [c2, sub_eq c3 (bs_0 (dN_lt d1) (by omega))]) (by
      rw [← eP, d2]
      rintro k c j ⟨C, c1, c2, c3, c4⟩ hne hj hl
      have hL0 : dN D C ≠ 0 := fun q => hne (by rw [c2, sub_eq c3 q])
      obtain ⟨t, t1, t2, t3⟩ := low_n (dN_lt (F := C) d1) hL0
      have el : lowF (nI D) c = nI (2 ^ t) := by rw [c2]; unfold lowF; rw [dif_n]; exact t3
      rw [el] at hl
      have hb : (P.1 j).toNatClampNeg.testBit t = true := by
        apply Classical.byContradiction; intro y
        exact hl ((f_bit (F := fun i => (P.1 i).toNatClampNeg) hm hj t1).mpr y)
      have h16 := (hm j hj).2
      refine ⟨C ||| (P.1 j).toNatClampNeg, Nat.or_lt_two_pow (n := 14) c1 h16, ?_, fun u hu => ?_, ?_⟩
      · rw [c2, ← or_n (by omega) (by omega), ← (hm j hj).1]
      · rw [Nat.testBit_or, Bool.or_eq_true] at hu
        exact hu.elim (c3 u) (fun y => (d3 u).mpr ⟨j, hj, y⟩)
      · rw [dN_or]
        have := bs_dec (dN_lt (F := C) d1) t2 hb
        omega) ⟨0, by decide, rfl, fun t ht => (by rw [Nat.zero_testBit] at ht; cases ht), bsN_le _ 14⟩
  rw [← eP] at K2
  refine ⟨_, K2, fun r0 S2 q => ⟨?_, n, b, IV_kM hi ?_⟩⟩
  · rw [q.1, a2]
    congr 1
    exact (few_eq (fm := P.1) (zm := P.2) hRE hzc a1).symm
  · obtain ⟨k1, k2, k3, k4⟩ := rdL_kM Q.1 n
    refine ⟨?_, ?_, ?_, fun q2 hq2 => ?_⟩
    · rw [q.2 81 (by decide) (by decide), pce_ne (by decide)]; exact k1
    · rw [q.2 80 (by decide) (by decide), pce_ne (by decide)]; exact k2
    · rw [q.2 82 (by decide) (by decide), pce_ne (by decide)]; exact k3
    · rw [q.2 q2 (by omega) (by omega), pce_ne (by omega)]; exact k4 q2 hq2
