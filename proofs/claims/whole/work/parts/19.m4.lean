def ct (f : Nat → Bool) : Nat → Nat
  | 0 => 0
  | k + 1 => if f k then ct f k + 1 else ct f k
theorem ct_s (f : Nat → Bool) (k : Nat) : ct f k ≤ ct f (k + 1) := by simp only [ct]; split <;> omega
theorem ct_mono (f : Nat → Bool) {j k : Nat} (h : j ≤ k) : ct f j ≤ ct f k := by
  induction k with
  | zero => rw [show j = 0 by omega]; exact Nat.le_refl _
  | succ k ih =>
    by_cases e : j = k + 1
    · rw [e]; exact Nat.le_refl _
    · exact Nat.le_trans (ih (by omega)) (ct_s f k)
def saN (g : Nat → Int32) (s : Nat) : Nat := (g (s * 5 + 0)).toNatClampNeg
def sbN (g : Nat → Int32) (s : Nat) : Nat := (g (s * 5 + 3)).toNatClampNeg
abbrev whoN (a : Nat) : Prop := a < 8 ∨ a = 40 ∨ a = 41
def wfM (g : Nat → Int32) (s : Nat) : Prop := (∃ a, whoN a ∧ g (s * 5 + 0) = nI a) ∧ okM g s ∧ (g (s * 5 + 1) = nI 33 → ∃ a, whoN a ∧ g (s * 5 + 3) = nI a)
def mmB (g : Nat → Int32) (a s p : Nat) : Bool := !decide (mmF g a s p = 0)
def gB (r s a : Nat) : Nat → Nat → Sx × Nat → Sx × Nat
  | 0, _, p => p
  | k + 1, j, p => gB r s a k (j + 1) (if mmF (p.1 81) (sbN (p.1 81) s) s j = 0 then p else (trF p.1 r s a (nI j) p.2, trN p.1 r s a (nI j) p.2))
def gW (r s : Nat) : Nat → Nat → Sx × Nat → Sx × Nat
  | 0, _, p => p
  | k + 1, a, p => gW r s k (a + 1) (if mmF (p.1 81) (saN (p.1 81) s) s a = 0 then p else if p.1 81 (s * 5 + 1) = nI 33 then gB r s a 8 0 p else (trF p.1 r s a (-1) p.2, trN p.1 r s a (-1) p.2))
def gR (s : Nat) : Nat → Nat → Sx × Nat → Sx × Nat
  | 0, _, p => p
  | k + 1, r, p => gR s k (r + 1) (gW r s 8 0 p)
def cpN (S : Sx) (i : Nat) : Sx := fun c j => if c = 83 ∧ j < i then S 84 j else S c j
theorem cpN_0 (S : Sx) : cpN S 0 = S := by funext c j; simp [cpN]
theorem cpN_ne {S : Sx} {i q : Nat} (h : q ≠ 83) : cpN S i q = S q := by funext j; unfold cpN; rw [if_neg (by omega)]
theorem cpN_s (S : Sx) (i : Nat) : st (cpN S i) 83 i (cpN S i 84 i) = cpN S (i + 1) := by
  funext c j
  rw [cpN_ne (by decide)]
  simp only [st_at, cpN]
  by_cases hc : c = 83
  · subst hc
    by_cases hj : j = i
    · subst hj; simp
    · have e : (j < i + 1) = (j < i) := propext ⟨fun _ => by omega, fun _ => by omega⟩
      simp [hj, e]
  · simp [hc]
def gO2 (s : Nat) (p : Sx × Nat) : Sx × Nat := gR s p.2 0 (st p.1 80 5 (nI 0), 0)
def goP (s : Nat) (p : Sx × Nat) : Sx × Nat := (cpN (gO2 s p).1 ((gO2 s p).2 * 104), (gO2 s p).2)
/-- what stays while a sentence is gone through -/
def gI2 (S : Sx) (p : Sx × Nat) : Prop := p.1 81 = S 81 ∧ p.1 80 5 = nI p.2 ∧ p.1 80 0 = S 80 0
theorem gI2_t {S : Sx} {p : Sx × Nat} {r s a : Nat} {b : Int32} (h : gI2 S p) : gI2 S (trF p.1 r s a b p.2, trN p.1 r s a b p.2) :=
  ⟨(trF_ne (by decide) (by decide)).trans h.1, trF_n h.2.1, (trF_0 (by decide)).trans h.2.2⟩

set_option maxRecDepth 100000 in
set_option maxHeartbeats 4000000 in
theorem kX6_goes {G : Cx} {S : Sx} (hN : 88 ≤ gN G) {s had sa sb : Nat} {S' : Sx} (hs : s < 14) (hm : S 80 5 = nI had) (h64 : had ≤ 64) (hwf : wfM (S 81) s) (hsaw : whoN sa) (hsa : S 81 (s * 5 + 0) = nI sa) (hsbw : S 81 (s * 5 + 1) = nI 33 → whoN sb) (hsb : S 81 (s * 5 + 1) = nI 33 → S 81 (s * 5 + 3) = nI sb) (hcA : ct (fun q => mmB (S 81) (saN (S 81) s) s q) 8 ≤ 2) (hcB : S 81 (s * 5 + 1) = nI 33 → ct (fun q => mmB (S 81) (sbN (S 81) s) s q) 8 ≤ 2) (hS : (goP s (S, had)).1 = S') : CV G (3) yX6_goes cX6_goes 6 [ra G 80, .int (nI s)] S (S') := by
  refine CV_of (by decide) (Nat.le_of_ble_eq_true rfl) (by intro v hv; simp only [List.mem_cons, List.not_mem_nil, or_false] at hv; rcases hv with rfl | rfl <;> rfl) (fun F X E => ?_)
  have hR := RV_R E
  have hsbN : ∀ {p : Sx × Nat}, gI2 S p → sbN (p.1 81) s = sb ∨ ¬ S 81 (s * 5 + 1) = nI 33 := fun h => by
    by_cases q : S 81 (s * 5 + 1) = nI 33
    · left; unfold sbN; rw [h.1, hsb q, nI_clamp (by rcases hsbw q with z | z | z <;> omega)]
    · exact Or.inr q
  have hsaN : ∀ {p : Sx × Nat}, gI2 S p → saN (p.1 81) s = sa := fun h => by unfold saN; rw [h.1, hsa, nI_clamp (by rcases hsaw with z | z | z <;> omega)]
  have loopC : ∀ {r : Nat}, r < 64 → ∀ (a : Nat), a < 8 → S 81 (s * 5 + 1) = nI 33 → ∀ {B : Nat} {R : Sx × Nat} , B + 2 ≤ 256 → (∀ (p : Sx × Nat) (u : Option Value), gI2 S p → p = R → p.2 ≤ B + 2 → V F G p.1 111 [some (ra G 80), some (.int (nI s)), some (.int (nI had)), some (.int (nI r)), some (.int (nI a)), u] []) → ∀ (k j : Nat) (p : Sx × Nat), j + k = 8 → gI2 S p → gB r s a k j p = R → p.2 ≤ B + ct (fun q => mmB (S 81) (sbN (S 81) s) s q) j → V F G p.1 72 [some (ra G 80), some (.int (nI s)), some (.int (nI had)), some (.int (nI r)), some (.int (nI a)), some (.int (nI j))] [] := by
    intro r hr64 a ha h33 B R hB kx k
    induction k with
    | zero =>
      intro j p hj hi hr hb
      have hj8 : j = 8 := by omega
      subst hj8
      have hcB := hcB h33
      refine V_iload X dX6_goes_72 rfl ?_
      refine V_bipush X (nI 8) dX6_goes_74 (by decide) ?_
      refine V_cN_ge X 111 (by omega) (by omega) dX6_goes_76 (by decide) (fun h76 => ?_) (fun h76 => ?_)
      · exact kx p _ hi (by rw [gB] at hr; exact hr) (by omega)
      · omega
    | succ k ih =>
      intro j p hj hi hr hb
      have hcB := hcB h33
      have hsbN := (hsbN hi).resolve_right (fun z => z h33)
      have hsb := hsb h33
      have hsbw := hsbw h33
      refine V_iload X dX6_goes_72 rfl ?_
      refine V_bipush X (nI 8) dX6_goes_74 (by decide) ?_
      refine V_cN_ge X 111 (by omega) (by omega) dX6_goes_76 (by decide) (fun h76 => ?_) (fun h76 => ?_)
      · omega
      · refine V_aload_n X dX6_goes_79 rfl ?_
        refine V_aload_n X dX6_goes_80 rfl ?_
        refine V_iload_n X dX6_goes_81 rfl ?_
        refine V_iconst X (nI 3) dX6_goes_82 (by decide) ?_
        refine V_cvi X (ltN (by decide) hN) rfl rfl rfl (kX6_signAt hN (by omega) (by omega)) cwX6_39 rfl (rm_ok hR (by decide) (by decide)) (Nat.le_of_ble_eq_true rfl) dX6_goes_83 ?_
        refine V_top (nI (sb)) (by rw [hi.1]; exact hsb) ?_
        refine V_iload_n X dX6_goes_86 rfl ?_
        refine V_iload X dX6_goes_87 rfl ?_
        refine V_cvi X (ltN (by decide) hN) rfl rfl rfl (kX6_mayMean hN hsbw (by omega) (by omega)) cwX6_64 rfl (rm_ok hR (by decide) (by decide)) (Nat.le_of_ble_eq_true rfl) dX6_goes_89 ?_
        refine V_if_eq X 105 dX6_goes_92 (by decide) (fun h92 => ?_) (fun h92 => ?_)
        · have h92 : mmF (p.1 81) (sbN (p.1 81) s) s j = 0 := by rw [hsbN]; exact h92
          refine V_iinc X (nI (_ + 1)) dX6_goes_105 (by rw [hR.2]; decide) rfl (nI_add _ 1) ?_
          refine V_goto X 72 dX6_goes_108 (by decide) ?_
          exact ih (j + 1) _ (by omega) hi (by rw [gB, if_pos h92] at hr; exact hr) (by have := ct_s (fun q => mmB (S 81) (sbN (S 81) s) s q) j; omega)
        · have h92 : ¬ mmF (p.1 81) (sbN (p.1 81) s) s j = 0 := by rw [hsbN]; exact h92
          have hc1 : ct (fun q => mmB (S 81) (sbN (S 81) s) s q) (j + 1) = ct (fun q => mmB (S 81) (sbN (S 81) s) s q) j + 1 := by rw [ct, if_pos (by unfold mmB; rw [← hi.1, decide_eq_false h92]; rfl)]
          have hc2 := ct_mono (fun q => mmB (S 81) (sbN (S 81) s) s q) (show j + 1 ≤ 8 by omega)
          refine V_aload_n X dX6_goes_95 rfl ?_
          refine V_iload_n X dX6_goes_96 rfl ?_
          refine V_iload_n X dX6_goes_97 rfl ?_
          refine V_iload X dX6_goes_98 rfl ?_
          refine V_iload X dX6_goes_100 rfl ?_
          refine V_cvv X (ltN (by decide) hN) rfl rfl rfl (kX6_tries hN hi.2.1 (by omega) (by omega) (by omega) ha (by rw [hi.1]; exact hwf.2.1) (by omega)) cwX6_67 rfl (rm_ok hR (by decide) (by decide)) (Nat.le_of_ble_eq_true rfl) dX6_goes_102 ?_
          refine V_iinc X (nI (_ + 1)) dX6_goes_105 (by rw [hR.2]; decide) rfl (nI_add _ 1) ?_
          refine V_goto X 72 dX6_goes_108 (by decide) ?_
          exact ih (j + 1) (trF p.1 r s a (nI j) p.2, trN p.1 r s a (nI j) p.2) (by omega) (gI2_t hi) (by rw [gB, if_neg h92] at hr; exact hr) (by have := trN_le p.1 r s a (nI j) p.2; show trN _ _ _ _ _ _ ≤ _; omega)
  have loopB : ∀ (r : Nat), r < had → ∀ {R : Sx × Nat}, (∀ (p : Sx × Nat) (u w : Option Value), gI2 S p → p = R → p.2 ≤ 4 * r + 4 → V F G p.1 117 [some (ra G 80), some (.int (nI s)), some (.int (nI had)), some (.int (nI r)), u, w] []) → ∀ (f a : Nat) (p : Sx × Nat) (w : Option Value), a ≤ 8 → 8 - a < f → gI2 S p → gW r s (8 - a) a p = R → p.2 ≤ 4 * r + 2 * ct (fun q => mmB (S 81) (saN (S 81) s) s q) a → V F G p.1 20 [some (ra G 80), some (.int (nI s)), some (.int (nI had)), some (.int (nI r)), some (.int (nI a)), w] [] := by
    intro r hr0 R kx f
    induction f with
    | zero => intro a p w h1 h2; omega
    | succ f ih =>
      intro a p w h1 h2 hi hr hb
      have hsaN := hsaN hi
      refine V_iload X dX6_goes_20 rfl ?_
      refine V_bipush X (nI 8) dX6_goes_22 (by decide) ?_
      refine V_cN_ge X 117 (by omega) (by omega) dX6_goes_24 (by decide) (fun h24 => ?_) (fun h24 => ?_)
      · exact kx _ _ _ hi (by rw [show 8 - a = 0 by omega, gW] at hr; exact hr) (by have := ct_mono (fun q => mmB (S 81) (saN (S 81) s) s q) (show a ≤ 8 by omega); omega)
      · have h8 : 8 - a = (8 - (a + 1)) + 1 := by omega
        refine V_aload_n X dX6_goes_27 rfl ?_
        refine V_aload_n X dX6_goes_28 rfl ?_
        refine V_iload_n X dX6_goes_29 rfl ?_
        refine V_iconst X (nI 0) dX6_goes_30 (by decide) ?_
        refine V_cvi X (ltN (by decide) hN) rfl rfl rfl (kX6_signAt hN (by omega) (by omega)) cwX6_39 rfl (rm_ok hR (by decide) (by decide)) (Nat.le_of_ble_eq_true rfl) dX6_goes_31 ?_
        refine V_top (nI (sa)) (by rw [hi.1]; exact hsa) ?_
        refine V_iload_n X dX6_goes_34 rfl ?_
        refine V_iload X dX6_goes_35 rfl ?_
        refine V_cvi X (ltN (by decide) hN) rfl rfl rfl (kX6_mayMean hN hsaw (by omega) (by omega)) cwX6_64 rfl (rm_ok hR (by decide) (by decide)) (Nat.le_of_ble_eq_true rfl) dX6_goes_37 ?_
        refine V_if_ne X 46 dX6_goes_40 (by decide) (fun h40 => ?_) (fun h40 => ?_)
        · have h40 : ¬ mmF (p.1 81) (saN (p.1 81) s) s a = 0 := by rw [hsaN]; exact h40
          have hc1 : ct (fun q => mmB (S 81) (saN (S 81) s) s q) (a + 1) = ct (fun q => mmB (S 81) (saN (S 81) s) s q) a + 1 := by rw [ct, if_pos (by unfold mmB; rw [← hi.1, decide_eq_false h40]; rfl)]
          have hc2 := ct_mono (fun q => mmB (S 81) (saN (S 81) s) s q) (show a + 1 ≤ 8 by omega)
          refine V_aload_n X dX6_goes_46 rfl ?_
          refine V_iload_n X dX6_goes_47 rfl ?_
          refine V_iconst X (nI 1) dX6_goes_48 (by decide) ?_
          refine V_cvi X (ltN (by decide) hN) rfl rfl rfl (kX6_signAt hN (by omega) (by omega)) cwX6_39 rfl (rm_ok hR (by decide) (by decide)) (Nat.le_of_ble_eq_true rfl) dX6_goes_49 ?_
          refine V_bipush X (nI 33) dX6_goes_52 (by decide) ?_
          refine V_icmp_eq X 69 dX6_goes_54 (by decide) (fun h54 => ?_) (fun h54 => ?_)
          · refine V_iconst X (nI 0) dX6_goes_69 (by decide) ?_
            refine V_istore X dX6_goes_70 (by rw [hR.2]; decide) ?_
            have h33 : S 81 (s * 5 + 1) = nI 33 := by rw [← hi.1]; exact h54
            refine loopC (by omega) a (by omega) h33 (B := 4 * r + 2 * ct (fun q => mmB (S 81) (saN (S 81) s) s q) a) (R := gB r s a 8 0 p) (by omega) (fun p2 u hi2 e2 hb2 => ?_) 8 0 p rfl hi rfl (by show _ ≤ _ + 0; omega)
            refine V_iinc X (nI (_ + 1)) dX6_goes_111 (by rw [hR.2]; decide) rfl (nI_add _ 1) ?_
            refine V_goto X 20 dX6_goes_114 (by decide) ?_
            exact ih (a + 1) p2 _ (by omega) (by omega) hi2 (by rw [h8, gW, if_neg h40, if_pos h54, ← e2] at hr; exact hr) (by omega)
          · refine V_aload_n X dX6_goes_57 rfl ?_
            refine V_iload_n X dX6_goes_58 rfl ?_
            refine V_iload_n X dX6_goes_59 rfl ?_
            refine V_iload X dX6_goes_60 rfl ?_
            refine V_iconst X (-1) dX6_goes_62 (by decide) ?_
            refine V_cvv X (ltN (by decide) hN) rfl rfl rfl (kX6_triesN hN hi.2.1 (by omega) (by omega) (by omega) (by omega) (by rw [hi.1]; exact hwf.2.1) (fun q => h54 q)) cwX6_67 rfl (rm_ok hR (by decide) (by decide)) (Nat.le_of_ble_eq_true rfl) dX6_goes_63 ?_
            refine V_goto X 111 dX6_goes_66 (by decide) ?_
            refine V_iinc X (nI (_ + 1)) dX6_goes_111 (by rw [hR.2]; decide) rfl (nI_add _ 1) ?_
            refine V_goto X 20 dX6_goes_114 (by decide) ?_
            exact ih (a + 1) (trF p.1 r s a (-1) p.2, trN p.1 r s a (-1) p.2) _ (by omega) (by omega) (gI2_t hi) (by rw [h8, gW, if_neg h40, if_neg h54] at hr; exact hr) (by have := trN_le p.1 r s a (-1) p.2; show trN _ _ _ _ _ _ ≤ _; omega)
        · have h40 : mmF (p.1 81) (saN (p.1 81) s) s a = 0 := by rw [hsaN]; exact ts_nn h40
          refine V_goto X 111 dX6_goes_43 (by decide) ?_
          refine V_iinc X (nI (_ + 1)) dX6_goes_111 (by rw [hR.2]; decide) rfl (nI_add _ 1) ?_
          refine V_goto X 20 dX6_goes_114 (by decide) ?_
          exact ih (a + 1) _ _ (by omega) (by omega) hi (by rw [h8, gW, if_pos h40] at hr; exact hr) (by have := ct_s (fun q => mmB (S 81) (saN (S 81) s) s q) a; omega)
  have loopA : ∀ {R : Sx × Nat}, (∀ (p : Sx × Nat) (v u w : Option Value), gI2 S p → p = R → p.2 ≤ 256 → V F G p.1 123 [some (ra G 80), some (.int (nI s)), some (.int (nI had)), v, u, w] []) → ∀ (f r : Nat) (p : Sx × Nat) (u w : Option Value), r ≤ had → had - r < f → gI2 S p → gR s (had - r) r p = R → p.2 ≤ 4 * r → V F G p.1 12 [some (ra G 80), some (.int (nI s)), some (.int (nI had)), some (.int (nI r)), u, w] [] := by
    intro R kx f
    induction f with
    | zero => intro r p u w h1 h2; omega
    | succ f ih =>
      intro r p u w h1 h2 hi hr hb
      refine V_iload_n X dX6_goes_12 rfl ?_
      refine V_iload_n X dX6_goes_13 rfl ?_
      refine V_cN_ge X 123 (by omega) (by omega) dX6_goes_14 (by decide) (fun h14 => ?_) (fun h14 => ?_)
      · exact kx _ _ _ _ hi (by rw [show had - r = 0 by omega, gR] at hr; exact hr) (by omega)
      · have hm : had - r = (had - (r + 1)) + 1 := by omega
        refine V_iconst X (nI 0) dX6_goes_17 (by decide) ?_
        refine V_istore X dX6_goes_18 (by rw [hR.2]; decide) ?_
        refine loopB r h14 (R := gW r s 8 0 p) (fun p2 u w hi2 e2 hb2 => ?_) 9 0 p _ (by omega) (by omega) hi rfl (by show _ ≤ _ + 2 * 0; omega)
        refine V_iinc X (nI (_ + 1)) dX6_goes_117 (by rw [hR.2]; decide) rfl (nI_add _ 1) ?_
        refine V_goto X 12 dX6_goes_120 (by decide) ?_
        exact ih (r + 1) p2 _ _ (by omega) (by omega) hi2 (by rw [hm, gR, ← e2] at hr; exact hr) (by omega)
  have loopD : ∀ (p : Sx × Nat), gI2 S p → p.2 ≤ 256 → cpN p.1 (p.2 * 104) = S' → ∀ (u w : Option Value) (f i : Nat) (S1 : Sx), i ≤ p.2 * 104 → p.2 * 104 - i < f → S1 = cpN p.1 i → V F G S1 125 [some (ra G 80), some (.int (nI s)), some (.int (nI had)), some (.int (nI i)), u, w] [] := by
    intro p hi h256 hE u w f
    induction f with
    | zero => intro i S1 h1 h2; omega
    | succ f ih =>
      intro i S1 h1 h2 hs
      refine V_iload_n X dX6_goes_125 rfl ?_
      refine V_aload_n X dX6_goes_126 rfl ?_
      refine V_geti X flX6_54 (ltN (by decide) hN) rfl rfl dX6_goes_127 ?_
      refine V_top (nI (p.2)) (by rw [hs, cpN_ne (by decide)]; exact hi.2.1) ?_
      refine V_bipush X (nI 104) dX6_goes_130 (by decide) ?_
      refine V_mulN X dX6_goes_132 ?_
      refine V_cN_ge X 154 (by omega) (by omega) dX6_goes_133 (by decide) (fun h133 => ?_) (fun h133 => ?_)
      · exact V_vret X E dX6_goes_154 (by rw [hs, show i = p.2 * 104 by omega]; exact hE)
      · refine V_aload_n X dX6_goes_136 rfl ?_
        refine V_getr X flX6_16 (ltN (by decide) hN) rfl rfl dX6_goes_137 ?_
        refine V_iload_n X dX6_goes_140 rfl ?_
        refine V_aload_n X dX6_goes_141 rfl ?_
        refine V_getr X flX6_19 (ltN (by decide) hN) rfl rfl dX6_goes_142 ?_
        refine V_iload_n X dX6_goes_145 rfl ?_
        refine V_ialdN X (ltN (by decide) hN) rfl (by omega) (by decide) dX6_goes_146 ?_
        refine V_iastN X (ltN (by decide) hN) rfl (by omega) (by decide) dX6_goes_147 ?_
        refine V_iinc X (nI (_ + 1)) dX6_goes_148 (by rw [hR.2]; decide) rfl (nI_add _ 1) ?_
        refine V_goto X 125 dX6_goes_151 (by decide) ?_
        exact ih (i + 1) _ (by omega) (by omega) (by rw [hs]; exact cpN_s _ i)
  refine V_aload_n X dX6_goes_0 rfl ?_
  refine V_geti X flX6_54 (ltN (by decide) hN) rfl rfl dX6_goes_1 ?_
  refine V_top (nI (had)) (hm) ?_
  refine V_istore_n X dX6_goes_4 (by rw [hR.2]; decide) ?_
  refine V_aload_n X dX6_goes_5 rfl ?_
  refine V_iconst X (nI 0) dX6_goes_6 (by decide) ?_
  refine V_puti X fpX6_54 (ltN (by decide) hN) rfl rfl dX6_goes_7 ?_
  refine V_iconst X (nI 0) dX6_goes_10 (by decide) ?_
  refine V_istore_n X dX6_goes_11 (by rw [hR.2]; decide) ?_
  refine loopA (R := gO2 s (S, had)) (fun p2 v u w hi2 e2 hb2 => ?_) (had + 1) 0 (st S 80 5 (nI 0), 0) none none (by omega) (by omega) ⟨rfl, by dsimp only; rw [st_at, if_pos ⟨rfl, rfl⟩], by dsimp only; rw [st_at, if_neg (by omega)]⟩ rfl (by show 0 ≤ _; omega)
  refine V_iconst X (nI 0) dX6_goes_123 (by decide) ?_
  refine V_istore_n X dX6_goes_124 (by rw [hR.2]; decide) ?_
  exact loopD p2 hi2 hb2 (by rw [e2]; exact hS) u w (p2.2 * 104 + 1) 0 p2.1 (by omega) (by omega) (cpN_0 p2.1).symm

theorem ct_le {f h : Nat → Bool} : ∀ k, (∀ p, p < k → f p = true → h p = true) → ct f k ≤ ct h k
  | 0, _ => Nat.le_refl _
  | k + 1, hh => by
    have := ct_le k (fun p hp => hh p (by omega))
    have h1 := hh k (by omega)
    simp only [ct]
    cases hf : f k with
    | false => simp; split <;> omega
    | true => rw [h1 hf]; simp; omega
theorem ct_or (f h : Nat → Bool) : ∀ k, ct (fun p => f p || h p) k ≤ ct f k + ct h k
  | 0 => Nat.le_refl _
  | k + 1 => by
    have := ct_or f h k
    simp only [ct]
    by_cases hf : f k = true <;> by_cases hh : h k = true <;> simp [hf, hh] <;> omega
theorem ct_inj (x : Int32) : ∀ k, k ≤ 8 → ct (fun p => decide (nI p = x)) k ≤ 1 ∧ ((∀ p, p < k → nI p ≠ x) → ct (fun p => decide (nI p = x)) k = 0)
  | 0, _ => ⟨Nat.zero_le _, fun _ => rfl⟩
  | k + 1, hk => by
    obtain ⟨h1, h2⟩ := ct_inj x k (by omega)
    simp only [ct]
    by_cases e : nI k = x
    · have := h2 (fun p hp q => by have := (nI_eq (a := p) (b := k) (by omega) (by omega)).mp (q.trans e.symm); omega)
      rw [this]
      simp [e]
      exact ⟨k, by omega, e⟩
    · simp [e]
      exact ⟨h1, fun hh => h2 (fun p hp => hh p (by omega))⟩
theorem ct_two {f : Nat → Bool} {x y : Int32} (h : ∀ p, p < 8 → f p = true → nI p = x ∨ nI p = y) : ct f 8 ≤ 2 := by
  have h1 := ct_le (f := f) (h := fun p => decide (nI p = x) || decide (nI p = y)) 8 (fun p hp hf => by rcases h p hp hf with q | q <;> simp [q])
  have h2 := ct_or (fun p => decide (nI p = x)) (fun p => decide (nI p = y)) 8
  have h3 := (ct_inj x 8 (by omega)).1
  have h4 := (ct_inj y 8 (by omega)).1
  omega
theorem mmL_two (g : Nat → Int32) (t : Nat) : ∀ s, ∃ x y : Int32, ∀ p, ¬ mmL g t p s = 0 → nI p = x ∨ nI p = y
  | 0 => ⟨0, 0, fun p h => absurd rfl h⟩
  | k + 1 => by
    by_cases e : anN g k t = true
    · refine ⟨g (k * 5 + 0), g (k * 5 + 3), fun p h => ?_⟩
      rw [mmL, if_pos e] at h
      rcases bi_ne.mp h with q | q
      · exact Or.inl q.symm
      · exact Or.inr q.2.symm
    · obtain ⟨x, y, h⟩ := mmL_two g t k
      exact ⟨x, y, fun p hp => h p (by rw [mmL, if_neg e] at hp; exact hp)⟩
theorem ct_mm (g : Nat → Int32) (a s : Nat) : ct (fun q => mmB g a s q) 8 ≤ 2 := by
  by_cases ha : a < 8
  · refine ct_two (x := nI a) (y := nI a) (fun p hp h => Or.inl ?_)
    unfold mmB mmF at h
    rw [if_pos ha] at h
    have : a = p := bi_ne.mp (by simpa using h)
    rw [this]
  · obtain ⟨x, y, hh⟩ := mmL_two g (a - 40) s
    refine ct_two (x := x) (y := y) (fun p hp h => hh p ?_)
    unfold mmB mmF at h
    rw [if_neg ha] at h
    split at h
    · simpa using h
    · exact absurd h (by decide)
theorem kX6_go {G : Cx} {S : Sx} (hN : 88 ≤ gN G) {s had : Nat} (hs : s < 14) (hm : S 80 5 = nI had) (h64 : had ≤ 64) (hwf : wfM (S 81) s) : CV G 3 yX6_goes cX6_goes 6 [ra G 80, .int (nI s)] S (goP s (S, had)).1 := by
  obtain ⟨sa, h1, h2⟩ := hwf.1
  by_cases e : S 81 (s * 5 + 1) = nI 33
  · obtain ⟨sb, h3, h4⟩ := hwf.2.2 e
    exact kX6_goes hN hs hm h64 hwf h1 h2 (fun _ => h3) (fun _ => h4) (ct_mm _ _ _) (fun _ => ct_mm _ _ _) rfl
  · exact kX6_goes (sb := 0) hN hs hm h64 hwf h1 h2 (fun q => absurd q e) (fun q => absurd q e) (ct_mm _ _ _) (fun _ => ct_mm _ _ _) rfl
theorem gB_I {S : Sx} {r s a : Nat} : ∀ (k j : Nat) (p : Sx × Nat), gI2 S p → gI2 S (gB r s a k j p)
  | 0, _, _, h => h
  | k + 1, j, p, h => by
    unfold gB; refine gB_I k (j + 1) _ ?_; split
    · exact h
    · exact gI2_t h
theorem gW_I {S : Sx} {r s : Nat} : ∀ (k a : Nat) (p : Sx × Nat), gI2 S p → gI2 S (gW r s k a p)
  | 0, _, _, h => h
  | k + 1, a, p, h => by
    unfold gW; refine gW_I k (a + 1) _ ?_; split
    · exact h
    · split
      · exact gB_I 8 0 p h
      · exact gI2_t h
theorem gR_I {S : Sx} {s : Nat} : ∀ (k r : Nat) (p : Sx × Nat), gI2 S p → gI2 S (gR s k r p)
  | 0, _, _, h => h
  | k + 1, r, p, h => by unfold gR; exact gR_I k (r + 1) _ (gW_I 8 0 p h)
theorem gO2_I {S : Sx} {s : Nat} {p : Sx × Nat} (h : gI2 S p) : gI2 S (gO2 s p) :=
  gR_I _ _ _ ⟨by dsimp only; rw [st_ne (by decide)]; exact h.1, by dsimp only; rw [st_at, if_pos ⟨rfl, rfl⟩], by dsimp only; rw [st_at, if_neg (by omega)]; exact h.2.2⟩
theorem goP_I {S : Sx} {s : Nat} {p : Sx × Nat} (h : gI2 S p) : gI2 S (goP s p) := by
  have h2 := gO2_I (s := s) h
  unfold goP
  exact ⟨by dsimp only; rw [cpN_ne (by decide)]; exact h2.1, by dsimp only; rw [cpN_ne (by decide)]; exact h2.2.1, by dsimp only; rw [cpN_ne (by decide)]; exact h2.2.2⟩
abbrev iniP (i : Nat) : Prop := i < 8 ∨ (16 ≤ i ∧ i < 26) ∨ (46 ≤ i ∧ i < 56) ∨ (66 ≤ i ∧ i < 94)
def iniV (i : Nat) : Int32 := if iniP i then -1 else nI 0
def inF (S : Sx) (i : Nat) : Sx := fun c j => if c = 83 ∧ j < i then iniV j else S c j
theorem inF_0 (S : Sx) : inF S 0 = S := by funext c j; simp [inF]
theorem inF_ne {S : Sx} {i q : Nat} (h : q ≠ 83) : inF S i q = S q := by funext j; unfold inF; rw [if_neg (by omega)]
theorem inF_s (S : Sx) (i : Nat) : st (inF S i) 83 i (iniV i) = inF S (i + 1) := by
  funext c j
  simp only [st_at, inF]
  by_cases hc : c = 83
  · subst hc
    by_cases hj : j = i
    · subst hj; simp
    · have e : (j < i + 1) = (j < i) := propext ⟨fun _ => by omega, fun _ => by omega⟩
      simp [hj, e]
  · simp [hc]
theorem inF_m {S : Sx} {i : Nat} (h : iniP i) : st (inF S i) 83 i (-1) = inF S (i + 1) := by rw [← inF_s, iniV, if_pos h]
theorem inF_z {S : Sx} {i : Nat} (h : ¬ iniP i) : st (inF S i) 83 i (nI 0) = inF S (i + 1) := by rw [← inF_s, iniV, if_neg h]
/-- the readings of the first s sentences, in 'now', and their number -/
def rdL (S : Sx) : Nat → Sx × Nat
  | 0 => (st (inF S 104) 80 5 (nI 1), 1)
  | s + 1 => goP s (rdL S s)
theorem rdL_I (S : Sx) : ∀ i, gI2 S (rdL S i)
  | 0 => by
    unfold rdL
    exact ⟨by dsimp only; rw [st_ne (by decide), inF_ne (by decide)], by dsimp only; rw [st_at, if_pos ⟨rfl, rfl⟩], by dsimp only; rw [st_at, if_neg (by omega), inF_ne (by decide)]⟩
  | i + 1 => goP_I (rdL_I S i)

set_option maxRecDepth 100000 in
set_option maxHeartbeats 4000000 in
theorem kX6_reads {G : Cx} {S : Sx} (hN : 88 ≤ gN G) {k : Nat} (hk : k ≤ 14) (hwf : ∀ s, s < k → wfM (S 81) s) (hM : ∀ s, s < k → (rdL S s).2 ≤ 64) : CV G (4) yX6_reads cX6_reads 3 [ra G 80, .int (nI k)] S ((rdL S k).1) := by
  refine CV_of (by decide) (Nat.le_of_ble_eq_true rfl) (by intro v hv; simp only [List.mem_cons, List.not_mem_nil, or_false] at hv; rcases hv with rfl | rfl <;> rfl) (fun F X E => ?_)
  have hR := RV_R E
  have loop2 : ∀ (f i : Nat) (S1 : Sx), i ≤ k → k - i < f → S1 = (rdL S i).1 → V F G S1 74 [some (ra G 80), some (.int (nI k)), some (.int (nI i))] [] := by
    intro f
    induction f with
    | zero => intro i S1 h1 h2; omega
    | succ f ih =>
      intro i S1 h1 h2 hs
      refine V_iload_n X dX6_reads_74 rfl ?_
      refine V_iload_n X dX6_reads_75 rfl ?_
      refine V_cN_ge X 99 (by omega) (by omega) dX6_reads_76 (by decide) (fun h76 => ?_) (fun h76 => ?_)
      · exact V_vret X E dX6_reads_99 (by rw [hs, show i = k by omega])
      · have hMi := hM i h76
        refine V_aload_n X dX6_reads_79 rfl ?_
        refine V_geti X flX6_54 (ltN (by decide) hN) rfl rfl dX6_reads_80 ?_
        refine V_top (nI ((rdL S i).2)) (by rw [hs]; exact (rdL_I S i).2.1) ?_
        refine V_bipush X (nI 64) dX6_reads_83 (by decide) ?_
        refine V_cN_gt X 99 (by omega) (by omega) dX6_reads_85 (by decide) (fun h85 => ?_) (fun h85 => ?_)
        · omega
        · refine V_aload_n X dX6_reads_88 rfl ?_
          refine V_iload_n X dX6_reads_89 rfl ?_
          refine V_cvv X (ltN (by decide) hN) rfl rfl rfl (kX6_go hN (by omega) (had := (rdL S i).2) (by rw [hs]; exact (rdL_I S i).2.1) (hM i h76) (by rw [hs, (rdL_I S i).1]; exact hwf i h76)) cwX6_61 rfl (rm_ok hR (by decide) (by decide)) (Nat.le_of_ble_eq_true rfl) dX6_reads_90 ?_
          refine V_iinc X (nI (_ + 1)) dX6_reads_93 (by rw [hR.2]; decide) rfl (nI_add _ 1) ?_
          refine V_goto X 74 dX6_reads_96 (by decide) ?_
          exact ih (i + 1) _ (by omega) (by omega) (by subst hs; rfl)
  have loop1 : (∀ (S1 : Sx) (u : Option Value), S1 = inF S 104 → V F G S1 67 [some (ra G 80), some (.int (nI k)), u] []) → ∀ (f i : Nat) (S1 : Sx), i ≤ 104 → 104 - i < f → S1 = inF S i → V F G S1 2 [some (ra G 80), some (.int (nI k)), some (.int (nI i))] [] := by
    intro kx f
    induction f with
    | zero => intro i S1 h1 h2; omega
    | succ f ih =>
      intro i S1 h1 h2 hs
      refine V_iload_n X dX6_reads_2 rfl ?_
      refine V_bipush X (nI 104) dX6_reads_3 (by decide) ?_
      refine V_cN_ge X 67 (by omega) (by omega) dX6_reads_5 (by decide) (fun h5 => ?_) (fun h5 => ?_)
      · exact kx _ _ (by rw [hs, show i = 104 by omega])
      · refine V_aload_n X dX6_reads_8 rfl ?_
        refine V_getr X flX6_16 (ltN (by decide) hN) rfl rfl dX6_reads_9 ?_
        refine V_iload_n X dX6_reads_12 rfl ?_
        refine V_iload_n X dX6_reads_13 rfl ?_
        refine V_bipush X (nI 8) dX6_reads_14 (by decide) ?_
        refine V_cN_lt X 55 (by omega) (by omega) dX6_reads_16 (by decide) (fun h16 => ?_) (fun h16 => ?_)
        · refine V_iconst X (-1) dX6_reads_55 (by decide) ?_
          refine V_goto X 60 dX6_reads_56 (by decide) ?_
          refine V_iastN X (ltN (by decide) hN) rfl (by omega) (by decide) dX6_reads_60 ?_
          refine V_iinc X (nI (_ + 1)) dX6_reads_61 (by rw [hR.2]; decide) rfl (nI_add _ 1) ?_
          refine V_goto X 2 dX6_reads_64 (by decide) ?_
          exact ih (i + 1) _ (by omega) (by omega) (by rw [hs]; first | exact inF_m (by omega) | exact inF_z (by omega))
        · refine V_iload_n X dX6_reads_19 rfl ?_
          refine V_bipush X (nI 16) dX6_reads_20 (by decide) ?_
          refine V_cN_lt X 31 (by omega) (by omega) dX6_reads_22 (by decide) (fun h22 => ?_) (fun h22 => ?_)
          · refine V_iload_n X dX6_reads_31 rfl ?_
            refine V_bipush X (nI 46) dX6_reads_32 (by decide) ?_
            refine V_cN_lt X 43 (by omega) (by omega) dX6_reads_34 (by decide) (fun h34 => ?_) (fun h34 => ?_)
            · refine V_iload_n X dX6_reads_43 rfl ?_
              refine V_bipush X (nI 66) dX6_reads_44 (by decide) ?_
              refine V_cN_lt X 59 (by omega) (by omega) dX6_reads_46 (by decide) (fun h46 => ?_) (fun h46 => ?_)
              · refine V_iconst X (nI 0) dX6_reads_59 (by decide) ?_
                refine V_iastN X (ltN (by decide) hN) rfl (by omega) (by decide) dX6_reads_60 ?_
                refine V_iinc X (nI (_ + 1)) dX6_reads_61 (by rw [hR.2]; decide) rfl (nI_add _ 1) ?_
                refine V_goto X 2 dX6_reads_64 (by decide) ?_
                exact ih (i + 1) _ (by omega) (by omega) (by rw [hs]; first | exact inF_m (by omega) | exact inF_z (by omega))
              · refine V_iload_n X dX6_reads_49 rfl ?_
                refine V_bipush X (nI 94) dX6_reads_50 (by decide) ?_
                refine V_cN_ge X 59 (by omega) (by omega) dX6_reads_52 (by decide) (fun h52 => ?_) (fun h52 => ?_)
                · refine V_iconst X (nI 0) dX6_reads_59 (by decide) ?_
                  refine V_iastN X (ltN (by decide) hN) rfl (by omega) (by decide) dX6_reads_60 ?_
                  refine V_iinc X (nI (_ + 1)) dX6_reads_61 (by rw [hR.2]; decide) rfl (nI_add _ 1) ?_
                  refine V_goto X 2 dX6_reads_64 (by decide) ?_
                  exact ih (i + 1) _ (by omega) (by omega) (by rw [hs]; first | exact inF_m (by omega) | exact inF_z (by omega))
                · refine V_iconst X (-1) dX6_reads_55 (by decide) ?_
                  refine V_goto X 60 dX6_reads_56 (by decide) ?_
                  refine V_iastN X (ltN (by decide) hN) rfl (by omega) (by decide) dX6_reads_60 ?_
                  refine V_iinc X (nI (_ + 1)) dX6_reads_61 (by rw [hR.2]; decide) rfl (nI_add _ 1) ?_
                  refine V_goto X 2 dX6_reads_64 (by decide) ?_
                  exact ih (i + 1) _ (by omega) (by omega) (by rw [hs]; first | exact inF_m (by omega) | exact inF_z (by omega))
            · refine V_iload_n X dX6_reads_37 rfl ?_
              refine V_bipush X (nI 56) dX6_reads_38 (by decide) ?_
              refine V_cN_lt X 55 (by omega) (by omega) dX6_reads_40 (by decide) (fun h40 => ?_) (fun h40 => ?_)
              · refine V_iconst X (-1) dX6_reads_55 (by decide) ?_
                refine V_goto X 60 dX6_reads_56 (by decide) ?_
                refine V_iastN X (ltN (by decide) hN) rfl (by omega) (by decide) dX6_reads_60 ?_
                refine V_iinc X (nI (_ + 1)) dX6_reads_61 (by rw [hR.2]; decide) rfl (nI_add _ 1) ?_
                refine V_goto X 2 dX6_reads_64 (by decide) ?_
                exact ih (i + 1) _ (by omega) (by omega) (by rw [hs]; first | exact inF_m (by omega) | exact inF_z (by omega))
              · refine V_iload_n X dX6_reads_43 rfl ?_
                refine V_bipush X (nI 66) dX6_reads_44 (by decide) ?_
                refine V_cN_lt X 59 (by omega) (by omega) dX6_reads_46 (by decide) (fun h46 => ?_) (fun h46 => ?_)
                · refine V_iconst X (nI 0) dX6_reads_59 (by decide) ?_
                  refine V_iastN X (ltN (by decide) hN) rfl (by omega) (by decide) dX6_reads_60 ?_
                  refine V_iinc X (nI (_ + 1)) dX6_reads_61 (by rw [hR.2]; decide) rfl (nI_add _ 1) ?_
                  refine V_goto X 2 dX6_reads_64 (by decide) ?_
                  exact ih (i + 1) _ (by omega) (by omega) (by rw [hs]; first | exact inF_m (by omega) | exact inF_z (by omega))
                · refine V_iload_n X dX6_reads_49 rfl ?_
                  refine V_bipush X (nI 94) dX6_reads_50 (by decide) ?_
                  refine V_cN_ge X 59 (by omega) (by omega) dX6_reads_52 (by decide) (fun h52 => ?_) (fun h52 => ?_)
                  · refine V_iconst X (nI 0) dX6_reads_59 (by decide) ?_
                    refine V_iastN X (ltN (by decide) hN) rfl (by omega) (by decide) dX6_reads_60 ?_
                    refine V_iinc X (nI (_ + 1)) dX6_reads_61 (by rw [hR.2]; decide) rfl (nI_add _ 1) ?_
                    refine V_goto X 2 dX6_reads_64 (by decide) ?_
                    exact ih (i + 1) _ (by omega) (by omega) (by rw [hs]; first | exact inF_m (by omega) | exact inF_z (by omega))
                  · refine V_iconst X (-1) dX6_reads_55 (by decide) ?_
                    refine V_goto X 60 dX6_reads_56 (by decide) ?_
                    refine V_iastN X (ltN (by decide) hN) rfl (by omega) (by decide) dX6_reads_60 ?_
                    refine V_iinc X (nI (_ + 1)) dX6_reads_61 (by rw [hR.2]; decide) rfl (nI_add _ 1) ?_
                    refine V_goto X 2 dX6_reads_64 (by decide) ?_
                    exact ih (i + 1) _ (by omega) (by omega) (by rw [hs]; first | exact inF_m (by omega) | exact inF_z (by omega))
          · refine V_iload_n X dX6_reads_25 rfl ?_
            refine V_bipush X (nI 26) dX6_reads_26 (by decide) ?_
            refine V_cN_lt X 55 (by omega) (by omega) dX6_reads_28 (by decide) (fun h28 => ?_) (fun h28 => ?_)
            · refine V_iconst X (-1) dX6_reads_55 (by decide) ?_
              refine V_goto X 60 dX6_reads_56 (by decide) ?_
              refine V_iastN X (ltN (by decide) hN) rfl (by omega) (by decide) dX6_reads_60 ?_
              refine V_iinc X (nI (_ + 1)) dX6_reads_61 (by rw [hR.2]; decide) rfl (nI_add _ 1) ?_
              refine V_goto X 2 dX6_reads_64 (by decide) ?_
              exact ih (i + 1) _ (by omega) (by omega) (by rw [hs]; first | exact inF_m (by omega) | exact inF_z (by omega))
            · refine V_iload_n X dX6_reads_31 rfl ?_
              refine V_bipush X (nI 46) dX6_reads_32 (by decide) ?_
              refine V_cN_lt X 43 (by omega) (by omega) dX6_reads_34 (by decide) (fun h34 => ?_) (fun h34 => ?_)
              · refine V_iload_n X dX6_reads_43 rfl ?_
                refine V_bipush X (nI 66) dX6_reads_44 (by decide) ?_
                refine V_cN_lt X 59 (by omega) (by omega) dX6_reads_46 (by decide) (fun h46 => ?_) (fun h46 => ?_)
                · refine V_iconst X (nI 0) dX6_reads_59 (by decide) ?_
                  refine V_iastN X (ltN (by decide) hN) rfl (by omega) (by decide) dX6_reads_60 ?_
                  refine V_iinc X (nI (_ + 1)) dX6_reads_61 (by rw [hR.2]; decide) rfl (nI_add _ 1) ?_
                  refine V_goto X 2 dX6_reads_64 (by decide) ?_
                  exact ih (i + 1) _ (by omega) (by omega) (by rw [hs]; first | exact inF_m (by omega) | exact inF_z (by omega))
                · refine V_iload_n X dX6_reads_49 rfl ?_
                  refine V_bipush X (nI 94) dX6_reads_50 (by decide) ?_
                  refine V_cN_ge X 59 (by omega) (by omega) dX6_reads_52 (by decide) (fun h52 => ?_) (fun h52 => ?_)
                  · refine V_iconst X (nI 0) dX6_reads_59 (by decide) ?_
                    refine V_iastN X (ltN (by decide) hN) rfl (by omega) (by decide) dX6_reads_60 ?_
                    refine V_iinc X (nI (_ + 1)) dX6_reads_61 (by rw [hR.2]; decide) rfl (nI_add _ 1) ?_
                    refine V_goto X 2 dX6_reads_64 (by decide) ?_
                    exact ih (i + 1) _ (by omega) (by omega) (by rw [hs]; first | exact inF_m (by omega) | exact inF_z (by omega))
                  · refine V_iconst X (-1) dX6_reads_55 (by decide) ?_
                    refine V_goto X 60 dX6_reads_56 (by decide) ?_
                    refine V_iastN X (ltN (by decide) hN) rfl (by omega) (by decide) dX6_reads_60 ?_
                    refine V_iinc X (nI (_ + 1)) dX6_reads_61 (by rw [hR.2]; decide) rfl (nI_add _ 1) ?_
                    refine V_goto X 2 dX6_reads_64 (by decide) ?_
                    exact ih (i + 1) _ (by omega) (by omega) (by rw [hs]; first | exact inF_m (by omega) | exact inF_z (by omega))
              · refine V_iload_n X dX6_reads_37 rfl ?_
                refine V_bipush X (nI 56) dX6_reads_38 (by decide) ?_
                refine V_cN_lt X 55 (by omega) (by omega) dX6_reads_40 (by decide) (fun h40 => ?_) (fun h40 => ?_)
                · refine V_iconst X (-1) dX6_reads_55 (by decide) ?_
                  refine V_goto X 60 dX6_reads_56 (by decide) ?_
                  refine V_iastN X (ltN (by decide) hN) rfl (by omega) (by decide) dX6_reads_60 ?_
                  refine V_iinc X (nI (_ + 1)) dX6_reads_61 (by rw [hR.2]; decide) rfl (nI_add _ 1) ?_
                  refine V_goto X 2 dX6_reads_64 (by decide) ?_
                  exact ih (i + 1) _ (by omega) (by omega) (by rw [hs]; first | exact inF_m (by omega) | exact inF_z (by omega))
                · refine V_iload_n X dX6_reads_43 rfl ?_
                  refine V_bipush X (nI 66) dX6_reads_44 (by decide) ?_
                  refine V_cN_lt X 59 (by omega) (by omega) dX6_reads_46 (by decide) (fun h46 => ?_) (fun h46 => ?_)
                  · refine V_iconst X (nI 0) dX6_reads_59 (by decide) ?_
                    refine V_iastN X (ltN (by decide) hN) rfl (by omega) (by decide) dX6_reads_60 ?_
                    refine V_iinc X (nI (_ + 1)) dX6_reads_61 (by rw [hR.2]; decide) rfl (nI_add _ 1) ?_
                    refine V_goto X 2 dX6_reads_64 (by decide) ?_
                    exact ih (i + 1) _ (by omega) (by omega) (by rw [hs]; first | exact inF_m (by omega) | exact inF_z (by omega))
                  · refine V_iload_n X dX6_reads_49 rfl ?_
                    refine V_bipush X (nI 94) dX6_reads_50 (by decide) ?_
                    refine V_cN_ge X 59 (by omega) (by omega) dX6_reads_52 (by decide) (fun h52 => ?_) (fun h52 => ?_)
                    · refine V_iconst X (nI 0) dX6_reads_59 (by decide) ?_
                      refine V_iastN X (ltN (by decide) hN) rfl (by omega) (by decide) dX6_reads_60 ?_
                      refine V_iinc X (nI (_ + 1)) dX6_reads_61 (by rw [hR.2]; decide) rfl (nI_add _ 1) ?_
                      refine V_goto X 2 dX6_reads_64 (by decide) ?_
                      exact ih (i + 1) _ (by omega) (by omega) (by rw [hs]; first | exact inF_m (by omega) | exact inF_z (by omega))
                    · refine V_iconst X (-1) dX6_reads_55 (by decide) ?_
                      refine V_goto X 60 dX6_reads_56 (by decide) ?_
                      refine V_iastN X (ltN (by decide) hN) rfl (by omega) (by decide) dX6_reads_60 ?_
                      refine V_iinc X (nI (_ + 1)) dX6_reads_61 (by rw [hR.2]; decide) rfl (nI_add _ 1) ?_
                      refine V_goto X 2 dX6_reads_64 (by decide) ?_
                      exact ih (i + 1) _ (by omega) (by omega) (by rw [hs]; first | exact inF_m (by omega) | exact inF_z (by omega))
  refine V_iconst X (nI 0) dX6_reads_0 (by decide) ?_
  refine V_istore_n X dX6_reads_1 (by rw [hR.2]; decide) ?_
  refine loop1 (fun S1 u e1 => ?_) 105 0 S (by omega) (by omega) (inF_0 S).symm
  refine V_aload_n X dX6_reads_67 rfl ?_
  refine V_iconst X (nI 1) dX6_reads_68 (by decide) ?_
  refine V_puti X fpX6_54 (ltN (by decide) hN) rfl rfl dX6_reads_69 ?_
  refine V_iconst X (nI 0) dX6_reads_72 (by decide) ?_
  refine V_istore_n X dX6_reads_73 (by rw [hR.2]; decide) ?_
  exact loop2 (k + 1) 0 _ (by omega) (by omega) (by rw [e1]; rfl)

