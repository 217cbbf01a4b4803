/-! ===== the class's world and the model's reading ===== -/
def hd (x : Xs) (t : Nat) : Int32 := if x (16 + t) = -1 then (if x (36 + t) = nI 1 then nI 9 else -2) else x (16 + t)
def hgd (x : Xs) (t : Nat) : Int32 := if x (16 + t) = -1 then (if x (36 + t) = nI 1 then x (94 + t) else nI 0) else x (26 + t)
def RW (S : Sx) (x : Xs) : Prop := (∀ p, p < 8 → S 8 p = un (x p) ∧ S 9 p = x (8 + p)) ∧ ∀ t, t < 10 → S 10 t = hd x t ∧ S 11 t = hgd x t ∧ (x (16 + t) = -1 → x (36 + t) = nI 1 → S 12 t = un (x (46 + t)) ∧ S 13 t = x (56 + t))
def xI (x : Xs) : Prop := (∀ p, p < 8 → (x p = -1 ∧ x (8 + p) = nI 0) ∨ isL (x p)) ∧ ∀ t, t < 10 → pv (x (16 + t)) ∧ (x (16 + t) = -1 ∨ ¬ x (36 + t) = nI 1) ∧ (x (46 + t) = -1 ∨ isL (x (46 + t)))
theorem isL_n2 {v : Int32} (h : isL v) : v ≠ -2 ∧ v ≠ -1 := by
  have := h.1
  rw [i_le, t_k 20 (by decide)] at this
  exact ⟨fun q => by rw [q, t_m2] at this; omega, fun q => by rw [q, t_m1] at this; omega⟩
theorem un_2 {v : Int32} (h : v = -1 ∨ isL v) : un v = -2 ↔ v = -1 := by
  unfold un
  by_cases e : v = -1
  · simp [e]
  · rw [if_neg e]
    rcases h with q | q
    · exact absurd q e
    · exact ⟨fun z => absurd z (isL_n2 q).1, fun z => absurd z e⟩
theorem hd_p {x : Xs} {t p : Nat} (hv : pv (x (16 + t))) (hp : p < 8) : hd x t = nI p ↔ x (16 + t) = nI p := by
  unfold hd
  rcases hv with e | ⟨q, hq, e⟩
  · rw [if_pos e, e]
    constructor
    · intro z; split at z
      · exact absurd ((nI_eq (by decide) (by omega)).mp z) (by omega)
      · exact absurd z.symm (m2_ne (by omega))
    · intro z; exact absurd z.symm (m1_ne (by omega))
  · rw [if_neg (by rw [e]; exact m1_ne (by omega))]
theorem xI_p {x : Xs} (h : xI x) {p : Nat} (hp : p < 8) : x p = -1 ∨ isL (x p) := (h.1 p hp).elim (fun q => Or.inl q.1) Or.inr
theorem m2_isP : ¬ isP (-2) := by decide
theorem n9_isP : ¬ isP (nI 9) := by decide
theorem tpl_x {S : Sx} {x : Xs} (h : RW S x) (hx : xI x) {t : Nat} (ht : t < 10) : tpl S t = un (tlP x 0 t) := by
  obtain ⟨h1, h2, h3⟩ := h.2 t ht
  obtain ⟨v1, v2, v3⟩ := hx.2 t ht
  unfold tpl tlP
  rw [Nat.zero_add, Nat.zero_add, Nat.zero_add, h1]
  unfold hd
  rcases v1 with e | ⟨p, hp, e⟩
  · rw [if_pos e, if_pos e]
    by_cases l : x (36 + t) = nI 1
    · rw [if_pos l, if_pos rfl, if_pos l]; exact (h3 e l).1
    · rw [if_neg l, if_neg (by decide), if_neg m2_isP, if_neg l]; rfl
  · have n1 : ¬ x (16 + t) = -1 := by rw [e]; exact m1_ne (by omega)
    rw [if_neg n1, if_neg n1, e, if_neg (nI_ne (by omega) (by decide) (by omega)), if_pos (isP_of hp), nI_clamp (by omega), Nat.zero_add]
    exact (h.1 p hp).1
theorem hct_x {S : Sx} {x : Xs} (h : RW S x) (hx : xI x) {a : Nat} (ha : a < 8) : ∀ n, n ≤ 10 → hct (S 10) (nI a) n = hc2 x 0 (nI a) n
  | 0, _ => rfl
  | n + 1, hn => by
    unfold hct hc2
    rw [hct_x h hx ha n (by omega), Nat.zero_add, (h.2 n (by omega)).1]
    have e := hd_p (hx.2 n (by omega)).1 ha
    by_cases q : x (16 + n) = nI a
    · rw [if_pos (e.mpr q), if_pos q]
    · rw [if_neg (fun z => q (e.mp z)), if_neg q]; rfl
theorem vl_x {S : Sx} {x : Xs} (h : RW S x) (hx : xI x) {k a : Nat} (hq : qOk k a) : vl S k a = tX x k a := by
  have ha : a < 10 := by have := hq; unfold qOk at this; omega
  unfold vl tX tlF
  by_cases k0 : k = 0
  · rw [if_pos k0, if_pos k0, Nat.zero_add]; exact (h.1 a (by unfold qOk at hq; omega)).1
  · rw [if_neg k0, if_neg k0]
    by_cases k1 : k = 1
    · rw [if_pos k1, if_neg (by omega), if_neg (by omega)]; exact tpl_x h hx ha
    · rw [if_neg k1]
      by_cases k2 : k = 2
      · rw [if_pos k2, if_neg (by omega), if_pos k2, (h.2 a ha).1, Nat.zero_add, Nat.zero_add]; rfl
      · rw [if_neg k2, if_pos (by unfold qOk at hq; omega), hct_x h hx (by unfold qOk at hq; omega) 10 (by omega)]
theorem hbs_x {S : Sx} {x : Xs} (h : RW S x) (hx : xI x) {a : Nat} (ha : a < 8) : ∀ n, n ≤ 10 → hbs S (nI a) n = hb2 x 0 (nI a) n
  | 0, _ => rfl
  | n + 1, hn => by
    unfold hbs hb2
    rw [hbs_x h hx ha n (by omega), Nat.zero_add, Nat.zero_add, (h.2 n (by omega)).1, (h.2 n (by omega)).2.1]
    have e := hd_p (hx.2 n (by omega)).1 ha
    by_cases q : x (16 + n) = nI a
    · rw [if_pos (e.mpr q), if_pos q]
      unfold hgd
      rw [if_neg (by rw [q]; exact m1_ne (by omega))]
    · rw [if_neg (fun z => q (e.mp z)), if_neg q, nI_0, Int32.or_zero]
theorem tpb_x {S : Sx} {x : Xs} (h : RW S x) (hx : xI x) {t : Nat} (ht : t < 10) : tpb S t = bX x 1 t := by
  obtain ⟨h1, h2, h3⟩ := h.2 t ht
  obtain ⟨v1, v2, v3⟩ := hx.2 t ht
  have e := tpl_x h hx ht
  unfold tpb bX byF
  have et : tlF x 0 1 t = un (tlP x 0 t) := by unfold tlF; rw [if_neg (by decide), if_neg (by decide), if_neg (by decide)]
  rw [et, e]
  by_cases z : un (tlP x 0 t) = -2
  · rw [if_pos z, if_pos z]
  · rw [if_neg z, if_neg z, if_neg (show ¬ (1 : Nat) = 0 by decide), if_neg (show ¬ (1 : Nat) = 3 by decide), h1, h2, Nat.zero_add, Nat.zero_add, Nat.zero_add, Nat.zero_add]
    unfold hd hgd
    rcases v1 with e1 | ⟨p, hp, e1⟩
    · have l : x (36 + t) = nI 1 := by
        apply Classical.byContradiction
        intro l; apply z
        unfold tlP
        rw [Nat.zero_add, Nat.zero_add, Nat.zero_add, if_pos e1, if_neg l]; rfl
      rw [if_pos e1, if_pos l, if_neg n9_isP, if_pos e1, if_neg (show ¬ (1 : Nat) = 2 by decide)]
      exact (h3 e1 l).2
    · have n1 : ¬ x (16 + t) = -1 := by rw [e1]; exact m1_ne (by omega)
      rw [if_neg n1, if_neg n1, if_neg n1, e1, if_pos (isP_of hp), nI_clamp (by omega), if_pos rfl]
      rw [(h.1 p hp).2]
theorem bs_x {S : Sx} {x : Xs} (h : RW S x) (hx : xI x) {k a : Nat} (hq : qOk k a) : bs S k a = bX x k a := by
  have ha : a < 10 := by have := hq; unfold qOk at this; omega
  by_cases k1 : k = 1
  · subst k1; unfold bs; rw [if_neg (by decide), if_pos rfl]; exact tpb_x h hx ha
  · have hv := vl_x h hx hq
    have ev : tlF x 0 k a = vl S k a := hv.symm
    unfold bs bX byF
    rw [ev]
    by_cases k0 : k = 0
    · subst k0
      have ha8 : a < 8 := by unfold qOk at hq; omega
      rw [if_pos rfl, if_pos rfl, Nat.zero_add, (h.1 a ha8).2]
      unfold vl; rw [if_pos rfl, (h.1 a ha8).1]
      rcases hx.1 a ha8 with q | q
      · rw [q.2]; split <;> rfl
      · rw [if_neg (fun z => (isL_n2 q).2 ((un_2 (Or.inr q)).mp z))]
    · rw [if_neg k0, if_neg k1, if_neg k0]
      by_cases k2 : k = 2
      · subst k2
        have evl : vl S 2 a = hd x a := by unfold vl; rw [if_neg (show ¬ (2 : Nat) = 0 by decide), if_neg (show ¬ (2 : Nat) = 1 by decide), if_pos (show (2 : Nat) = 2 from rfl), (h.2 a ha).1]
        rw [if_pos (show (2 : Nat) = 2 from rfl), if_neg (show ¬ (2 : Nat) = 3 by decide), if_pos (show (2 : Nat) = 2 from rfl), if_neg (show ¬ (2 : Nat) = 1 by decide), evl, Nat.zero_add, Nat.zero_add, Nat.zero_add, (h.2 a ha).2.1]
        unfold hd hgd
        rcases (hx.2 a ha).1 with e1 | ⟨p, hp, e1⟩
        · rw [if_pos e1, if_pos e1, if_pos e1]
          by_cases l : x (36 + a) = nI 1
          · rw [if_pos l, if_pos l, if_neg (by decide)]
          · rw [if_neg l, if_neg l, if_pos rfl]
        · have n1 : ¬ x (16 + a) = -1 := by rw [e1]; exact m1_ne (by omega)
          rw [if_neg n1, if_neg n1, if_neg n1, if_neg (by rw [e1]; exact m2_ne (by omega)), nI_0, Int32.or_zero]
      · have k3 : k = 3 := by unfold qOk at hq; omega
        subst k3
        have evl : vl S 3 a = nI (hct (S 10) (nI a) 10) := by unfold vl; rw [if_neg (show ¬ (3 : Nat) = 0 by decide), if_neg (show ¬ (3 : Nat) = 1 by decide), if_neg (show ¬ (3 : Nat) = 2 by decide)]
        have ec := hct_x h hx (a := a) (by unfold qOk at hq; omega) 10 (by omega)
        have hc := hc2_le x 0 (nI a) 10
        rw [if_neg (show ¬ (3 : Nat) = 2 by decide), evl, if_neg (m2_ne (by rw [ec]; omega)), if_pos (show (3 : Nat) = 3 from rfl), hbs_x h hx (by unfold qOk at hq; omega) 10 (by omega)]

