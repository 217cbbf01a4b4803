/-! ===== what the readings tell, by lists ===== -/
def tX (x : Xs) (k a : Nat) : Int32 := tlF x 0 k a
def bX (x : Xs) (k a : Nat) : Int32 := byF x 0 k a
theorem at_x {f : Nat → Int32} {y : Nat} {x : Xs} (h : ∀ j, j < 104 → f (y + j) = x j) {k t : Nat} (hk : k + t < 104) : f (y + k + t) = x (0 + k + t) := by
  have := h (k + t) hk; rw [← Nat.add_assoc] at this; rw [this, Nat.zero_add]
theorem hc2_x {f : Nat → Int32} {y : Nat} {x : Xs} (h : ∀ j, j < 104 → f (y + j) = x j) (v : Int32) : ∀ n, n ≤ 10 → hc2 f y v n = hc2 x 0 v n
  | 0, _ => rfl
  | n + 1, hn => by unfold hc2; rw [hc2_x h v n (by omega), at_x h (by omega)]
theorem hb2_x {f : Nat → Int32} {y : Nat} {x : Xs} (h : ∀ j, j < 104 → f (y + j) = x j) (v : Int32) : ∀ n, n ≤ 10 → hb2 f y v n = hb2 x 0 v n
  | 0, _ => rfl
  | n + 1, hn => by unfold hb2; rw [hb2_x h v n (by omega), at_x h (k := 16) (by omega), at_x h (k := 26) (by omega)]
theorem okX_at {x : Xs} (h : okX x) {t : Nat} (ht : t < 10) : pv (x (0 + 16 + t)) := by rw [Nat.zero_add]; exact h t ht
theorem tl_x {f : Nat → Int32} {y : Nat} {x : Xs} (h : ∀ j, j < 104 → f (y + j) = x j) (hx : okX x) {k a : Nat} (hq : qOk k a) : tlF f y k a = tX x k a := by
  have ha : a < 10 := by have := hq; unfold qOk at this; omega
  unfold tX tlF tlP
  rw [hc2_x h _ 10 (by omega), at_x h (k := 0) (t := a) (by omega), at_x h (k := 16) (t := a) (by omega), at_x h (k := 36) (t := a) (by omega), at_x h (k := 46) (t := a) (by omega)]
  rcases okX_at hx ha with e | ⟨p, hp, e⟩
  · rw [e, if_pos rfl, if_pos rfl, if_pos rfl]
  · rw [e, nI_clamp (by omega), at_x h (k := 0) (t := p) (by omega)]
theorem by_x {f : Nat → Int32} {y : Nat} {x : Xs} (h : ∀ j, j < 104 → f (y + j) = x j) (hx : okX x) {k a : Nat} (hq : qOk k a) : byF f y k a = bX x k a := by
  have ha : a < 10 := by have := hq; unfold qOk at this; omega
  have e1 := tl_x h hx hq
  unfold tX at e1
  unfold bX byF
  rw [e1, hb2_x h _ 10 (by omega), at_x h (k := 8) (t := a) (by omega), at_x h (k := 16) (t := a) (by omega), at_x h (k := 94) (t := a) (by omega), at_x h (k := 56) (t := a) (by omega), at_x h (k := 26) (t := a) (by omega)]
  rcases okX_at hx ha with e | ⟨p, hp, e⟩
  · rw [e, if_pos rfl, if_pos rfl]
  · rw [e, nI_clamp (by omega), at_x h (k := 8) (t := p) (by omega)]
/-- the answer that all readings tell -/
def AN (l : List Xs) (k a : Nat) : Int32 := if l.all (fun x => decide (tX x k a = tX (l.headD iniV) k a)) then tX (l.headD iniV) k a else -3
def AKl (k a : Nat) (l : List Xs) (z : Int32) : Int32 := l.foldl (fun z x => z &&& bX x k a) z
def AK (l : List Xs) (k a : Nat) : Int32 := if AN l k a < 0 then nI 0 else AKl k a l.tail (bX (l.headD iniV) k a)
def LV (l : List Xs) (k a : Nat) : Int32 := l.foldl (fun z x => mx z (bsF (bX x k a) 14)) (nI 0)
theorem rep_tl {f : Nat → Int32} {m : Nat} {l : List Xs} (h : rep f m l) (hx : ∀ x ∈ l, okX x) {k a r : Nat} (hq : qOk k a) (hr : r < l.length) : tlF f (104 * r) k a = tX l[r] k a ∧ byF f (104 * r) k a = bX l[r] k a :=
  ⟨tl_x (h.2 r _ (List.getElem?_eq_getElem hr)) (hx _ (List.getElem_mem hr)) hq, by_x (h.2 r _ (List.getElem?_eq_getElem hr)) (hx _ (List.getElem_mem hr)) hq⟩
theorem head_0 {l : List Xs} (h : 0 < l.length) : l.headD iniV = l[0] := by
  cases l with
  | nil => simp at h
  | cons x l => rfl
theorem an_l {f : Nat → Int32} {m : Nat} {l : List Xs} (h : rep f m l) (hx : ∀ x ∈ l, okX x) (h1 : 1 ≤ m) {k a : Nat} (hq : qOk k a) : anF f k a m = AN l k a := by
  have hl : 0 < l.length := by rw [← h.1]; exact h1
  have e0 := (rep_tl h hx (r := 0) hq hl).1
  unfold anF AN
  rw [head_0 hl, e0]
  have e : anA f k a m = l.all (fun x => decide (tX x k a = tX l[0] k a)) := by
    rw [Bool.eq_iff_iff, List.all_eq_true]
    unfold anA
    rw [List.all_eq_true]
    constructor
    · intro q x hxl
      obtain ⟨r, hr, rfl⟩ := List.getElem_of_mem hxl
      have := of_decide_eq_true (q r (List.mem_range.mpr (by rw [h.1]; exact hr)))
      rw [(rep_tl h hx hq hr).1, e0] at this
      exact decide_eq_true this
    · intro q r hr
      have hr2 : r < l.length := by rw [← h.1]; exact List.mem_range.mp hr
      have := of_decide_eq_true (q l[r] (List.getElem_mem hr2))
      rw [← (rep_tl h hx hq hr2).1, ← e0] at this
      exact decide_eq_true this
  rw [e]
theorem akL_l {f : Nat → Int32} {m : Nat} {l : List Xs} (h : rep f m l) (hx : ∀ x ∈ l, okX x) {k a : Nat} (hq : qOk k a) : ∀ j, j < l.length → akL f k a j = AKl k a (l.tail.take j) (bX (l.headD iniV) k a)
  | 0, hj => by
    unfold akL; rw [(rep_tl h hx hq hj).2, head_0 hj]; rfl
  | j + 1, hj => by
    unfold akL
    rw [akL_l h hx hq j (by omega), (rep_tl h hx hq hj).2]
    have hj2 : j < l.tail.length := by rw [List.length_tail]; omega
    unfold AKl
    rw [List.take_succ_eq_append_getElem hj2, List.foldl_append]
    simp [List.getElem_tail]
theorem ak_l {f : Nat → Int32} {m : Nat} {l : List Xs} (h : rep f m l) (hx : ∀ x ∈ l, okX x) (h1 : 1 ≤ m) {k a : Nat} (hq : qOk k a) : akF f k a m = AK l k a := by
  unfold akF AK
  rw [an_l h hx h1 hq, akL_l h hx hq (m - 1) (by rw [← h.1]; omega), List.take_of_length_le (by rw [List.length_tail, ← h.1]; omega)]
theorem lv_l {f : Nat → Int32} {m : Nat} {l : List Xs} (h : rep f m l) (hx : ∀ x ∈ l, okX x) {k a : Nat} (hq : qOk k a) : lvF f k a m = LV l k a := by
  have key : ∀ j, j ≤ l.length → lvF f k a j = (l.take j).foldl (fun z x => mx z (bsF (bX x k a) 14)) (nI 0) := by
    intro j
    induction j with
    | zero => intro _; rfl
    | succ j ih =>
      intro hj
      unfold lvF
      rw [ih (by omega), (rep_tl h hx hq (show j < l.length by omega)).2, List.take_succ_eq_append_getElem (show j < l.length by omega), List.foldl_append]
      rfl
  rw [key m (by rw [h.1]; exact Nat.le_refl _), h.1, List.take_length]; rfl

