abbrev Xs : Type := Nat → Int32
def eX (x : Xs) : Sx := fun _ => x
def trX (x : Xs) (s a : Nat) (bv : Int32) : Xs := upd (upd x (66 + 2 * s) (nI a)) (66 + 2 * s + 1) bv
def stp (g : Nat → Int32) (s a : Nat) (bv : Int32) (x : Xs) : Option Xs := if (vbF (eX (trX x s a bv)) 0 s a bv g).1 = 0 then none else some ((vbF (eX (trX x s a bv)) 0 s a bv g).2 84)
/-- an array holds a list of states -/
def rep (f : Nat → Int32) (m : Nat) (l : List Xs) : Prop := m = l.length ∧ ∀ (r : Nat) (x : Xs), l[r]? = some x → ∀ j, j < 104 → f (104 * r + j) = x j
theorem rep_out {f f' : Nat → Int32} {m : Nat} {l : List Xs} (h : rep f m l) (e : ∀ j, j < 104 * m → f' j = f j) : rep f' m l :=
  ⟨h.1, fun r x hx j hj => by
    have hr : r < m := by rw [h.1]; exact (List.getElem?_eq_some_iff.mp hx).1
    rw [e _ (by have : 104 * r + 104 ≤ 104 * m := by omega
                omega)]
    exact h.2 r x hx j hj⟩
theorem rep_add {f : Nat → Int32} {m : Nat} {l : List Xs} {x : Xs} (h : rep f m l) (hx : ∀ j, j < 104 → f (104 * m + j) = x j) : rep f (m + 1) (l ++ [x]) := by
  refine ⟨by rw [List.length_append, ← h.1]; rfl, fun r y hy j hj => ?_⟩
  by_cases hr : r < l.length
  · rw [List.getElem?_append_left hr] at hy; exact h.2 r y hy j hj
  · have hlt := (List.getElem?_eq_some_iff.mp hy).1
    rw [List.length_append] at hlt
    have : r = l.length := by simp at hlt; omega
    subst this
    rw [List.getElem?_append_right (Nat.le_refl _), Nat.sub_self] at hy
    cases hy
    rw [← h.1]; exact hx j hj
theorem trP_rg {S : Sx} {r s a m : Nat} {bv : Int32} {x : Xs} (hs : s < 14) (hx : ∀ j, j < 104 → S 83 (104 * r + j) = x j) : Rg (trP S r s a bv m) (104 * m) (eX (trX x s a bv)) := by
  intro j hj
  unfold trP eX trX
  rw [st_at, st_at]
  unfold upd cpF
  by_cases h1 : j = 66 + 2 * s + 1
  · rw [if_pos (by omega), if_pos (by omega)]
  · rw [if_neg (by omega)]
    by_cases h2 : j = 66 + 2 * s
    · rw [if_pos (by omega), if_neg (by omega), if_pos (by omega)]
    · rw [if_neg (by omega), if_pos (by omega), if_neg (by omega), if_neg (by omega)]
      rw [show 104 * m + j - 104 * m = 0 + j by omega, show (0 + j) = j by omega]
      exact hx j hj
theorem trP_ou {S : Sx} {r s a m : Nat} {bv : Int32} (hs : s < 14) : Ou S (trP S r s a bv m) (104 * m) := by
  intro j hj
  unfold trP
  rw [st_at, if_neg (by omega), st_at, if_neg (by omega)]
  unfold cpF
  rw [if_neg (by omega)]
theorem tr_rep {S : Sx} {r s a m : Nat} {bv : Int32} {x : Xs} {l : List Xs} (hs : s < 14) (ha : a < 8) (ok : okM (S 81) s) (hbv : S 81 (s * 5 + 1) = nI 33 → ∃ b, b < 8 ∧ bv = nI b) (hx : ∀ j, j < 104 → S 83 (104 * r + j) = x j) (h : rep (S 84) m l) : rep (trF S r s a bv m 84) (trN S r s a bv m) (l ++ (stp (S 81) s a bv x).toList) := by
  obtain ⟨l1, l2, l3⟩ := vb_lc (trP_rg (m := m) (bv := bv) (a := a) hs hx) ha ok hbv
  have l4 := Ou_tr (trP_ou (S := S) (r := r) (a := a) (m := m) (bv := bv) hs) l3
  unfold trF trN stp
  by_cases e : (vbF (trP S r s a bv m) (104 * m) s a bv (S 81)).1 = 0
  · rw [if_pos e, if_pos e, if_pos (by rw [← l1]; exact e)]
    rw [Option.toList_none, List.append_nil]
    exact rep_out h (fun j hj => l4 j (Or.inl hj))
  · rw [if_neg e, if_neg e, if_neg (by rw [← l1]; exact e)]
    rw [Option.toList_some]
    refine rep_add (rep_out h (fun j hj => by rw [st_ne (by decide)]; exact l4 j (Or.inl hj))) (fun j hj => ?_)
    rw [st_ne (by decide), l2 j hj, Nat.zero_add]
def gBl (g : Nat → Int32) (s a : Nat) : Nat → Nat → List (Nat × Int32)
  | 0, _ => []
  | k + 1, j => (if mmF g (sbN g s) s j = 0 then [] else [(a, nI j)]) ++ gBl g s a k (j + 1)
def gWl (g : Nat → Int32) (s : Nat) : Nat → Nat → List (Nat × Int32)
  | 0, _ => []
  | k + 1, a => (if mmF g (saN g s) s a = 0 then [] else if g (s * 5 + 1) = nI 33 then gBl g s a 8 0 else [(a, -1)]) ++ gWl g s k (a + 1)
/-- whom a sentence's subject and receiver may mean, in order -/
def cds (g : Nat → Int32) (s : Nat) : List (Nat × Int32) := gWl g s 8 0
def goX (g : Nat → Int32) (s : Nat) (l : List Xs) : List Xs := l.flatMap (fun x => (cds g s).filterMap (fun c => stp g s c.1 c.2 x))
def rdX (g : Nat → Int32) : Nat → List Xs
  | 0 => [iniV]
  | s + 1 => goX g s (rdX g s)
theorem gB_rep {S0 : Sx} {r s a : Nat} {x : Xs} (hs : s < 14) (ha : a < 8) (ok : okM (S0 81) s) (hx : ∀ j, j < 104 → S0 83 (104 * r + j) = x j) : ∀ (k j : Nat) (p : Sx × Nat) (l : List Xs), j + k ≤ 8 → p.1 81 = S0 81 → p.1 83 = S0 83 → rep (p.1 84) p.2 l → (gB r s a k j p).1 81 = S0 81 ∧ (gB r s a k j p).1 83 = S0 83 ∧ rep ((gB r s a k j p).1 84) (gB r s a k j p).2 (l ++ (gBl (S0 81) s a k j).filterMap (fun c => stp (S0 81) s c.1 c.2 x))
  | 0, _, p, l, _, h1, h2, h3 => by simp only [gB, gBl, List.filterMap_nil, List.append_nil]; exact ⟨h1, h2, h3⟩
  | k + 1, j, p, l, hj, h1, h2, h3 => by
    unfold gB gBl
    rw [h1]
    by_cases e : mmF (S0 81) (sbN (S0 81) s) s j = 0
    · rw [if_pos e, if_pos e, List.nil_append]
      exact gB_rep hs ha ok hx k (j + 1) p l (by omega) h1 h2 h3
    · rw [if_neg e, if_neg e, List.filterMap_append, ← List.append_assoc]
      have t := tr_rep (S := p.1) (r := r) (m := p.2) (bv := nI j) (x := x) hs ha (by rw [h1]; exact ok) (fun _ => ⟨j, by omega, rfl⟩) (by rw [h2]; exact hx) h3
      have q := gB_rep hs ha ok hx k (j + 1) (trF p.1 r s a (nI j) p.2, trN p.1 r s a (nI j) p.2) (l ++ (stp (p.1 81) s a (nI j) x).toList) (by omega) ((trF_ne (by decide) (by decide)).trans h1) ((trF_ne (by decide) (by decide)).trans h2) t
      rw [h1] at q
      have e2 : List.filterMap (fun c : Nat × Int32 => stp (S0 81) s c.1 c.2 x) [(a, nI j)] = (stp (S0 81) s a (nI j) x).toList := by
        cases hq : stp (S0 81) s a (nI j) x <;> simp [hq]
      rw [e2]; exact q
theorem gW_rep {S0 : Sx} {r s : Nat} {x : Xs} (hs : s < 14) (ok : okM (S0 81) s) (hx : ∀ j, j < 104 → S0 83 (104 * r + j) = x j) : ∀ (k a : Nat) (p : Sx × Nat) (l : List Xs), a + k ≤ 8 → p.1 81 = S0 81 → p.1 83 = S0 83 → rep (p.1 84) p.2 l → (gW r s k a p).1 81 = S0 81 ∧ (gW r s k a p).1 83 = S0 83 ∧ rep ((gW r s k a p).1 84) (gW r s k a p).2 (l ++ (gWl (S0 81) s k a).filterMap (fun c => stp (S0 81) s c.1 c.2 x))
  | 0, _, p, l, _, h1, h2, h3 => by simp only [gW, gWl, List.filterMap_nil, List.append_nil]; exact ⟨h1, h2, h3⟩
  | k + 1, a, p, l, hj, h1, h2, h3 => by
    unfold gW gWl
    rw [h1]
    by_cases e : mmF (S0 81) (saN (S0 81) s) s a = 0
    · rw [if_pos e, if_pos e, List.nil_append]
      exact gW_rep hs ok hx k (a + 1) p l (by omega) h1 h2 h3
    · rw [if_neg e, if_neg e, List.filterMap_append, ← List.append_assoc]
      by_cases e3 : S0 81 (s * 5 + 1) = nI 33
      · rw [if_pos e3, if_pos e3]
        obtain ⟨q1, q2, q3⟩ := gB_rep (a := a) hs (by omega) ok hx 8 0 p l (by omega) h1 h2 h3
        exact gW_rep hs ok hx k (a + 1) _ _ (by omega) q1 q2 q3
      · rw [if_neg e3, if_neg e3]
        have t := tr_rep (S := p.1) (r := r) (a := a) (m := p.2) (bv := -1) (x := x) hs (by omega) (by rw [h1]; exact ok) (fun z => absurd (by rw [← h1]; exact z) e3) (by rw [h2]; exact hx) h3
        have q := gW_rep hs ok hx k (a + 1) (trF p.1 r s a (-1) p.2, trN p.1 r s a (-1) p.2) (l ++ (stp (p.1 81) s a (-1) x).toList) (by omega) ((trF_ne (by decide) (by decide)).trans h1) ((trF_ne (by decide) (by decide)).trans h2) t
        rw [h1] at q
        have e2 : List.filterMap (fun c : Nat × Int32 => stp (S0 81) s c.1 c.2 x) [(a, -1)] = (stp (S0 81) s a (-1) x).toList := by
          cases hq : stp (S0 81) s a (-1) x <;> simp [hq]
        rw [e2]; exact q
theorem gR_rep {S0 : Sx} {s : Nat} {L : List Xs} (hs : s < 14) (ok : okM (S0 81) s) (hL : ∀ (r : Nat) (x : Xs), L[r]? = some x → ∀ j, j < 104 → S0 83 (104 * r + j) = x j) : ∀ (k r : Nat) (p : Sx × Nat) (l : List Xs), r + k = L.length → p.1 81 = S0 81 → p.1 83 = S0 83 → rep (p.1 84) p.2 l → (gR s k r p).1 81 = S0 81 ∧ (gR s k r p).1 83 = S0 83 ∧ rep ((gR s k r p).1 84) (gR s k r p).2 (l ++ goX (S0 81) s (L.drop r))
  | 0, r, p, l, hr, h1, h2, h3 => by
    simp only [gR]
    rw [List.drop_eq_nil_of_le (by omega)]
    simp only [goX, List.flatMap_nil, List.append_nil]
    exact ⟨h1, h2, h3⟩
  | k + 1, r, p, l, hr, h1, h2, h3 => by
    unfold gR
    have hlt : r < L.length := by omega
    have hg : L[r]? = some L[r] := List.getElem?_eq_getElem hlt
    obtain ⟨q1, q2, q3⟩ := gW_rep (r := r) (x := L[r]) hs ok (hL r _ hg) 8 0 p l (by omega) h1 h2 h3
    have q := gR_rep hs ok hL k (r + 1) (gW r s 8 0 p) _ (by omega) q1 q2 q3
    rw [List.drop_eq_getElem_cons hlt]
    unfold goX at q ⊢
    rw [List.flatMap_cons, ← List.append_assoc]
    exact q
theorem goP_rep {S : Sx} {s m : Nat} {L : List Xs} (hs : s < 14) (ok : okM (S 81) s) (h : rep (S 83) m L) : rep ((goP s (S, m)).1 83) (goP s (S, m)).2 (goX (S 81) s L) := by
  have h0 : rep (st S 80 5 (nI 0) 84) 0 [] := ⟨rfl, fun r x hx => by simp at hx⟩
  obtain ⟨q1, q2, q3⟩ := gR_rep (S0 := st S 80 5 (nI 0)) (L := L) hs (by rw [st_ne (by decide)]; exact ok) (by rw [st_ne (by decide)]; exact h.2) m 0 (st S 80 5 (nI 0), 0) [] (by rw [Nat.zero_add]; exact h.1) rfl rfl h0
  rw [st_ne (by decide), List.nil_append, List.drop_zero] at q3
  unfold goP
  have q4 : rep ((gO2 s (S, m)).1 84) (gO2 s (S, m)).2 (goX (S 81) s L) := q3
  refine rep_out q4 (fun j hj => ?_)
  show cpN _ _ 83 j = _
  unfold cpN
  rw [if_pos ⟨rfl, by omega⟩]
theorem rdL_rep {S : Sx} : ∀ k, k ≤ 14 → (∀ s, s < k → okM (S 81) s) → rep ((rdL S k).1 83) (rdL S k).2 (rdX (S 81) k)
  | 0, _, _ => by
    refine ⟨rfl, fun r x hx j hj => ?_⟩
    have hr : r = 0 := by
      have := (List.getElem?_eq_some_iff.mp hx).1
      simp [rdX] at this; exact this
    subst hr
    simp [rdX] at hx
    subst hx
    simp only [rdL]
    rw [st_ne (by decide)]
    unfold inF
    rw [if_pos (by omega)]
    rw [show 104 * 0 + j = j by omega]
  | k + 1, hk, hok => by
    have ih := rdL_rep k (by omega) (fun s hs => hok s (by omega))
    have e := (rdL_I S k).1
    have q := goP_rep (S := (rdL S k).1) (m := (rdL S k).2) (s := k) (by omega) (by rw [e]; exact hok k (by omega)) ih
    rw [e] at q
    exact q

