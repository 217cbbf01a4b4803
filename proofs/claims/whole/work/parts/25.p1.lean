/-! ===== the model's readings as a list ===== -/
def Rg (S : Sx) (to : Nat) (T : Sx) : Prop := ∀ j, j < 104 → S 84 (to + j) = T 84 (0 + j)
def Ou (S S' : Sx) (to : Nat) : Prop := ∀ j, (j < to ∨ to + 104 ≤ j) → S' 84 j = S 84 j
theorem Ou_rf (S : Sx) (to : Nat) : Ou S S to := fun _ _ => rfl
theorem Ou_tr {S S' S'' : Sx} {to : Nat} (h : Ou S S' to) (h2 : Ou S' S'' to) : Ou S S'' to := fun j hj => (h2 j hj).trans (h j hj)
theorem Ou_st {S : Sx} {to k t : Nat} {x : Int32} (h : k + t < 104) : Ou S (st S 84 (to + k + t) x) to := fun j hj => by rw [st_at, if_neg (by omega)]
theorem Rg_rd {S T : Sx} {to : Nat} (h : Rg S to T) {k t : Nat} (hk : k + t < 104) : S 84 (to + k + t) = T 84 (0 + k + t) := by
  have := h (k + t) hk; rw [← Nat.add_assoc, ← Nat.add_assoc] at this; exact this
theorem Rg_st {S T : Sx} {to : Nat} (h : Rg S to T) {k t : Nat} (hk : k + t < 104) {x y : Int32} (e : x = y) : Rg (st S 84 (to + k + t) x) to (st T 84 (0 + k + t) y) := by
  intro j hj
  rw [st_at, st_at, e]
  by_cases q : j = k + t
  · rw [if_pos (by omega), if_pos (by omega)]
  · rw [if_neg (by omega), if_neg (by omega)]; exact h j hj
/-- one step's two sides: the same answer, the same place, nothing else -/
def Lc (S : Sx) (to : Nat) (p q : Int32 × Sx) : Prop := p.1 = q.1 ∧ Rg p.2 to q.2 ∧ Ou S p.2 to
theorem wk_lc {S T : Sx} {to s a : Nat} {p : Int32} (h : Rg S to T) (ha : a < 8) : Rg (wkS S to s a p) to (wkS T 0 s a p) ∧ Ou S (wkS S to s a p) to :=
  ⟨Rg_st (Rg_st h (by omega) rfl) (by omega) rfl, Ou_tr (Ou_st (by omega)) (Ou_st (by omega))⟩
theorem hs_lc {S T : Sx} {to s a t : Nat} (h : Rg S to T) (ht : t < 10) : Rg (hsS S to s a t) to (hsS T 0 s a t) ∧ Ou S (hsS S to s a t) to :=
  ⟨Rg_st (Rg_st (Rg_st (Rg_st (Rg_st h (by omega) rfl) (by omega) rfl) (by omega) rfl) (by omega) rfl) (by omega) rfl, Ou_tr (Ou_tr (Ou_tr (Ou_tr (Ou_st (by omega)) (Ou_st (by omega))) (Ou_st (by omega))) (Ou_st (by omega))) (Ou_st (by omega))⟩
theorem tkE_lc {S T : Sx} {to s a t : Nat} (h : Rg S to T) (ht : t < 10) : Rg (tkE S to s a t) to (tkE T 0 s a t) ∧ Ou S (tkE S to s a t) to := by
  unfold tkE; rw [Rg_rd h (k := 16) (t := t) (by omega)]
  split
  · exact ⟨h, Ou_rf S to⟩
  · exact hs_lc h ht
theorem tkA_lc {S T : Sx} {to s a t : Nat} (h : Rg S to T) (ha : a < 8) (ht : t < 10) : Rg (tkA S to s a t) to (tkA T 0 s a t) ∧ Ou S (tkA S to s a t) to := by
  unfold tkA
  have h1 : Rg (st S 84 (to + 0 + a) (S 84 (to + 46 + t))) to (st T 84 (0 + 0 + a) (T 84 (0 + 46 + t))) := Rg_st h (by omega) (Rg_rd h (by omega))
  exact ⟨Rg_st h1 (by omega) (by rw [Rg_rd h1 (k := 56) (t := t) (by omega)]), Ou_tr (Ou_st (by omega)) (Ou_st (by omega))⟩
theorem oth_lc {S T : Sx} {to a t : Nat} (h : Rg S to T) (ht : t < 10) : othP S to a t ↔ othP T 0 a t := by unfold othP; rw [Rg_rd h (k := 16) (t := t) (by omega)]
theorem tk_lc {S T : Sx} {to s a t : Nat} (h : Rg S to T) (ha : a < 8) (ht : t < 10) : Lc S to (tkF S to s a t) (tkF T 0 s a t) := by
  unfold tkF
  rw [Rg_rd h (k := 36) (t := t) (by omega), Rg_rd h (k := 46) (t := t) (by omega), Rg_rd h (k := 0) (t := a) (by omega)]
  by_cases q : othP T 0 a t
  · rw [if_pos ((oth_lc h ht).mpr q), if_pos q]; exact ⟨rfl, h, Ou_rf S to⟩
  · rw [if_neg (fun z => q ((oth_lc h ht).mp z)), if_neg q]
    split
    · split
      · have h1 := tkA_lc (s := s) h ha ht
        have h2 := tkE_lc (s := s) (a := a) h1.1 ht
        exact ⟨rfl, h2.1, Ou_tr h1.2 h2.2⟩
      · split
        · have h2 := tkE_lc (s := s) (a := a) h ht
          exact ⟨rfl, h2.1, h2.2⟩
        · exact ⟨rfl, h, Ou_rf S to⟩
    · have h2 := tkE_lc (s := s) (a := a) h ht
      exact ⟨rfl, h2.1, h2.2⟩
theorem dp3_lc {S T : Sx} {to t : Nat} (h : Rg S to T) (ht : t < 10) : Rg (dp3 S to t) to (dp3 T 0 t) ∧ Ou S (dp3 S to t) to :=
  ⟨Rg_st (Rg_st (Rg_st h (by omega) rfl) (by omega) rfl) (by omega) rfl, Ou_tr (Ou_tr (Ou_st (by omega)) (Ou_st (by omega))) (Ou_st (by omega))⟩
theorem dp5_lc {S T : Sx} {to s a t : Nat} (h : Rg S to T) (ha : a < 8) (ht : t < 10) : Rg (dp5 S to s a t) to (dp5 T 0 s a t) ∧ Ou S (dp5 S to s a t) to := by
  have h3 := dp3_lc (t := t) h ht
  exact ⟨Rg_st (Rg_st h3.1 (by omega) (Rg_rd h3.1 (by omega))) (by omega) rfl, Ou_tr (Ou_tr h3.2 (Ou_st (by omega))) (Ou_st (by omega))⟩
theorem dp_lc {S T : Sx} {to s a t : Nat} (h : Rg S to T) (ha : a < 8) (ht : t < 10) : Lc S to (dpF S to s a t) (dpF T 0 s a t) := by
  unfold dpF
  rw [Rg_rd h (k := 36) (t := t) (by omega)]
  have e := oth_lc (a := a) h ht
  by_cases q : othP T 0 a t ∨ T 84 (0 + 36 + t) = nI 1
  · rw [if_pos (by rw [e]; exact q), if_pos q]; exact ⟨rfl, h, Ou_rf S to⟩
  · rw [if_neg (by rw [e]; exact q), if_neg q]
    have h5 := dp5_lc (s := s) h ha ht
    refine ⟨rfl, ?_, ?_⟩
    · show Rg (dpE S to s a t) to (dpE T 0 s a t)
      unfold dpE
      exact Rg_st h5.1 (by omega) (by rw [Rg_rd h5.1 (k := 0) (t := a) (by omega), Rg_rd h5.1 (k := 8) (t := a) (by omega)])
    · show Ou S (dpE S to s a t) to
      unfold dpE
      exact Ou_tr h5.2 (Ou_st (by omega))
theorem gvA_lc {S T : Sx} {to s a b : Nat} (h : Rg S to T) (ha : a < 8) (hb : b < 8) : Rg (gvA S to s a b) to (gvA T 0 s a b) ∧ Ou S (gvA S to s a b) to := by
  unfold gvA
  have h1 : Rg (st S 84 (to + 0 + a) (S 84 (to + 0 + b))) to (st T 84 (0 + 0 + a) (T 84 (0 + 0 + b))) := Rg_st h (by omega) (Rg_rd h (by omega))
  exact ⟨Rg_st h1 (by omega) (by rw [Rg_rd h1 (k := 8) (t := b) (by omega)]), Ou_tr (Ou_st (by omega)) (Ou_st (by omega))⟩
theorem gv_lc {S T : Sx} {to s a t b : Nat} (h : Rg S to T) (ha : a < 8) (hb : b < 8) (ht : t < 10) : Lc S to (gvF S to s a t b) (gvF T 0 s a t b) := by
  unfold gvF
  rw [Rg_rd h (k := 36) (t := t) (by omega), Rg_rd h (k := 0) (t := a) (by omega), Rg_rd h (k := 0) (t := b) (by omega)]
  have e := oth_lc (a := a) h ht
  by_cases q : a = b ∨ othP T 0 a t ∨ T 84 (0 + 36 + t) = nI 1
  · rw [if_pos (by rw [e]; exact q), if_pos q]; exact ⟨rfl, h, Ou_rf S to⟩
  · rw [if_neg (by rw [e]; exact q), if_neg q]
    split
    · split
      · have h2 := hs_lc (s := s) (a := b) h ht
        exact ⟨rfl, h2.1, h2.2⟩
      · have h1 := gvA_lc (s := s) h ha hb
        have h2 := hs_lc (s := s) (a := b) h1.1 ht
        exact ⟨rfl, h2.1, Ou_tr h1.2 h2.2⟩
    · split
      · have h1 := gvA_lc (s := s) h hb ha
        have h2 := hs_lc (s := s) (a := b) h1.1 ht
        exact ⟨rfl, h2.1, Ou_tr h1.2 h2.2⟩
      · split
        · have h2 := hs_lc (s := s) (a := b) h ht
          exact ⟨rfl, h2.1, h2.2⟩
        · exact ⟨rfl, h, Ou_rf S to⟩
/-- the sentence's step looks at its own place alone -/
theorem vb_lc {S T : Sx} {to s a : Nat} {bv : Int32} {g : Nat → Int32} (h : Rg S to T) (ha : a < 8) (ok : okM g s) (hbv : g (s * 5 + 1) = nI 33 → ∃ b, b < 8 ∧ bv = nI b) : Lc S to (vbF S to s a bv g) (vbF T 0 s a bv g) := by
  by_cases h30 : g (s * 5 + 1) = nI 30
  · rw [vb_30 h30, vb_30 h30]
    have := wk_lc (s := s) (p := g (s * 5 + 2)) h ha
    exact ⟨rfl, this.1, this.2⟩
  · obtain ⟨t, ht, et⟩ := okM_T ok h30
    by_cases h31 : g (s * 5 + 1) = nI 31
    · rw [vb_31 h30 h31 ht et, vb_31 h30 h31 ht et]; exact tk_lc h ha ht
    · by_cases h32 : g (s * 5 + 1) = nI 32
      · rw [vb_32 h30 h31 h32 ht et, vb_32 h30 h31 h32 ht et]; exact dp_lc h ha ht
      · obtain ⟨b, hb, rfl⟩ := hbv (okM_not ok h30 h31 h32)
        rw [vb_33 h30 h31 h32 ht hb et, vb_33 h30 h31 h32 ht hb et]; exact gv_lc h ha hb ht

