/-! ===== who has a thing is a person, in every reading ===== -/
abbrev pv (v : Int32) : Prop := v = -1 ∨ ∃ p, p < 8 ∧ v = nI p
def okZ (T : Sx) : Prop := ∀ t, t < 10 → pv (T 84 (16 + t))
theorem okZ_st {T : Sx} {i : Nat} {v : Int32} (h : okZ T) (hv : i < 16 ∨ 26 ≤ i ∨ pv v) : okZ (st T 84 i v) := by
  intro t ht
  rw [st_at]
  by_cases e : 16 + t = i
  · rw [if_pos ⟨rfl, e⟩]
    rcases hv with q | q | q
    · omega
    · omega
    · exact q
  · rw [if_neg (fun q => e q.2)]; exact h t ht
theorem hs_ok {T : Sx} {s a t : Nat} (h : okZ T) (ha : a < 8) (ht : t < 10) : okZ (hsS T 0 s a t) := by
  unfold hsS
  exact okZ_st (okZ_st (okZ_st (okZ_st (okZ_st h (Or.inr (Or.inr (Or.inr ⟨a, ha, rfl⟩)))) (Or.inr (Or.inl (by omega)))) (Or.inr (Or.inl (by omega)))) (Or.inr (Or.inl (by omega)))) (Or.inr (Or.inl (by omega)))
theorem tkE_ok {T : Sx} {s a t : Nat} (h : okZ T) (ha : a < 8) (ht : t < 10) : okZ (tkE T 0 s a t) := by
  unfold tkE; split
  · exact h
  · exact hs_ok h ha ht
theorem tk_ok {T : Sx} {s a t : Nat} (h : okZ T) (ha : a < 8) (ht : t < 10) : okZ (tkF T 0 s a t).2 := by
  unfold tkF
  split
  · exact h
  · split
    · split
      · exact tkE_ok (by unfold tkA; exact okZ_st (okZ_st h (Or.inl (by omega))) (Or.inl (by omega))) ha ht
      · split
        · exact tkE_ok h ha ht
        · exact h
    · exact tkE_ok h ha ht
theorem dp_ok {T : Sx} {s a t : Nat} (h : okZ T) (ht : t < 10) : okZ (dpF T 0 s a t).2 := by
  unfold dpF
  split
  · exact h
  · show okZ (dpE T 0 s a t)
    unfold dpE dp5 dp3
    exact okZ_st (okZ_st (okZ_st (okZ_st (okZ_st (okZ_st h (Or.inr (Or.inr (Or.inl rfl)))) (Or.inr (Or.inl (by omega)))) (Or.inr (Or.inl (by omega)))) (Or.inr (Or.inl (by omega)))) (Or.inr (Or.inl (by omega)))) (Or.inr (Or.inl (by omega)))
theorem gvA_ok {T : Sx} {s a b : Nat} (h : okZ T) (ha : a < 8) : okZ (gvA T 0 s a b) := by
  unfold gvA; exact okZ_st (okZ_st h (Or.inl (by omega))) (Or.inl (by omega))
theorem gv_ok {T : Sx} {s a t b : Nat} (h : okZ T) (ha : a < 8) (hb : b < 8) (ht : t < 10) : okZ (gvF T 0 s a t b).2 := by
  unfold gvF
  split
  · exact h
  · split
    · split
      · exact hs_ok h hb ht
      · exact hs_ok (gvA_ok h ha) hb ht
    · split
      · exact hs_ok (gvA_ok h hb) hb ht
      · split
        · exact hs_ok h hb ht
        · exact h
theorem vb_ok {T : Sx} {s a : Nat} {bv : Int32} {g : Nat → Int32} (h : okZ T) (ha : a < 8) (ok : okM g s) (hbv : g (s * 5 + 1) = nI 33 → ∃ b, b < 8 ∧ bv = nI b) : okZ (vbF T 0 s a bv g).2 := by
  by_cases h30 : g (s * 5 + 1) = nI 30
  · rw [vb_30 h30]
    show okZ (wkS T 0 s a _)
    unfold wkS; exact okZ_st (okZ_st h (Or.inl (by omega))) (Or.inl (by omega))
  · obtain ⟨t, ht, et⟩ := okM_T ok h30
    by_cases h31 : g (s * 5 + 1) = nI 31
    · rw [vb_31 h30 h31 ht et]; exact tk_ok h ha ht
    · by_cases h32 : g (s * 5 + 1) = nI 32
      · rw [vb_32 h30 h31 h32 ht et]; exact dp_ok h ht
      · obtain ⟨b, hb, rfl⟩ := hbv (okM_not ok h30 h31 h32)
        rw [vb_33 h30 h31 h32 ht hb et]; exact gv_ok h ha hb ht
def okX (x : Xs) : Prop := ∀ t, t < 10 → pv (x (16 + t))
theorem stp_ok {g : Nat → Int32} {s a : Nat} {bv : Int32} {x y : Xs} (h : okX x) (ha : a < 8) (ok : okM g s) (hbv : g (s * 5 + 1) = nI 33 → ∃ b, b < 8 ∧ bv = nI b) (e : stp g s a bv x = some y) : okX y := by
  unfold stp at e
  split at e
  · cases e
  · cases e
    refine vb_ok (T := eX (trX x s a bv)) ?_ ha ok hbv
    intro t ht
    show pv (trX x s a bv (16 + t))
    unfold trX upd
    rw [if_neg (by omega), if_neg (by omega)]
    exact h t ht
theorem gBl_in {g : Nat → Int32} {s a : Nat} : ∀ (k j : Nat) (c : Nat × Int32), j + k ≤ 8 → c ∈ gBl g s a k j → c.1 = a ∧ ∃ b, b < 8 ∧ c.2 = nI b
  | 0, _, c, _, h => by simp [gBl] at h
  | k + 1, j, c, hj, h => by
    unfold gBl at h
    rcases List.mem_append.mp h with q | q
    · split at q
      · simp at q
      · rw [List.mem_singleton.mp q]; exact ⟨rfl, j, by omega, rfl⟩
    · exact gBl_in k (j + 1) c (by omega) q
theorem gWl_in {g : Nat → Int32} {s : Nat} : ∀ (k a : Nat) (c : Nat × Int32), a + k ≤ 8 → c ∈ gWl g s k a → c.1 < 8 ∧ (g (s * 5 + 1) = nI 33 → ∃ b, b < 8 ∧ c.2 = nI b)
  | 0, _, c, _, h => by simp [gWl] at h
  | k + 1, a, c, hj, h => by
    unfold gWl at h
    rcases List.mem_append.mp h with q | q
    · split at q
      · simp at q
      · split at q
        · obtain ⟨h1, h2⟩ := gBl_in 8 0 c (by omega) q
          exact ⟨by omega, fun _ => h2⟩
        · rename_i h3
          rw [List.mem_singleton.mp q]; exact ⟨by show a < 8; omega, fun z => absurd z h3⟩
    · exact gWl_in k (a + 1) c (by omega) q
theorem rdX_ok {g : Nat → Int32} : ∀ k, (∀ s, s < k → okM g s) → ∀ x, x ∈ rdX g k → okX x
  | 0, _, x, h => by
    simp [rdX] at h; subst h
    intro t ht; left
    unfold iniV; rw [if_pos (by omega)]
  | k + 1, hok, x, h => by
    unfold rdX goX at h
    obtain ⟨y, hy, h2⟩ := List.mem_flatMap.mp h
    obtain ⟨c, hc, h3⟩ := List.mem_filterMap.mp h2
    obtain ⟨h4, h5⟩ := gWl_in 8 0 c (by omega) hc
    exact stp_ok (rdX_ok k (fun s hs => hok s (by omega)) y hy) h4 (hok k (by omega)) h5 h3
/-- the number of readings of the first k sentences, by the signs alone -/
def rdN (g : Nat → Int32) (k : Nat) : Nat := (rdX g k).length
theorem rdL_n {S : Sx} {k : Nat} (hk : k ≤ 14) (hok : ∀ s, s < k → okM (S 81) s) : (rdL S k).2 = rdN (S 81) k := (rdL_rep k hk hok).1
theorem rdL_x {S : Sx} {k r : Nat} {x : Xs} (hk : k ≤ 14) (hok : ∀ s, s < k → okM (S 81) s) (hx : (rdX (S 81) k)[r]? = some x) {j : Nat} (hj : j < 104) : (rdL S k).1 83 (104 * r + j) = x j := (rdL_rep k hk hok).2 r x hx j hj
theorem MR_of {S : Sx} {k : Nat} (hk : k ≤ 14) (hwf : ∀ s, s < k → wfM (S 81) s) (hm : ∀ s, s ≤ k → rdN (S 81) s ≤ 64) (h1 : 1 ≤ rdN (S 81) k) : MR S k := by
  have hok : ∀ s, s < k → okM (S 81) s := fun s hs => (hwf s hs).2.1
  refine ⟨hk, hwf, fun s hs => ?_, ?_, ?_, ?_⟩
  · rw [rdL_n (by omega) (fun t ht => hok t (by omega))]; exact hm s (by omega)
  · rw [rdL_n hk hok]; exact h1
  · rw [rdL_n hk hok]; exact hm k (by omega)
  · intro r hr t ht
    rw [rdL_n hk hok] at hr
    have hg : (rdX (S 81) k)[r]? = some (rdX (S 81) k)[r] := List.getElem?_eq_getElem hr
    have e := rdL_x hk hok hg (j := 16 + t) (by omega)
    rw [← Nat.add_assoc] at e
    rw [e]
    exact rdX_ok k hok _ (List.getElem_mem hr) t ht

