/-! ===== the sentence that was begun ===== -/
theorem isW_nat {x : Int32} (h : isW x) : ∃ a, whoN a ∧ x = nI a := by
  rcases h with h | h | h
  · obtain ⟨a, ha, e⟩ := isP_nat h; exact ⟨a, Or.inl ha, e⟩
  · exact ⟨40, Or.inr (Or.inl rfl), h⟩
  · exact ⟨41, Or.inr (Or.inr rfl), h⟩
theorem vb4 {x : Int32} (h : nI 30 ≤ x ∧ x ≤ nI 33) : x = nI 30 ∨ x = nI 31 ∨ x = nI 32 ∨ x = nI 33 := by
  obtain ⟨h1, h2⟩ := h
  obtain ⟨a, ha, rfl⟩ := nb (y := x) (w := 34) (fun z => by rw [i_lt, t_0] at z; rw [i_le, t_k 30 (by decide)] at h1; omega) (by rw [i_lt, t_k 34 (by decide)]; rw [i_le, t_k 33 (by decide)] at h2; omega) (by decide)
  rw [nI_leI (by decide) (by omega)] at h1
  rcases (show a = 30 ∨ a = 31 ∨ a = 32 ∨ a = 33 by omega) with rfl | rfl | rfl | rfl
  · exact Or.inl rfl
  · exact Or.inr (Or.inl rfl)
  · exact Or.inr (Or.inr (Or.inl rfl))
  · exact Or.inr (Or.inr (Or.inr rfl))
def BG (g : Nat → Int32) (n b : Nat) : Prop := (1 ≤ b → ∃ a, whoN a ∧ g (n * 5 + 0) = nI a) ∧ (2 ≤ b → g (n * 5 + 1) = nI 30 ∨ g (n * 5 + 1) = nI 31 ∨ g (n * 5 + 1) = nI 32 ∨ g (n * 5 + 1) = nI 33) ∧ (3 ≤ b → okM g n) ∧ (4 ≤ b → g (n * 5 + 1) = nI 33 ∧ ∃ a, whoN a ∧ g (n * 5 + 3) = nI a)
theorem BG_0 (g : Nat → Int32) (n : Nat) : BG g n 0 := ⟨fun h => absurd h (by decide), fun h => absurd h (by decide), fun h => absurd h (by decide), fun h => absurd h (by decide)⟩
theorem BG_go {g : Nat → Int32} {n b : Nat} {x : Int32} (hn : n < 14) (hb : b < 5) (h : BG g n b) (hf : fitF n b g x ≠ 0) (hx : x ≠ nI 50) : b + 1 < 5 ∧ BG (upd g (n * 5 + b) x) n (b + 1) := by
  unfold fitF at hf
  rw [if_pos hn] at hf
  obtain ⟨g1, g2, g3, g4⟩ := h
  rcases (show b = 0 ∨ b = 1 ∨ b = 2 ∨ b = 3 ∨ b = 4 by omega) with rfl | rfl | rfl | rfl | rfl
  · rw [if_pos rfl] at hf
    obtain ⟨a, ha, e⟩ := isW_nat (bi_ne.mp hf)
    refine ⟨by decide, fun _ => ⟨a, ha, ?_⟩, fun z => absurd z (by decide), fun z => absurd z (by decide), fun z => absurd z (by decide)⟩
    rw [ud_eq]; exact e
  · rw [if_neg (by decide), if_pos rfl] at hf
    have e := vb4 (bi_ne.mp hf)
    refine ⟨by decide, fun _ => ?_, fun _ => ?_, fun z => absurd z (by decide), fun z => absurd z (by decide)⟩
    · rw [ud_ne (by omega)]; exact g1 (by decide)
    · rw [ud_eq]; exact e
  · rw [if_neg (by decide), if_neg (by decide), if_pos rfl] at hf
    have e2 := g2 (by decide)
    refine ⟨by decide, fun _ => ?_, fun _ => ?_, fun _ => ?_, fun z => absurd z (by decide)⟩
    · rw [ud_ne (by omega)]; exact g1 (by decide)
    · rw [ud_ne (by omega)]; exact e2
    · unfold okM
      rw [ud_ne (show n * 5 + 1 ≠ n * 5 + 2 by omega), ud_eq]
      by_cases e : g (n * 5 + 1) = nI 30
      · rw [if_pos e] at hf
        exact Or.inl ⟨e, bi_ne.mp hf⟩
      · rw [if_neg e] at hf
        exact Or.inr ⟨e2.resolve_left e, bi_ne.mp hf⟩
  · rw [if_neg (by decide), if_neg (by decide), if_neg (by decide), if_pos rfl] at hf
    by_cases e : g (n * 5 + 1) = nI 33
    · rw [if_pos e] at hf
      obtain ⟨a, ha, ea⟩ := isW_nat (bi_ne.mp hf)
      refine ⟨by decide, fun _ => ?_, fun _ => ?_, fun _ => ?_, fun _ => ⟨?_, a, ha, ?_⟩⟩
      · rw [ud_ne (by omega)]; exact g1 (by decide)
      · rw [ud_ne (by omega)]; exact g2 (by decide)
      · have := g3 (by decide)
        unfold okM at this ⊢
        rw [ud_ne (show n * 5 + 1 ≠ n * 5 + 3 by omega), ud_ne (show n * 5 + 2 ≠ n * 5 + 3 by omega)]; exact this
      · rw [ud_ne (by omega)]; exact e
      · rw [ud_eq]; exact ea
    · rw [if_neg e] at hf
      exact absurd (bi_ne.mp hf) hx
  · rw [if_neg (by decide), if_neg (by decide), if_neg (by decide), if_neg (by decide)] at hf
    exact absurd (bi_ne.mp hf) hx
theorem BG_end {g : Nat → Int32} {n b : Nat} (hb : b < 5) (h : BG g n b) (hf : fitF n b g (nI 50) ≠ 0) : n < 14 ∧ wfM (upd g (n * 5 + b) (nI 50)) n ∧ wl (upd g (n * 5 + b) (nI 50)) n = b + 1 := by
  unfold fitF at hf
  by_cases hn : n < 14
  · rw [if_pos hn] at hf
    obtain ⟨g1, g2, g3, g4⟩ := h
    rcases (show b = 0 ∨ b = 1 ∨ b = 2 ∨ b = 3 ∨ b = 4 by omega) with rfl | rfl | rfl | rfl | rfl
    · rw [if_pos rfl] at hf; exact absurd (bi_ne.mp hf) (by decide)
    · rw [if_neg (by decide), if_pos rfl] at hf; exact absurd (bi_ne.mp hf) (by decide)
    · rw [if_neg (by decide), if_neg (by decide), if_pos rfl] at hf
      by_cases e : g (n * 5 + 1) = nI 30
      · rw [if_pos e] at hf; exact absurd (bi_ne.mp hf) (by decide)
      · rw [if_neg e] at hf; exact absurd (bi_ne.mp hf) (by decide)
    · rw [if_neg (by decide), if_neg (by decide), if_neg (by decide), if_pos rfl] at hf
      by_cases e : g (n * 5 + 1) = nI 33
      · rw [if_pos e] at hf; exact absurd (bi_ne.mp hf) (by decide)
      · refine ⟨hn, ⟨?_, ?_, fun z => ?_⟩, ?_⟩
        · rw [ud_ne (by omega)]; exact g1 (by decide)
        · have := g3 (by decide)
          unfold okM at this ⊢
          rw [ud_ne (show n * 5 + 1 ≠ n * 5 + 3 by omega), ud_ne (show n * 5 + 2 ≠ n * 5 + 3 by omega)]; exact this
        · rw [ud_ne (by omega)] at z; exact absurd z e
        · unfold wl; rw [ud_ne (by omega), if_neg e]
    · refine ⟨hn, ⟨?_, ?_, fun z => ?_⟩, ?_⟩
      · rw [ud_ne (by omega)]; exact g1 (by decide)
      · have := g3 (by decide)
        unfold okM at this ⊢
        rw [ud_ne (show n * 5 + 1 ≠ n * 5 + 4 by omega), ud_ne (show n * 5 + 2 ≠ n * 5 + 4 by omega)]; exact this
      · rw [ud_ne (by omega)]; exact (g4 (by decide)).2
      · unfold wl; rw [ud_ne (by omega), if_pos (g4 (by decide)).1]
  · rw [if_neg hn] at hf; exact absurd rfl hf
/-! ===== what holds between two calls ===== -/
def IV (S : Sx) (n b : Nat) : Prop := n ≤ 14 ∧ b < 5 ∧ (n = 14 → b = 0) ∧ S 1 2 = nI n ∧ S 1 3 = nI b ∧ S 80 0 = nI n ∧ S 81 = S 2 ∧ (∀ s, s ≤ n → s < 14 → S 82 s = nI (tl n b (S 2) s)) ∧ GT (S 2) n ∧ BG (S 2) n b ∧ CI S n
def kC (S S' : Sx) : Prop := ∀ q, (q < 8 ∨ (14 ≤ q ∧ q < 18) ∨ 20 ≤ q) → S' q = S q
theorem CI_kC {S S' : Sx} {n : Nat} (h : CI S n) (k : ∀ q, (q < 8 ∨ (14 ≤ q ∧ q < 18) ∨ (20 ≤ q ∧ q < 80)) → S' q = S q) (hn : n ≤ 14) : CI S' n := CI_congr h (fun j _ => by rw [k 2 (by omega)]) (fun j _ => by rw [k 3 (by omega)]) (fun j _ => by rw [k 6 (by omega)]) (fun j hj => k _ (by omega)) (fun j hj => ⟨k _ (by omega), k _ (by omega), k _ (by omega)⟩)
theorem IV_kC {S S' : Sx} {n b : Nat} (h : IV S n b) (k : kC S S') : IV S' n b := by
  obtain ⟨h1, h2, h3, h4, h5, h6, h7, h8, h9, h10, h11⟩ := h
  have e2 : S' 2 = S 2 := k 2 (by omega)
  refine ⟨h1, h2, h3, by rw [k 1 (by omega)]; exact h4, by rw [k 1 (by omega)]; exact h5, by rw [k 80 (by omega)]; exact h6, by rw [k 81 (by omega), e2]; exact h7, ?_, by rw [e2]; exact h9, by rw [e2]; exact h10, CI_kC h11 (fun q hq => k q (by omega)) h1⟩
  rw [k 82 (by omega), e2]; exact h8
theorem IV_kM {S S' : Sx} {n b : Nat} (h : IV S n b) (k : kM S S') : IV S' n b := by
  obtain ⟨h1, h2, h3, h4, h5, h6, h7, h8, h9, h10, h11⟩ := h
  obtain ⟨k1, k2, k3, k4⟩ := k
  have e2 : S' 2 = S 2 := k4 2 (by omega)
  refine ⟨h1, h2, h3, by rw [k4 1 (by omega)]; exact h4, by rw [k4 1 (by omega)]; exact h5, by rw [k2]; exact h6, by rw [k1, e2]; exact h7, ?_, by rw [e2]; exact h9, by rw [e2]; exact h10, CI_kC h11 (fun q hq => k4 q (by omega)) h1⟩
  rw [k3, e2]; exact h8
theorem IV_GT {S : Sx} {n b : Nat} (h : IV S n b) : GT (S 81) n := by
  obtain ⟨h1, h2, h3, h4, h5, h6, h7, h8, h9, h10, h11⟩ := h
  rw [h7]; exact h9
theorem IV_b {S : Sx} {n b : Nat} (h : IV S n b) : n < 14 → S 82 n = nI b := fun hn => by
  obtain ⟨h1, h2, h3, h4, h5, h6, h7, h8, h9, h10, h11⟩ := h
  have := h8 n (Nat.le_refl n) hn
  unfold tl at this; rw [if_pos rfl] at this; exact this
theorem st_ud {S : Sx} {c i : Nat} {x : Int32} : st S c i x c = upd (S c) i x := st_eq
theorem wl_loc {g g' : Nat → Int32} {s : Nat} (h : g (s * 5 + 1) = g' (s * 5 + 1)) : wl g s = wl g' s := by unfold wl; rw [h]
theorem ews_6 {s ns nr : Nat} {j : Nat} (hj : j ≠ s + 1) : ∀ (m r : Nat) (S : Sx) (z : Nat), (ews s ns nr m r S z).1 6 j = S 6 j
  | 0, _, _, _ => rfl
  | m + 1, r, S, z => by
    unfold ews; split
    · rw [ews_6 hj m, ewF_6 s _ _ _ j hj, goT_ne (by omega)]
    · rw [ewF_6 s _ _ _ j hj, goT_ne (by omega)]
theorem faS_ne2 {S : Sx} {k q : Nat} (h : q < 8 ∨ 14 ≤ q) (h1 : q ≠ 35 + k) (h2 : q ≠ 50 + k) (h3 : q ≠ 65 + k) : ∀ r, faS S k r q = S q
  | 0 => rfl
  | r + 1 => by unfold faS; rw [hrF_ne h1 h2 h3, goT_ne (by omega)]; exact faS_ne2 h h1 h2 h3 r
theorem clF_ne {S : Sx} {k i q : Nat} (h : q ≠ 65 + k) : clF S k i q = S q := by funext j; unfold clF; rw [if_neg (fun z => h z.1)]
theorem flat_le {α β : Type} {f : α → List β} {c : Nat} (hf : ∀ x, (f x).length ≤ c) : ∀ l : List α, (l.flatMap f).length ≤ l.length * c
  | [] => by simp
  | x :: l => by
    rw [List.flatMap_cons, List.length_append, List.length_cons, Nat.succ_mul]
    have := flat_le hf l
    have := hf x
    omega
theorem pri_len (a b : Nat) : (pri a b).length ≤ a * b := by
  have := flat_le (f := fun i : Nat => (List.range b).map (fun j => (i, j))) (c := b) (fun x => by simp) (List.range a)
  rw [List.length_range] at this; exact this
theorem rdN_4 {g : Nat → Int32} {n : Nat} (h : ∀ k, k ≤ n → wfM g k) : rdN g (n + 1) ≤ rdN g n * 4 := by
  unfold rdN
  show (goX g n (rdX g n)).length ≤ _
  rw [goX_p h]
  refine flat_le (fun x => ?_) _
  refine Nat.le_trans (List.length_filterMap_le _ _) (Nat.le_trans (pri_len _ _) ?_)
  exact Nat.mul_le_mul (n0_2 h) (n1_2 h)
