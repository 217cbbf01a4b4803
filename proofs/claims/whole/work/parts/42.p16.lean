/-! ===== wrong ===== -/
theorem bit_t {D t : Nat} (hD : D < 2147483648) (ht : t < 32) : (nI D >>> (nI t &&& 31)) &&& nI 1 = 0 ↔ ¬ D.testBit t = true := by
  rw [bit_N hD ht, nI_z (by omega), Nat.testBit_eq_decide_div_mod_eq, decide_eq_true_iff]
  omega
theorem anm_b {g : Nat → Int32} : ∀ k, (∀ s, s < k → wfM g s) → ∃ D, D < 256 ∧ anm g k (nI 0) = nI D ∧ ∀ j, j < 8 → (D.testBit j = true ↔ ∃ s, s < k ∧ nmP g s (nI j))
  | 0, _ => ⟨0, by decide, rfl, fun j _ => ⟨fun z => by simp at z, fun ⟨s, hs, _⟩ => absurd hs (by omega)⟩⟩
  | k + 1, hw => by
    obtain ⟨D, d1, d2, d3⟩ := anm_b k (fun s hs => hw s (by omega))
    refine ⟨D ||| nmN g k, Nat.or_lt_two_pow (n := 8) d1 (nmN_lt g k), ?_, fun j hj => ?_⟩
    · unfold anm
      rw [d2, nmd_n (hw k (by omega)), or_n (by omega) (Nat.lt_trans (nmN_lt g k) (by decide))]
    · rw [Nat.testBit_or, Bool.or_eq_true, d3 j hj, nmN_bit (hw k (by omega)) hj]
      constructor
      · rintro (⟨s, hs, q⟩ | q)
        · exact ⟨s, by omega, q⟩
        · exact ⟨k, by omega, q⟩
      · rintro ⟨s, hs, q⟩
        by_cases e : s = k
        · subst e; exact Or.inr q
        · exact Or.inl ⟨s, by omega, q⟩
theorem isL_nat {x : Int32} (h : isL x) : ∃ q, q < 8 ∧ x = nI (20 + q) := by
  obtain ⟨h1, h2⟩ := h
  rw [i_le, t_k 20 (by decide)] at h1
  rw [i_lt, t_k 28 (by decide)] at h2
  obtain ⟨k, hk, e⟩ := i_nat (x := x) (m := 28) (by omega) (by omega) (by decide)
  rw [e, t_k k (by omega)] at h1
  exact ⟨k - 20, by omega, by rw [e]; congr 1; omega⟩
theorem sh_q : ∀ q, q < 8 → nI 1 <<< (nI q &&& 31) = nI (2 ^ q) := by decide +kernel
theorem pw_bit : ∀ q, q < 8 → ∀ j, j < 8 → ((2 ^ q).testBit j = true ↔ q = j) := by decide +kernel
theorem apl_b {g : Nat → Int32} : ∀ k, (∀ s, s < k → wfM g s) → ∃ D, D < 256 ∧ apl g k (nI 0) = nI D ∧ ∀ j, j < 8 → (D.testBit j = true ↔ ∃ s, s < k ∧ (g (s * 5 + 1) = nI 30 ∧ g (s * 5 + 2) = nI (20 + j)))
  | 0, _ => ⟨0, by decide, rfl, fun j _ => ⟨fun z => by simp at z, fun ⟨s, hs, _⟩ => absurd hs (by omega)⟩⟩
  | k + 1, hw => by
    obtain ⟨D, d1, d2, d3⟩ := apl_b k (fun s hs => hw s (by omega))
    unfold apl
    by_cases e : g (k * 5 + 1) = nI 30
    · have hL : isL (g (k * 5 + 2)) := by
        rcases (hw k (by omega)).2.1 with q | q
        · exact q.2
        · rw [e] at q; rcases q.1 with z | z | z <;> exact absurd z (by decide)
      obtain ⟨q, hq, eq⟩ := isL_nat hL
      have h2q : 2 ^ q < 256 := Nat.lt_of_lt_of_le (Nat.pow_lt_pow_right (by decide) hq) (by decide)
      refine ⟨D ||| 2 ^ q, Nat.or_lt_two_pow (n := 8) d1 h2q, ?_, fun j hj => ?_⟩
      · rw [if_pos e, d2, eq, pk_sub (by omega), show 20 + q - 20 = q by omega, sh_q q hq, or_n (by omega) (by omega)]
      · rw [Nat.testBit_or, Bool.or_eq_true, d3 j hj, pw_bit q hq j hj]
        constructor
        · rintro (⟨s, hs, z⟩ | z)
          · exact ⟨s, by omega, z⟩
          · exact ⟨k, by omega, e, by rw [eq, z]⟩
        · rintro ⟨s, hs, z1, z2⟩
          by_cases es : s = k
          · subst es
            rw [eq, nI_eq (by omega) (by omega)] at z2
            exact Or.inr (by omega)
          · exact Or.inl ⟨s, by omega, z1, z2⟩
    · refine ⟨D, d1, ?_, fun j hj => ?_⟩
      · rw [if_neg e]; exact d2
      · rw [d3 j hj]
        constructor
        · rintro ⟨s, hs, z⟩; exact ⟨s, by omega, z⟩
        · rintro ⟨s, hs, z1, z2⟩
          by_cases es : s = k
          · subst es; exact absurd z1 e
          · exact ⟨s, by omega, z1, z2⟩
theorem inN_p {g : Nat → Int32} {n j : Nat} (hj : j < 8) : inN g (nI (0 + j)) n = true ↔ ∃ s, s < n ∧ nmP g s (nI j) := by
  unfold inN
  rw [List.any_eq_true, Nat.zero_add]
  have e : ∀ s, inB g (nI j) s = decide (nmP g s (nI j)) := fun s => by
    unfold inB; rw [if_neg (by rw [nI_leI (by decide) (by omega)]; omega)]
  constructor
  · rintro ⟨s, hs, q⟩; rw [e] at q; exact ⟨s, List.mem_range.mp hs, of_decide_eq_true q⟩
  · rintro ⟨s, hs, q⟩; exact ⟨s, List.mem_range.mpr hs, by rw [e]; exact decide_eq_true q⟩
theorem inN_l {g : Nat → Int32} {n j : Nat} (hj : j < 8) : inN g (nI (20 + j)) n = true ↔ ∃ s, s < n ∧ (g (s * 5 + 1) = nI 30 ∧ g (s * 5 + 2) = nI (20 + j)) := by
  unfold inN
  rw [List.any_eq_true]
  have e : ∀ s, inB g (nI (20 + j)) s = decide (g (s * 5 + 1) = nI 30 ∧ g (s * 5 + 2) = nI (20 + j)) := fun s => by
    unfold inB; rw [if_pos (by rw [nI_leI (by decide) (by omega)]; omega)]
  constructor
  · rintro ⟨s, hs, q⟩; rw [e] at q; exact ⟨s, List.mem_range.mp hs, of_decide_eq_true q⟩
  · rintro ⟨s, hs, q⟩; exact ⟨s, List.mem_range.mpr hs, by rw [e]; exact decide_eq_true q⟩
theorem cb_wr {g : Nat → Int32} {n fr D : Nat} {r : Int32} (hD : D < 256) (h : ∀ j, j < 8 → (D.testBit j = true ↔ inN g (nI (fr + j)) n = true)) : ∀ (m j : Nat) (a : Int32), j + m ≤ 8 → cbF r (nI D) (nI fr) m j a = wrL g n fr r m j a
  | 0, _, _, _ => rfl
  | m + 1, j, a, hj => by
    unfold cbF wrL
    have ih := cb_wr (r := r) hD h m (j + 1)
    rw [nI_add]
    by_cases e : D.testBit j = true
    · rw [if_neg (fun z => (bit_t (by omega) (by omega)).mp z e), if_neg (show ¬ inN g (nI (fr + j)) n = false by rw [(h j (by omega)).mp e]; decide)]
      by_cases e2 : nI (fr + j) = r
      · rw [if_pos e2, if_pos e2]; exact ih a (by omega)
      · rw [if_neg e2, if_neg e2]
        by_cases e3 : a = 0
        · rw [if_pos e3, if_pos e3]
        · rw [if_neg e3, if_neg e3]; exact ih _ (by omega)
    · have en : inN g (nI (fr + j)) n = false := by rw [← Bool.not_eq_true]; exact fun z => e ((h j (by omega)).mpr z)
      rw [if_pos ((bit_t (by omega) (by omega)).mpr e), if_pos en]
      rw [ite_self]
      exact ih a (by omega)
theorem sub_step (v : Int32) (i : Nat) : v - nI i + Int32.ofInt (-1) = v - nI (i + 1) := by
  rw [← nI_add, show Int32.ofInt (-1) = -(nI 1) by decide, Int32.sub_eq_add_neg, Int32.sub_eq_add_neg, Int32.neg_add, Int32.sub_eq_add_neg, Int32.add_assoc]
theorem sub_nz {v : Int32} {i : Nat} (hi : i < 100) (hv : v < 0) : ¬ v - nI i = 0 := fun z => by
  have e : v = nI i := by
    have := Int32.sub_add_cancel v (nI i)
    rw [z, Int32.zero_add] at this
    exact this.symm
  rw [e, i_lt, t_k i (by omega), t_0] at hv
  omega
theorem cb_neg {r nm fs v : Int32} (hv : v < 0) : ∀ (m j i : Nat), i + m ≤ 50 → cbF r nm fs m j (v - nI i) = -1
  | 0, _, _, _ => rfl
  | m + 1, j, i, hi => by
    unfold cbF
    rw [if_neg (sub_nz (by omega) hv), sub_step, cb_neg hv m (j + 1) i (by omega), cb_neg hv m (j + 1) (i + 1) (by omega)]
    rw [ite_self, ite_self]
theorem op_wrong {G : Cx} {S : Sx} {n b : Nat} (x y v : Int32) (hN : 88 ≤ gN G) (h : IV S n b) : ∃ (r : Int32) (S1 : Sx), CT G 4 yX5_wrong cX5_wrong 5 (some .int) [ra G 0, .int x, .int y, .int v] S r S1 ∧ OPM G 6 yX6_wrong cX6_wrong 8 (some .int) [ra G 80, .int x, .int y, .int v] S1 r := by
  have h0 := h
  obtain ⟨h1, h2, h3, h4, h5, h6, h7, h8, h9, h10, h11⟩ := h
  have hN' : 80 ≤ gN G := Nat.le_trans (by decide) hN
  by_cases p : okQ x y
  · obtain ⟨k, a, hq, rfl, rfl⟩ := okQ_nat p
    refine ⟨_, S, kX5_wrong hN' h4 h1 hq, ?_⟩
    unfold wrF
    by_cases k3 : k = 3
    · rw [if_pos k3]; exact OPM_ct (kX6_wrong_no1 hN h6 h1 (Or.inl (by rw [k3]))) h0
    · rw [if_neg k3]
      by_cases hv : v < 0
      · have e : ∀ (r nm fs : Int32), cbF r nm fs 8 0 v = -1 := fun r nm fs => by
          have := cb_neg (r := r) (nm := nm) (fs := fs) hv 8 0 0 (by decide)
          rw [show v - nI 0 = v by rw [nI_0, Int32.sub_zero]] at this
          exact this
        rw [e, e, ite_self, ite_self]
        exact OPM_ct (kX6_wrong_no1 hN h6 h1 (Or.inr hv)) h0
      · obtain ⟨r1, r2, r3⟩ := rd_rep h0 (Nat.le_refl n)
        refine OPM_e (kX6_wrong hN h6 h1 hq k3 hv (GT_MR (IV_GT h0) (Nat.le_refl n))) ?_ (IV_kM h0 (rdL_kM S n))
        rw [an_l r1 r2 r3 hq, (fd_at h0 (Nat.le_refl n) hq).1]
        by_cases e1 : AN (rdX (S 81) n) k a < 0
        · rw [if_pos e1, if_pos e1]
        · rw [if_neg e1, if_neg e1, h7]
          by_cases e2 : k = 2
          · rw [if_pos e2, if_pos e2]
            obtain ⟨D, d1, d2, d3⟩ := anm_b (g := S 2) n h9.2.1
            rw [d2]
            exact (cb_wr (fr := 0) d1 (fun j hj => by rw [d3 j hj, inN_p hj]) 8 0 v (by decide)).symm
          · rw [if_neg e2, if_neg e2]
            obtain ⟨D, d1, d2, d3⟩ := apl_b (g := S 2) n h9.2.1
            rw [d2]
            exact (cb_wr (fr := 20) d1 (fun j hj => by rw [d3 j hj, inN_l hj]) 8 0 v (by decide)).symm
  · refine ⟨_, S, kX5_wrong_no hN' h4 h1 p, ?_⟩
    by_cases q : x = nI 3 ∨ v < 0
    · exact OPM_ct (kX6_wrong_no1 hN h6 h1 q) h0
    · exact OPM_ct (kX6_wrong_no2 hN h6 h1 p (fun z => q (Or.inl z)) (fun z => q (Or.inr z))) h0
