/-! ===== masks of persons ===== -/
theorem or_n {a b : Nat} (ha : a < 65536) (hb : b < 65536) : nI a ||| nI b = nI (a ||| b) := by
  have h : a ||| b < 65536 := Nat.or_lt_two_pow (n := 16) ha hb
  apply Int32.toBitVec_inj.mp
  apply BitVec.eq_of_toNat_eq
  rw [Int32.toBitVec_or, BitVec.toNat_or, pk_tn (by omega), pk_tn (by omega), pk_tn (by omega)]
theorem and_n {a b : Nat} (ha : a < 65536) (hb : b < 65536) : nI a &&& nI b = nI (a &&& b) := by
  have h : a &&& b < 65536 := Nat.lt_of_le_of_lt Nat.and_le_left ha
  apply Int32.toBitVec_inj.mp
  apply BitVec.eq_of_toNat_eq
  rw [Int32.toBitVec_and, BitVec.toNat_and, pk_tn (by omega), pk_tn (by omega), pk_tn (by omega)]
def pbN (a : Nat) : Nat := if a < 8 then 2 ^ a else 0
theorem pb_n8 : ∀ a, a < 8 → pb (nI a) = nI (pbN a) := by decide +kernel
theorem pb_n {a : Nat} (h : whoN a) : pb (nI a) = nI (pbN a) := by
  rcases h with h | rfl | rfl
  · exact pb_n8 a h
  · decide
  · decide
theorem pbN_lt (a : Nat) : pbN a < 256 := by
  unfold pbN; split
  · rename_i h; exact Nat.lt_of_lt_of_le (Nat.pow_lt_pow_right (by decide) h) (by decide)
  · decide
theorem pbN_bit8 : ∀ a, a < 8 → ∀ p, p < 8 → (pbN a).testBit p = decide (a = p) := by decide +kernel
theorem pbN_bit {a p : Nat} (h : whoN a) (hp : p < 8) : (pbN a).testBit p = true ↔ nI a = nI p := by
  rcases h with h | rfl | rfl
  · rw [pbN_bit8 a h p hp, decide_eq_true_iff, nI_eq (by omega) (by omega)]
  · rw [nI_eq (by decide) (by omega)]; simp [pbN]; omega
  · rw [nI_eq (by decide) (by omega)]; simp [pbN]; omega
def nmN (g : Nat → Int32) (s : Nat) : Nat := if g (s * 5 + 1) = nI 33 then pbN (saN g s) ||| pbN (sbN g s) else pbN (saN g s)
theorem who_lt {a : Nat} (h : whoN a) : a < 100 := by rcases h with h | h | h <;> omega
theorem sa_n {g : Nat → Int32} {s : Nat} (h : wfM g s) : whoN (saN g s) ∧ g (s * 5 + 0) = nI (saN g s) := by
  obtain ⟨a, h1, h2⟩ := h.1
  have := who_lt h1
  unfold saN; rw [h2, nI_clamp (by omega)]; exact ⟨h1, rfl⟩
theorem sb_n {g : Nat → Int32} {s : Nat} (h : wfM g s) (h3 : g (s * 5 + 1) = nI 33) : whoN (sbN g s) ∧ g (s * 5 + 3) = nI (sbN g s) := by
  obtain ⟨a, h1, h2⟩ := h.2.2 h3
  have := who_lt h1
  unfold sbN; rw [h2, nI_clamp (by omega)]; exact ⟨h1, rfl⟩
theorem nmN_lt (g : Nat → Int32) (s : Nat) : nmN g s < 256 := by
  unfold nmN; split
  · exact Nat.or_lt_two_pow (n := 8) (pbN_lt _) (pbN_lt _)
  · exact pbN_lt _
theorem nmd_n {g : Nat → Int32} {s : Nat} (h : wfM g s) : nmd g s = nI (nmN g s) := by
  obtain ⟨a1, a2⟩ := sa_n h
  have a2 : g (s * 5) = nI (saN g s) := a2
  unfold nmd nmN
  by_cases h3 : g (s * 5 + 1) = nI 33
  · obtain ⟨b1, b2⟩ := sb_n h h3
    rw [if_pos h3, if_pos h3, a2, b2, pb_n a1, pb_n b1, or_n (Nat.lt_trans (pbN_lt _) (by decide)) (Nat.lt_trans (pbN_lt _) (by decide))]
  · rw [if_neg h3, if_neg h3, a2, pb_n a1]
theorem nmN_bit {g : Nat → Int32} {s p : Nat} (h : wfM g s) (hp : p < 8) : (nmN g s).testBit p = true ↔ nmP g s (nI p) := by
  obtain ⟨a1, a2⟩ := sa_n h
  unfold nmN nmP
  rw [a2]
  by_cases h3 : g (s * 5 + 1) = nI 33
  · obtain ⟨b1, b2⟩ := sb_n h h3
    rw [if_pos h3, Nat.testBit_or, Bool.or_eq_true, pbN_bit a1 hp, pbN_bit b1 hp, b2]
    simp [h3]
  · rw [if_neg h3, pbN_bit a1 hp]; simp [h3]
def soN (t : Nat) : Nat := if t = 0 then 85 else 170
theorem so_bit : ∀ t, t < 2 → ∀ p, p < 8 → (soN t).testBit p = decide (p % 2 = t) := by decide +kernel
def cdN (g : Nat → Int32) (t : Nat) : Nat → Nat
  | 0 => 0
  | k + 1 => if nmN g k &&& soN t = 0 then cdN g t k else nmN g k &&& soN t
theorem cdN_lt (g : Nat → Int32) (t : Nat) : ∀ k, cdN g t k < 256
  | 0 => by show 0 < 256; omega
  | k + 1 => by
    unfold cdN; split
    · exact cdN_lt g t k
    · exact Nat.lt_of_le_of_lt Nat.and_le_left (nmN_lt g k)
theorem so_lt {t : Nat} : soN t < 65536 := by unfold soN; split <;> decide
theorem cdl_n {g : Nat → Int32} {t : Nat} : ∀ k, (∀ s, s < k → wfM g s) → cdl g (nI (soN t)) k = nI (cdN g t k)
  | 0, _ => rfl
  | k + 1, h => by
    unfold cdl cdN
    have hlt : nmN g k &&& soN t < 256 := Nat.lt_of_le_of_lt Nat.and_le_left (nmN_lt g k)
    rw [nmd_n (h k (by omega)), and_n (Nat.lt_trans (nmN_lt g k) (by decide)) so_lt]
    by_cases e : nmN g k &&& soN t = 0
    · rw [if_pos e, if_pos (by rw [e]; rfl)]; exact cdl_n k (fun s hs => h s (by omega))
    · rw [if_neg e, if_neg (fun q => e ((nI_z (by omega)).mp q))]
theorem any_bit : ∀ x, x < 256 → (x = 0 ↔ ∀ p, p < 8 → x.testBit p = false) := by decide +kernel
theorem anN_so {g : Nat → Int32} {k t : Nat} (h : wfM g k) (ht : t < 2) : anN g k t = true ↔ ¬ nmN g k &&& soN t = 0 := by
  have hlt : nmN g k &&& soN t < 256 := Nat.lt_of_le_of_lt Nat.and_le_left (nmN_lt g k)
  rw [any_bit _ hlt]
  have hb : ∀ p, p < 8 → ((nmN g k &&& soN t).testBit p = true ↔ (nmP g k (nI p) ∧ p % 2 = t)) := fun p hp => by
    rw [Nat.testBit_and, Bool.and_eq_true, nmN_bit h hp, so_bit t ht p hp, decide_eq_true_iff]
  constructor
  · intro q z
    unfold anN at q
    simp only [Bool.or_eq_true, decide_eq_true_iff] at q
    rcases q with ((q | q) | q) | q
    · have := (hb t (by omega)).mpr ⟨q, by omega⟩; rw [z t (by omega)] at this; cases this
    · have := (hb (t + 2) (by omega)).mpr ⟨q, by omega⟩; rw [z (t + 2) (by omega)] at this; cases this
    · have := (hb (t + 4) (by omega)).mpr ⟨q, by omega⟩; rw [z (t + 4) (by omega)] at this; cases this
    · have := (hb (t + 6) (by omega)).mpr ⟨q, by omega⟩; rw [z (t + 6) (by omega)] at this; cases this
  · intro q
    apply Classical.byContradiction
    intro z
    apply q
    intro p hp
    rw [← Bool.not_eq_true]
    intro y
    obtain ⟨y1, y2⟩ := (hb p hp).mp y
    apply z
    unfold anN
    simp only [Bool.or_eq_true, decide_eq_true_iff]
    rcases (show p = t ∨ p = t + 2 ∨ p = t + 4 ∨ p = t + 6 by omega) with rfl | rfl | rfl | rfl
    · exact Or.inl (Or.inl (Or.inl y1))
    · exact Or.inl (Or.inl (Or.inr y1))
    · exact Or.inl (Or.inr y1)
    · exact Or.inr y1
theorem mmL_bit {g : Nat → Int32} {t p : Nat} (ht : t < 2) (hp : p < 8) : ∀ k, (∀ s, s < k → wfM g s) → ((cdN g t k).testBit p = true ↔ (p % 2 = t ∧ ¬ mmL g t p k = 0))
  | 0, _ => by simp [cdN, mmL]; intro _; rfl
  | k + 1, h => by
    unfold cdN mmL
    have hw := h k (by omega)
    by_cases e : nmN g k &&& soN t = 0
    · rw [if_pos e, if_neg (fun q => (anN_so hw ht).mp q e)]
      exact mmL_bit ht hp k (fun s hs => h s (by omega))
    · rw [if_neg e, if_pos ((anN_so hw ht).mpr e), Nat.testBit_and, Bool.and_eq_true, nmN_bit hw hp, so_bit t ht p hp, decide_eq_true_iff]
      constructor
      · rintro ⟨q1, q2⟩; exact ⟨q2, bi_ne.mpr q1⟩
      · rintro ⟨q1, q2⟩; exact ⟨bi_ne.mp q2, q1⟩
/-- whom a sign may mean, as a mask -/
def mkN (g : Nat → Int32) (a s : Nat) : Nat := if a < 8 then pbN a else cdN g (a - 40) s
theorem mkN_lt (g : Nat → Int32) (a s : Nat) : mkN g a s < 256 := by unfold mkN; split; exact pbN_lt a; exact cdN_lt g _ s
theorem mk_bit {g : Nat → Int32} {a s p : Nat} (ha : whoN a) (hp : p < 8) (h : ∀ k, k < s → wfM g k) : (mkN g a s).testBit p = true ↔ ¬ mmF g a s p = 0 := by
  unfold mkN mmF
  rcases ha with h8 | rfl | rfl
  · rw [if_pos h8, if_pos h8, pbN_bit8 a h8 p hp, decide_eq_true_iff]; exact bi_ne.symm
  · rw [if_neg (by decide), if_neg (by decide), mmL_bit (by decide) hp s h]
    by_cases e : p % 2 = 40 - 40
    · rw [if_pos e]; exact ⟨fun q => q.2, fun q => ⟨e, q⟩⟩
    · rw [if_neg e]; exact ⟨fun q => absurd q.1 e, fun q => absurd rfl q⟩
  · rw [if_neg (by decide), if_neg (by decide), mmL_bit (by decide) hp s h]
    by_cases e : p % 2 = 41 - 40
    · rw [if_pos e]; exact ⟨fun q => q.2, fun q => ⟨e, q⟩⟩
    · rw [if_neg e]; exact ⟨fun q => absurd q.1 e, fun q => absurd rfl q⟩
theorem cnd_n {g : Nat → Int32} {a s : Nat} (ha : whoN a) (h : ∀ k, k < s → wfM g k) : cnd g s (nI a) = nI (mkN g a s) := by
  unfold cnd mkN
  rcases ha with h8 | rfl | rfl
  · rw [if_pos (isP_of h8), if_pos h8]
    have := pb_n8 a h8
    unfold pb at this
    rw [if_pos (isP_of h8)] at this
    exact this
  · rw [if_neg (by decide), if_pos rfl, if_neg (by decide)]; exact cdl_n (t := 0) s h
  · rw [if_neg (by decide), if_neg (by decide), if_neg (by decide)]; exact cdl_n (t := 1) s h

