/-! ===== covers ===== -/
def dN (L F : Nat) : Nat := L ^^^ (L &&& F)
theorem dN_bit (L F t : Nat) : (dN L F).testBit t = (L.testBit t && !F.testBit t) := by
  unfold dN; rw [Nat.testBit_xor, Nat.testBit_and]; cases L.testBit t <;> cases F.testBit t <;> rfl
theorem dN_lt {L F : Nat} (h : L < 16384) : dN L F < 16384 := Nat.xor_lt_two_pow (n := 14) h (Nat.lt_of_le_of_lt Nat.and_le_left h)
theorem nbit {L i : Nat} (hi : i < 32) : (nI L).toBitVec.getLsbD i = L.testBit i := by
  show (BitVec.ofNat 32 L).getLsbD i = _
  rw [BitVec.getLsbD_ofNat, decide_eq_true hi, Bool.true_and]
theorem dif_n (L F : Nat) : nI L &&& (nI F ^^^ -1) = nI (dN L F) := by
  apply Int32.toBitVec_inj.mp
  apply BitVec.eq_of_getLsbD_eq
  intro i hi
  rw [Int32.toBitVec_and, Int32.toBitVec_xor, BitVec.getLsbD_and, BitVec.getLsbD_xor, nbit hi, nbit hi, nbit hi, dN_bit, show (-1 : Int32).toBitVec = BitVec.allOnes 32 by decide, BitVec.getLsbD_allOnes, decide_eq_true hi, Bool.xor_true]
theorem hi_bit {L t : Nat} (h : L < 16384) (ht : 14 ≤ t) : L.testBit t = false := Nat.testBit_lt_two_pow (Nat.lt_of_lt_of_le h (Nat.le_trans (show 16384 ≤ 2 ^ 14 by decide) (Nat.pow_le_pow_right (by decide) ht)))
theorem bit_14 {L t : Nat} (h : L < 16384) (ht : L.testBit t = true) : t < 14 := by
  apply Classical.byContradiction; intro z
  rw [hi_bit h (by omega)] at ht; cases ht
theorem z_bit {L : Nat} (h : ∀ t, L.testBit t = false) : L = 0 := Nat.eq_of_testBit_eq (fun i => by rw [h i, Nat.zero_testBit])
theorem nz_bit {L : Nat} (h : L ≠ 0) : ∃ t, L.testBit t = true := by
  apply Classical.byContradiction; intro z
  exact h (z_bit (fun t => by rw [← Bool.not_eq_true]; exact fun y => z ⟨t, y⟩))
theorem and_pow {L t : Nat} : L &&& 2 ^ t = 0 ↔ ¬ L.testBit t = true := by
  constructor
  · intro z y
    have : (L &&& 2 ^ t).testBit t = true := by rw [Nat.testBit_and, y, Nat.testBit_two_pow_self]; rfl
    rw [z, Nat.zero_testBit] at this; cases this
  · intro z
    apply z_bit
    intro i
    rw [Nat.testBit_and]
    by_cases e : t = i
    · rw [← e, Bool.not_eq_true _ |>.mp z, Bool.false_and]
    · rw [Nat.testBit_two_pow_of_ne e, Bool.and_false]
theorem b_t (m k : Nat) : m / 2 ^ k % 2 = if m.testBit k = true then 1 else 0 := by
  rw [Nat.testBit_eq_decide_div_mod_eq]
  by_cases e : m / 2 ^ k % 2 = 1
  · rw [decide_eq_true e, if_pos rfl]; exact e
  · rw [decide_eq_false e, if_neg (by decide)]; omega
theorem bs_add (L F : Nat) : ∀ k, bsN L k = bsN (L &&& F) k + bsN (dN L F) k
  | 0 => rfl
  | k + 1 => by
    unfold bsN
    rw [bs_add L F k, b_t, b_t, b_t, Nat.testBit_and, dN_bit]
    cases L.testBit k <;> cases F.testBit k <;> simp <;> omega
theorem bs_mono {A B : Nat} (h : ∀ t, A.testBit t = true → B.testBit t = true) : ∀ k, bsN A k ≤ bsN B k
  | 0 => Nat.le_refl _
  | k + 1 => by
    unfold bsN
    have := bs_mono h k
    rw [b_t, b_t]
    by_cases e : A.testBit k = true
    · rw [if_pos e, if_pos (h k e)]; omega
    · rw [if_neg e]; omega
theorem bs_pos {A t : Nat} (h : A.testBit t = true) : ∀ k, t < k → 1 ≤ bsN A k
  | 0, ht => absurd ht (by omega)
  | k + 1, ht => by
    unfold bsN
    by_cases e : t = k
    · rw [b_t, ← e, if_pos h]; omega
    · have := bs_pos h k (by omega); omega
theorem bs_0 {L : Nat} (h : L < 16384) (h0 : bsN L 14 = 0) : L = 0 := z_bit (fun t => by
  rw [← Bool.not_eq_true]; intro y
  have := bs_pos y 14 (bit_14 h y); omega)
theorem bs_z : ∀ k, bsN 0 k = 0
  | 0 => rfl
  | k + 1 => by unfold bsN; rw [bs_z k]; simp
theorem bs_dec {L F t : Nat} (hL : L < 16384) (h1 : L.testBit t = true) (h2 : F.testBit t = true) : bsN (dN L F) 14 + 1 ≤ bsN L 14 := by
  have := bs_add L F 14
  have := bs_pos (A := L &&& F) (t := t) (by rw [Nat.testBit_and, h1, h2]; rfl) 14 (bit_14 hL h1)
  omega
theorem pcF {m : Nat} (h : m < 16384) : bcF (nI m) = nI (bsN m 14) := by rw [bcF_n h, bcN_s h]
/-- so few of the sets hold all of L -/
def CVr (F : Nat → Nat) (z : Nat) : Nat → Nat → Prop
  | 0, L => L = 0
  | p + 1, L => L = 0 ∨ ∃ i, i < z ∧ CVr F z p (dN L (F i))
theorem CV_prune {F : Nat → Nat} {z W : Nat} : ∀ (p L : Nat), CVr F z p L → (∀ i, i < z → bsN (F i &&& L) 14 ≤ W) → bsN L 14 ≤ p * W
  | 0, L, h, _ => by rw [show L = 0 from h, bs_z]; omega
  | p + 1, L, h, hW => by
    rcases h with h | ⟨i, hi, h⟩
    · rw [h, bs_z]; omega
    · have h1 := CV_prune p (dN L (F i)) h (fun j hj => Nat.le_trans (bs_mono (fun t ht => by
        rw [Nat.testBit_and, dN_bit] at ht
        rw [Nat.testBit_and]
        revert ht
        cases (F j).testBit t <;> cases L.testBit t <;> simp) 14) (hW j hj))
      have h2 := bs_add L (F i) 14
      have h3 := hW i hi
      rw [Nat.and_comm] at h3
      rw [Nat.succ_mul]; omega
theorem dN_comm (L A B : Nat) : dN (dN L A) B = dN (dN L B) A := Nat.eq_of_testBit_eq (fun i => by
  rw [dN_bit, dN_bit, dN_bit, dN_bit]; cases L.testBit i <;> cases A.testBit i <;> cases B.testBit i <;> rfl)
theorem CV_ex {F : Nat → Nat} {z t : Nat} : ∀ (p L : Nat), CVr F z (p + 1) L → L.testBit t = true → ∃ i, i < z ∧ (F i).testBit t = true ∧ CVr F z p (dN L (F i))
  | p, L, h, ht => by
    rcases h with h | ⟨i, hi, h⟩
    · rw [h, Nat.zero_testBit] at ht; cases ht
    · by_cases e : (F i).testBit t = true
      · exact ⟨i, hi, e, h⟩
      · have hb : (dN L (F i)).testBit t = true := by rw [dN_bit, ht, Bool.not_eq_true _ |>.mp e]; rfl
        cases p with
        | zero =>
          have h : dN L (F i) = 0 := h
          rw [h, Nat.zero_testBit] at hb; cases hb
        | succ p =>
          obtain ⟨j, hj, e2, h2⟩ := CV_ex p (dN L (F i)) h hb
          refine ⟨j, hj, e2, Or.inr ⟨i, hi, ?_⟩⟩
          rw [dN_comm]; exact h2
/-- a set a bit: enough -/
theorem CV_bits {F : Nat → Nat} {z : Nat} : ∀ (p L : Nat), L < 16384 → bsN L 14 ≤ p → (∀ t, L.testBit t = true → ∃ i, i < z ∧ (F i).testBit t = true) → CVr F z p L
  | 0, L, hL, h, _ => bs_0 hL (by omega)
  | p + 1, L, hL, h, hb => by
    by_cases e : L = 0
    · exact Or.inl e
    · obtain ⟨t, ht⟩ := nz_bit e
      obtain ⟨i, hi, h2⟩ := hb t ht
      have := bs_dec hL ht h2
      refine Or.inr ⟨i, hi, CV_bits p _ (dN_lt hL) (by omega) (fun u hu => hb u ?_)⟩
      rw [dN_bit] at hu
      revert hu; cases L.testBit u <;> simp
/-- all sets: enough -/
theorem CV_all {F : Nat → Nat} {z : Nat} : ∀ (m L : Nat), m ≤ z → (∀ t, L.testBit t = true → ∃ i, i < m ∧ (F i).testBit t = true) → CVr F z m L
  | 0, L, _, hb => z_bit (fun t => by
    rw [← Bool.not_eq_true]; intro y
    obtain ⟨i, hi, -⟩ := hb t y; omega)
  | m + 1, L, hm, hb => by
    refine Or.inr ⟨m, by omega, CV_all m _ (by omega) (fun t ht => ?_)⟩
    rw [dN_bit, Bool.and_eq_true] at ht
    obtain ⟨i, hi, h2⟩ := hb t ht.1
    have : i ≠ m := fun z => by rw [z] at h2; rw [h2] at ht; exact absurd ht.2 (by decide)
    exact ⟨i, by omega, h2⟩
theorem mx_n {a b : Nat} (ha : a < 2147483648) (hb : b < 2147483648) : mx (nI a) (nI b) = nI (max a b) := by
  unfold mx
  by_cases e : a < b
  · rw [if_pos (nI_lt e hb), Nat.max_eq_right (by omega)]
  · rw [if_neg (fun z => e ((nI_ltI ha hb).mp z)), Nat.max_eq_left (by omega)]
def wdN (F : Nat → Nat) (L : Nat) : Nat → Nat
  | 0 => 0
  | k + 1 => max (wdN F L k) (bsN (F k &&& L) 14)
theorem wdN_le (F : Nat → Nat) (L : Nat) : ∀ k, wdN F L k ≤ 14
  | 0 => by show 0 ≤ 14; decide
  | k + 1 => Nat.max_le.mpr ⟨wdN_le F L k, bsN_le _ 14⟩
theorem wdN_ge (F : Nat → Nat) (L : Nat) : ∀ k i, i < k → bsN (F i &&& L) 14 ≤ wdN F L k
  | 0, i, h => absurd h (by omega)
  | k + 1, i, h => by
    by_cases e : i = k
    · rw [e]; exact Nat.le_max_right _ _
    · exact Nat.le_trans (wdN_ge F L k i (by omega)) (Nat.le_max_left _ _)
theorem wd_n {f : Nat → Int32} {F : Nat → Nat} {z L : Nat} (hf : ∀ i, i < z → f i = nI (F i) ∧ F i < 16384) (hL : L < 16384) : ∀ k, k ≤ z → wdF f (nI L) k = nI (wdN F L k)
  | 0, _ => rfl
  | k + 1, hk => by
    have h1 := hf k (by omega)
    have h3 : F k &&& L < 16384 := Nat.lt_of_le_of_lt Nat.and_le_left h1.2
    have h4 := wdN_le F L k
    have h5 := bsN_le (F k &&& L) 14
    unfold wdF wdN
    rw [wd_n hf hL k (by omega), h1.1, and_n (by omega) (by omega), pcF h3, mx_n (by omega) (by omega)]
theorem rr_b {f : Nat → Int32} {z L : Nat} (hz : z ≤ 36) (hL : L < 16384) : ∀ b, b ≤ 14 → ((∃ t, t < b ∧ L.testBit t = true) → ∃ t, t < b ∧ L.testBit t = true ∧ (rrF f z (nI L) b).1 = bS t) ∧ ((∀ t, t < b → ¬ L.testBit t = true) → (rrF f z (nI L) b).2 = 37)
  | 0, _ => ⟨fun ⟨t, ht, _⟩ => absurd ht (by omega), fun _ => rfl⟩
  | b + 1, hb => by
    obtain ⟨i1, i2⟩ := rr_b hz hL b (by omega) (f := f)
    have ho := hoC_le f (nI 1 <<< (nI b &&& 31)) z
    by_cases e : L.testBit b = true
    · have en : ¬ (nI L >>> (nI b &&& 31)) &&& nI 1 = 0 := fun q => (bit_t (by omega) (by omega)).mp q e
      refine ⟨fun _ => ?_, fun q => absurd e (q b (by omega))⟩
      unfold rrF
      rw [if_neg en]
      by_cases q : hoC f (nI 1 <<< (nI b &&& 31)) z < (rrF f z (nI L) b).2
      · rw [if_pos q]; exact ⟨b, by omega, e, rfl⟩
      · rw [if_neg q]
        have : ∃ t, t < b ∧ L.testBit t = true := by
          apply Classical.byContradiction; intro y
          have := i2 (fun t ht z => y ⟨t, ht, z⟩)
          omega
        obtain ⟨t, t1, t2, t3⟩ := i1 this
        exact ⟨t, by omega, t2, t3⟩
    · have ep : (nI L >>> (nI b &&& 31)) &&& nI 1 = 0 := (bit_t (by omega) (by omega)).mpr e
      have er : rrF f z (nI L) (b + 1) = rrF f z (nI L) b := by
        conv => lhs; unfold rrF
        rw [if_pos ep, if_neg (Nat.lt_irrefl _)]
      rw [er]
      refine ⟨fun ⟨t, ht, h2⟩ => ?_, fun q => i2 (fun t ht => q t (by omega))⟩
      have : t ≠ b := fun y => by rw [y] at h2; exact e h2
      obtain ⟨u, u1, u2, u3⟩ := i1 ⟨t, by omega, h2⟩
      exact ⟨u, by omega, u2, u3⟩
theorem f_bit {f : Nat → Int32} {F : Nat → Nat} {z i t : Nat} (hf : ∀ i, i < z → f i = nI (F i) ∧ F i < 16384) (hi : i < z) (ht : t < 14) : f i &&& nI (2 ^ t) = 0 ↔ ¬ (F i).testBit t = true := by
  have h2 : 2 ^ t < 16384 := Nat.lt_of_lt_of_le (Nat.pow_lt_pow_right (by decide) ht) (by decide)
  have h3 : F i &&& 2 ^ t < 16384 := Nat.lt_of_le_of_lt Nat.and_le_left (hf i hi).2
  have := (hf i hi).2
  rw [(hf i hi).1, and_n (by omega) (by omega), nI_z (by omega), and_pow]
theorem sf_cv {f : Nat → Int32} {F : Nat → Nat} {z : Nat} (hz : z ≤ 36) (hf : ∀ i, i < z → f i = nI (F i) ∧ F i < 16384) : ∀ p, p ≤ 20 → ∀ L, L < 16384 → (sfF f z p (nI L) = true ↔ CVr F z p L)
  | 0, _, L, hL => by
    unfold sfF CVr
    rw [decide_eq_true_iff, nI_z (by omega)]
  | p + 1, hp, L, hL => by
    unfold sfF
    by_cases e : L = 0
    · rw [if_pos (by rw [e]; rfl)]
      exact ⟨fun _ => Or.inl e, fun _ => rfl⟩
    · rw [if_neg (fun q => e ((nI_z (by omega)).mp q)), wd_n hf hL z (Nat.le_refl z), pcF hL, pk_mul]
      have w1 := wdN_le F L z
      have w2 := bsN_le L 14
      have w3 : (p + 1) * wdN F L z ≤ 21 * 14 := Nat.mul_le_mul (by omega) w1
      by_cases q : nI ((p + 1) * wdN F L z) < nI (bsN L 14)
      · rw [if_pos q]
        rw [nI_ltI (by omega) (by omega)] at q
        refine ⟨fun y => absurd y (by decide), fun y => ?_⟩
        have := CV_prune (p + 1) L y (fun i hi => wdN_ge F L z i hi)
        omega
      · rw [if_neg q]
        obtain ⟨t0, ht0⟩ := nz_bit e
        obtain ⟨t, t1, t2, t3⟩ := (rr_b (f := f) hz hL 14 (by decide)).1 ⟨t0, bit_14 hL ht0, ht0⟩
        rw [t3, bS_n t t1, List.any_eq_true]
        have ih := sf_cv hz hf p (by omega)
        constructor
        · rintro ⟨i, hi, h⟩
          rw [Bool.and_eq_true] at h
          refine Or.inr ⟨i, List.mem_range.mp hi, ?_⟩
          have h2 := h.2
          rw [(hf i (List.mem_range.mp hi)).1, dif_n] at h2
          exact (ih _ (dN_lt hL)).mp h2
        · intro y
          obtain ⟨i, hi, h1, h2⟩ := CV_ex p L y t2
          refine ⟨i, List.mem_range.mpr hi, ?_⟩
          rw [Bool.and_eq_true]
          refine ⟨?_, ?_⟩
          · rw [decide_eq_false (fun y => (f_bit hf hi t1).mp y h1)]; rfl
          · rw [(hf i hi).1, dif_n]; exact (ih _ (dN_lt hL)).mpr h2
theorem ls_min {f : Nat → Int32} {F : Nat → Nat} {z L : Nat} (hz : z ≤ 36) (hf : ∀ i, i < z → f i = nI (F i) ∧ F i < 16384) (hL : L < 16384) : ∀ k p, p + k ≤ 20 → lsF f z (nI L) k p ≤ p + k ∧ (∀ q, p ≤ q → q < lsF f z (nI L) k p → ¬ CVr F z q L) ∧ (lsF f z (nI L) k p = p + k ∨ CVr F z (lsF f z (nI L) k p) L)
  | 0, p, _ => by
    unfold lsF
    exact ⟨by omega, fun q h1 h2 => absurd h2 (by omega), Or.inl (by omega)⟩
  | k + 1, p, hp => by
    unfold lsF
    by_cases e : sfF f z p (nI L) = true
    · rw [if_pos e]
      exact ⟨by omega, fun q h1 h2 => absurd h2 (by omega), Or.inr ((sf_cv hz hf p (by omega) L hL).mp e)⟩
    · rw [if_neg e]
      obtain ⟨i1, i2, i3⟩ := ls_min hz hf hL k (p + 1) (by omega)
      refine ⟨by omega, fun q h1 h2 => ?_, ?_⟩
      · by_cases eq : q = p
        · rw [eq]; exact fun y => e ((sf_cv hz hf p (by omega) L hL).mpr y)
        · exact i2 q (by omega) h2
      · rcases i3 with i3 | i3
        · exact Or.inl (by omega)
        · exact Or.inr i3
def lowN (L : Nat) : Nat := L &&& (4294967296 - L)
set_option maxRecDepth 100000 in
theorem low_1 : ∀ i, i < 128 → ∀ j, j < 128 → 128 * i + j = 0 ∨ (2 ^ (Nat.log2 (lowN (128 * i + j))) = lowN (128 * i + j) ∧ Nat.log2 (lowN (128 * i + j)) < 14 ∧ (128 * i + j).testBit (Nat.log2 (lowN (128 * i + j))) = true) := by decide +kernel
theorem low_n {L : Nat} (hL : L < 16384) (h0 : L ≠ 0) : ∃ t, t < 14 ∧ L.testBit t = true ∧ nI L &&& -(nI L) = nI (2 ^ t) := by
  have h := low_1 (L / 128) (by omega) (L % 128) (by omega)
  rw [Nat.div_add_mod] at h
  rcases h with h | ⟨a, b, c⟩
  · exact absurd h h0
  · refine ⟨_, b, c, ?_⟩
    rw [a]
    have hl : lowN L < 16384 := Nat.lt_of_le_of_lt Nat.and_le_left hL
    apply Int32.toBitVec_inj.mp
    apply BitVec.eq_of_toNat_eq
    rw [Int32.toBitVec_and, BitVec.toNat_and, Int32.toBitVec_neg, BitVec.toNat_neg, pk_tn (by omega), pk_tn (by omega), Nat.mod_eq_of_lt (by omega)]
    rfl
/-- the least of b and what covers the rest -/
def MN (F : Nat → Nat) (n r b d L : Nat) : Prop := r ≤ b ∧ (r = b ∨ ∃ p, r = d + p ∧ CVr F n p L) ∧ ∀ p, CVr F n p L → r ≤ d + p
theorem MN_0 (F : Nat → Nat) (n b d : Nat) : MN F n (if d < b then d else b) b d 0 := by
  have h0 : CVr F n 0 0 := rfl
  by_cases e : d < b
  · rw [if_pos e]; exact ⟨by omega, Or.inr ⟨0, rfl, h0⟩, fun p _ => by omega⟩
  · rw [if_neg e]; exact ⟨Nat.le_refl _, Or.inl rfl, fun p _ => by omega⟩
theorem row_min {f : Nat → Int32} {F : Nat → Nat} {n t d L : Nat} {c : Int32} {rc : Int32 → Nat → Nat} (hf : ∀ i, i < n → f i = nI (F i) ∧ F i < 16384) (ht : t < 14) (hrc : ∀ j, j < n → (F j).testBit t = true → ∀ b, MN F n (rc (c ||| f j) b) b (d + 1) (dN L (F j))) : ∀ (m i b : Nat), i + m = n → rowV f (nI (2 ^ t)) rc d c m i b ≤ b ∧ (rowV f (nI (2 ^ t)) rc d c m i b = b ∨ ∃ p, rowV f (nI (2 ^ t)) rc d c m i b = d + p ∧ CVr F n p L) ∧ ∀ j, i ≤ j → j < n → (F j).testBit t = true → ∀ p, CVr F n p (dN L (F j)) → rowV f (nI (2 ^ t)) rc d c m i b ≤ d + 1 + p
  | 0, i, b, hi => by
    unfold rowV
    exact ⟨Nat.le_refl _, Or.inl rfl, fun j h1 h2 => absurd h2 (by omega)⟩
  | m + 1, i, b, hi => by
    unfold rowV
    by_cases e1 : b ≤ d + 1
    · rw [if_pos e1]
      exact ⟨Nat.le_refl _, Or.inl rfl, fun j _ _ _ p _ => by omega⟩
    · rw [if_neg e1]
      by_cases e2 : f i &&& nI (2 ^ t) = 0
      · rw [if_pos e2]
        obtain ⟨i1, i2, i3⟩ := row_min hf ht hrc m (i + 1) b (by omega)
        refine ⟨i1, i2, fun j h1 h2 h3 => ?_⟩
        have : j ≠ i := fun y => by rw [y] at h3; exact (f_bit hf (by omega) ht).mp e2 h3
        exact i3 j (by omega) h2 h3
      · rw [if_neg e2]
        have hb : (F i).testBit t = true := by
          apply Classical.byContradiction; intro y
          exact e2 ((f_bit hf (by omega) ht).mpr y)
        obtain ⟨c1, c2, c3⟩ := hrc i (by omega) hb b
        obtain ⟨i1, i2, i3⟩ := row_min hf ht hrc m (i + 1) (rc (c ||| f i) b) (by omega)
        refine ⟨by omega, ?_, fun j h1 h2 h3 p hp => ?_⟩
        · rcases i2 with i2 | ⟨p, hp, hc⟩
          · rcases c2 with c2 | ⟨p, hp, hc⟩
            · exact Or.inl (by omega)
            · exact Or.inr ⟨p + 1, by omega, Or.inr ⟨i, by omega, hc⟩⟩
          · exact Or.inr ⟨p, hp, hc⟩
        · by_cases ej : j = i
          · rw [ej] at hp
            have := c3 p hp; omega
          · exact i3 j (by omega) h2 h3 p hp
theorem dN_or (A C B : Nat) : dN A (C ||| B) = dN (dN A C) B := Nat.eq_of_testBit_eq (fun i => by
  rw [dN_bit, dN_bit, dN_bit, Nat.testBit_or]; cases A.testBit i <;> cases C.testBit i <;> cases B.testBit i <;> rfl)
theorem dN_self (A : Nat) : dN A A = 0 := z_bit (fun t => by rw [dN_bit]; cases A.testBit t <;> rfl)
theorem sub_eq {A C : Nat} (hs : ∀ t, C.testBit t = true → A.testBit t = true) (h : dN A C = 0) : C = A := Nat.eq_of_testBit_eq (fun t => by
  have := dN_bit A C t
  rw [h, Nat.zero_testBit] at this
  have := hs t
  revert this
  cases hA : A.testBit t <;> cases hC : C.testBit t <;> simp_all)
theorem vis_min {f : Nat → Int32} {F : Nat → Nat} {n A : Nat} (hf : ∀ i, i < n → f i = nI (F i) ∧ F i < 16384) (hA : A < 16384) (hs : ∀ i, i < n → ∀ t, (F i).testBit t = true → A.testBit t = true) : ∀ (k d C b : Nat), C < 16384 → (∀ t, C.testBit t = true → A.testBit t = true) → bsN (dN A C) 14 ≤ k → MN F n (vis f n (nI A) k d (nI C) b) b d (dN A C)
  | 0, d, C, b, hC, hsub, hk => by
    have e : C = A := sub_eq hsub (bs_0 (dN_lt hA) (by omega))
    unfold vis
    rw [e, if_pos rfl, dN_self]; exact MN_0 F n b d
  | k + 1, d, C, b, hC, hsub, hk => by
    unfold vis
    by_cases e : C = A
    · rw [e, if_pos rfl, dN_self]; exact MN_0 F n b d
    · rw [if_neg (fun q => e ((nI_eq (by omega) (by omega)).mp q))]
      have hL0 : dN A C ≠ 0 := fun q => e (sub_eq hsub q)
      obtain ⟨t, t1, t2, t3⟩ := low_n (dN_lt (F := C) hA) hL0
      have el : lowF (nI A) (nI C) = nI (2 ^ t) := by unfold lowF; rw [dif_n]; exact t3
      rw [el]
      obtain ⟨r1, r2, r3⟩ := row_min (d := d) (L := dN A C) (c := nI C) (rc := fun c' b' => vis f n (nI A) k (d + 1) c' b') hf t1 (fun j hj hb b2 => by
        have hor : C ||| F j < 16384 := Nat.or_lt_two_pow (n := 14) hC (hf j hj).2
        have h16 := (hf j hj).2
        show MN F n (vis f n (nI A) k (d + 1) (nI C ||| f j) b2) b2 (d + 1) (dN (dN A C) (F j))
        rw [(hf j hj).1, or_n (by omega) (by omega), ← dN_or]
        refine vis_min hf hA hs k (d + 1) (C ||| F j) b2 hor (fun u hu => ?_) ?_
        · rw [Nat.testBit_or, Bool.or_eq_true] at hu
          exact hu.elim (hsub u) (hs j hj u)
        · rw [dN_or]
          have := bs_dec (dN_lt (F := C) hA) t2 hb
          omega) n 0 b (by omega)
      refine ⟨r1, r2, fun p hp => ?_⟩
      cases p with
      | zero => exact absurd hp hL0
      | succ p =>
        obtain ⟨i, hi, h1, h2⟩ := CV_ex p _ hp t2
        have := r3 i (by omega) hi h1 p h2
        omega
