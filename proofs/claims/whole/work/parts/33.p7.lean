/-! ===== the bits of a way ===== -/
theorem sm_t : ∀ t, t < 32 → ((nI t &&& 31).toBitVec.smod 32).toNat = t := by decide +kernel
theorem or_N {a b : Nat} (ha : a < 2147483648) (hb : b < 2147483648) : nI a ||| nI b = nI (a ||| b) := by
  have h : a ||| b < 2147483648 := Nat.or_lt_two_pow (n := 31) ha hb
  apply Int32.toBitVec_inj.mp
  apply BitVec.eq_of_toNat_eq
  rw [Int32.toBitVec_or, BitVec.toNat_or, pk_tn (by omega), pk_tn (by omega), pk_tn (by omega)]
theorem bit_N {D t : Nat} (hD : D < 2147483648) (ht : t < 32) : (nI D >>> (nI t &&& 31)) &&& nI 1 = nI (D / 2 ^ t % 2) := by
  have h2 : D / 2 ^ t < 2147483648 := Nat.lt_of_le_of_lt (Nat.div_le_self _ _) hD
  rw [pk_shrN hD _ t (sm_t t ht), pk_andN (by omega) 1 (by decide)]
def LG (s C i j : Nat) : Nat := C + 4 ^ s * i + 4 ^ s * (2 * j)
theorem or_add {n a b : Nat} (h : a < 2 ^ n) : a ||| 2 ^ n * b = a + 2 ^ n * b := by
  rw [Nat.or_comm, Nat.add_comm]; exact (Nat.two_pow_add_eq_or_of_lt h b).symm
theorem four (s : Nat) : 4 ^ s = 2 ^ (2 * s) := by rw [Nat.pow_mul]
theorem four_le {s : Nat} (hs : s ≤ 13) : 4 ^ s ≤ 67108864 := by
  calc 4 ^ s ≤ 4 ^ 13 := Nat.pow_le_pow_right (by decide) hs
    _ = 67108864 := by decide
theorem lg_N {s C i j : Nat} (hs : s ≤ 13) (hC : C < 4 ^ s) (hi : i < 2) (hj : j < 2) : lg s (nI C) i j = nI (LG s C i j) := by
  have h4 := four_le hs
  have hi4 : 4 ^ s * i ≤ 67108864 := by rcases (show i = 0 ∨ i = 1 by omega) with rfl | rfl <;> omega
  have hj4 : 4 ^ s * (2 * j) ≤ 134217728 := by rcases (show j = 0 ∨ j = 1 by omega) with rfl | rfl <;> omega
  have e1 : cbt s 0 (nI i) = nI (4 ^ s * i) := by
    unfold cbt
    rw [pk_shlN _ (2 * s + 0) (sm_t _ (by omega)) (by rw [Nat.add_zero, ← four, Nat.mul_comm]; omega), Nat.add_zero, ← four, Nat.mul_comm]
  have e2 : cbt s 1 (nI j) = nI (4 ^ s * (2 * j)) := by
    unfold cbt
    have e : j * 2 ^ (2 * s + 1) = 4 ^ s * (2 * j) := by rw [Nat.pow_succ, ← four, Nat.mul_comm j, Nat.mul_assoc]
    rw [pk_shlN _ (2 * s + 1) (sm_t _ (by omega)) (by rw [e]; omega), e]
  unfold lg LG
  have o1 : C ||| 4 ^ s * i = C + 4 ^ s * i := by rw [four] at hC ⊢; exact or_add hC
  have hlt : C + 4 ^ s * i < 2 ^ (2 * s + 1) := by
    rw [Nat.pow_succ, ← four]
    rcases (show i = 0 ∨ i = 1 by omega) with rfl | rfl <;> omega
  have o2 : (C + 4 ^ s * i) ||| 4 ^ s * (2 * j) = C + 4 ^ s * i + 4 ^ s * (2 * j) := by
    have e : 4 ^ s * (2 * j) = 2 ^ (2 * s + 1) * j := by rw [Nat.pow_succ, ← four, Nat.mul_assoc]
    rw [e]; exact or_add hlt
  rw [e1, e2, or_N (by omega) (by omega), o1, or_N (by omega) (by omega), o2]
theorem LG_lt {s C i j : Nat} (hC : C < 4 ^ s) (hi : i < 2) (hj : j < 2) : LG s C i j < 4 ^ (s + 1) := by
  unfold LG; rw [Nat.pow_succ]
  rcases (show i = 0 ∨ i = 1 by omega) with rfl | rfl <;> rcases (show j = 0 ∨ j = 1 by omega) with rfl | rfl <;> omega
theorem LG_0 {s C i j : Nat} (hC : C < 4 ^ s) (hi : i < 2) : LG s C i j / 2 ^ (2 * s + 0) % 2 = i := by
  unfold LG
  rw [Nat.add_zero, ← four, Nat.add_assoc, ← Nat.mul_add, Nat.add_mul_div_left _ _ (Nat.pos_of_ne_zero (by intro q; rw [q] at hC; omega)), Nat.div_eq_of_lt hC]
  omega
theorem LG_1 {s C i j : Nat} (hC : C < 4 ^ s) (hi : i < 2) (hj : j < 2) : LG s C i j / 2 ^ (2 * s + 1) % 2 = j := by
  have h := LG_0 (j := j) hC hi
  unfold LG at *
  rw [Nat.pow_succ, ← four, ← Nat.div_div_eq_div_mul, Nat.add_assoc, ← Nat.mul_add, Nat.add_mul_div_left _ _ (Nat.pos_of_ne_zero (by intro q; rw [q] at hC; omega)), Nat.div_eq_of_lt hC]
  omega
theorem LG_old {s C i j t : Nat} (ht : t < 2 * s) : LG s C i j / 2 ^ t % 2 = C / 2 ^ t % 2 := by
  unfold LG
  have e : 4 ^ s = 2 ^ t * (2 * 2 ^ (2 * s - t - 1)) := by
    rw [four, ← Nat.mul_assoc, ← Nat.pow_succ, ← Nat.pow_add]; congr 1; omega
  rw [Nat.add_assoc, ← Nat.mul_add, e, Nat.mul_assoc, Nat.add_mul_div_left _ _ (Nat.two_pow_pos t), Nat.mul_assoc, Nat.add_mul_mod_self_left]

