theorem ltN {b n : Nat} {G : Cx} (h : b < n) (hN : n ≤ gN G) : b < gN G := Nat.lt_of_lt_of_le h hN
def bi (P : Prop) [Decidable P] : Int32 := if P then 1 else 0
theorem bi_01 (P : Prop) [Decidable P] : bi P = 0 ∨ bi P = 1 := by unfold bi; split; exact Or.inr rfl; exact Or.inl rfl
theorem bi_t {P : Prop} [Decidable P] (h : P) : (nI 1) = bi P := by unfold bi; rw [if_pos h]; rfl
theorem bi_f {P : Prop} [Decidable P] (h : ¬ P) : (nI 0) = bi P := by unfold bi; rw [if_neg h]; rfl
theorem bi_ne {P : Prop} [Decidable P] : bi P ≠ 0 ↔ P := by unfold bi; split <;> simp_all
theorem bi_eq {P : Prop} [Decidable P] : bi P = 0 ↔ ¬ P := by unfold bi; split <;> simp_all
theorem bi_congr {P Q : Prop} [Decidable P] [Decidable Q] (h : P ↔ Q) : bi P = bi Q := by unfold bi; simp only [h]
theorem i_lt {x y : Int32} : x < y ↔ x.toInt < y.toInt := Int32.lt_iff_toInt_lt
theorem i_le {x y : Int32} : x ≤ y ↔ x.toInt ≤ y.toInt := Int32.le_iff_toInt_le
theorem i_eq {x y : Int32} : x = y ↔ x.toInt = y.toInt := Int32.toInt_inj.symm
theorem i_of {x : Int32} {n : Nat} (h : x.toInt = (n : Int)) (hn : n < 2147483648) : x = nI n := by rw [i_eq, nI_toInt hn]; exact h
theorem t_0 : (0 : Int32).toInt = 0 := by decide
theorem t_1 : (1 : Int32).toInt = 1 := by decide
theorem t_m1 : (-1 : Int32).toInt = -1 := by decide
theorem t_m2 : (-2 : Int32).toInt = -2 := by decide
theorem t_m3 : (-3 : Int32).toInt = -3 := by decide
theorem t_k (k : Nat) (h : k < 2147483648) : (nI k).toInt = (k : Int) := nI_toInt h
theorem sw0_4 (x : Int32) : x = nI 0 ∨ x = nI 1 ∨ x = nI 2 ∨ x = nI 3 ∨ (x.toInt < 0 ∨ 3 < x.toInt) := by
  simp only [i_eq, nI_toInt (show 0 < 2 ^ 31 by decide), nI_toInt (show 1 < 2 ^ 31 by decide), nI_toInt (show 2 < 2 ^ 31 by decide), nI_toInt (show 3 < 2 ^ 31 by decide)]; omega
theorem sw0_3 (x : Int32) : x = nI 0 ∨ x = nI 1 ∨ x = nI 2 ∨ (x.toInt < 0 ∨ 2 < x.toInt) := by
  simp only [i_eq, nI_toInt (show 0 < 2 ^ 31 by decide), nI_toInt (show 1 < 2 ^ 31 by decide), nI_toInt (show 2 < 2 ^ 31 by decide)]; omega
theorem sw0_5 (x : Int32) : x = nI 0 ∨ x = nI 1 ∨ x = nI 2 ∨ x = nI 3 ∨ x = nI 4 ∨ (x.toInt < 0 ∨ 4 < x.toInt) := by
  simp only [i_eq, nI_toInt (show 0 < 2 ^ 31 by decide), nI_toInt (show 1 < 2 ^ 31 by decide), nI_toInt (show 2 < 2 ^ 31 by decide), nI_toInt (show 3 < 2 ^ 31 by decide), nI_toInt (show 4 < 2 ^ 31 by decide)]; omega
theorem sw31_3 (x : Int32) : x = nI 31 ∨ x = nI 32 ∨ x = nI 33 ∨ (x.toInt < 31 ∨ 33 < x.toInt) := by
  simp only [i_eq, nI_toInt (show 31 < 2 ^ 31 by decide), nI_toInt (show 32 < 2 ^ 31 by decide), nI_toInt (show 33 < 2 ^ 31 by decide)]; omega
/-- kinds of signs -/
abbrev isP (x : Int32) : Prop := nI 0 ≤ x ∧ x < nI 8
abbrev isT (x : Int32) : Prop := nI 10 ≤ x ∧ x < nI 20
abbrev isL (x : Int32) : Prop := nI 20 ≤ x ∧ x < nI 28
abbrev isW (x : Int32) : Prop := isP x ∨ x = nI 40 ∨ x = nI 41
theorem V_iN_lt {F : Fx} {G : Cx} {cc : ByteArray} {own : String} {S : Sx} {pc : Nat} {L : List (Option Value)} {sk : List Value} (X : CX F G cc own) {a : Nat} {off : Int} (tgt : Nat) (ha : a < 2147483648) (hd : decode cc pc = .ok (.ifCond .lt off, 3)) (ht : (pc : Int) + off = (tgt : Int)) (k : V F G S (pc + 3) L sk) : V F G S pc L (.int (nI a) :: sk) :=
  V_if_lt X tgt hd ht (fun q => absurd q (nI_pos ha)) (fun _ => k)
theorem V_iN_ge {F : Fx} {G : Cx} {cc : ByteArray} {own : String} {S : Sx} {pc : Nat} {L : List (Option Value)} {sk : List Value} (X : CX F G cc own) {a : Nat} {off : Int} (tgt : Nat) (ha : a < 2147483648) (hd : decode cc pc = .ok (.ifCond .ge off, 3)) (ht : (pc : Int) + off = (tgt : Int)) (k : V F G S tgt L sk) : V F G S pc L (.int (nI a) :: sk) :=
  V_if_ge X tgt hd ht (fun _ => k) (fun q => absurd (nI_pos' ha) q)
theorem nI_z {a : Nat} (ha : a < 2147483648) : nI a = 0 ↔ a = 0 := ⟨fun h => by rcases Nat.eq_zero_or_pos a with z | z; exact z; exact absurd h (nI_ne0 z ha), fun h => by rw [h]; rfl⟩
theorem nI_gz {a : Nat} (ha : a < 2147483648) : 0 < nI a ↔ 0 < a := by
  have := @nI_ltI 0 a (by decide) ha
  rw [nI_0] at this
  exact this
theorem V_iN_eq {F : Fx} {G : Cx} {cc : ByteArray} {own : String} {S : Sx} {pc : Nat} {L : List (Option Value)} {sk : List Value} (X : CX F G cc own) {a : Nat} {off : Int} (tgt : Nat) (ha : a < 2147483648) (hd : decode cc pc = .ok (.ifCond .eq off, 3)) (ht : (pc : Int) + off = (tgt : Int)) (kt : a = 0 → V F G S tgt L sk) (kf : a ≠ 0 → V F G S (pc + 3) L sk) : V F G S pc L (.int (nI a) :: sk) :=
  V_if_eq X tgt hd ht (fun q => kt ((nI_z ha).mp q)) (fun q => kf (fun z => q ((nI_z ha).mpr z)))
theorem V_iN_ne {F : Fx} {G : Cx} {cc : ByteArray} {own : String} {S : Sx} {pc : Nat} {L : List (Option Value)} {sk : List Value} (X : CX F G cc own) {a : Nat} {off : Int} (tgt : Nat) (ha : a < 2147483648) (hd : decode cc pc = .ok (.ifCond .ne off, 3)) (ht : (pc : Int) + off = (tgt : Int)) (kt : a ≠ 0 → V F G S tgt L sk) (kf : a = 0 → V F G S (pc + 3) L sk) : V F G S pc L (.int (nI a) :: sk) :=
  V_if_ne X tgt hd ht (fun q => kt (fun z => q ((nI_z ha).mpr z))) (fun q => kf (Classical.byContradiction (fun z => q (fun y => z ((nI_z ha).mp y)))))
theorem V_iN_gt {F : Fx} {G : Cx} {cc : ByteArray} {own : String} {S : Sx} {pc : Nat} {L : List (Option Value)} {sk : List Value} (X : CX F G cc own) {a : Nat} {off : Int} (tgt : Nat) (ha : a < 2147483648) (hd : decode cc pc = .ok (.ifCond .gt off, 3)) (ht : (pc : Int) + off = (tgt : Int)) (kt : 0 < a → V F G S tgt L sk) (kf : a = 0 → V F G S (pc + 3) L sk) : V F G S pc L (.int (nI a) :: sk) :=
  V_if_gt X tgt hd ht (fun q => kt ((nI_gz ha).mp q)) (fun q => kf (by rcases Nat.eq_zero_or_pos a with z | z; exact z; exact absurd ((nI_gz ha).mpr z) q))
theorem V_iN_le {F : Fx} {G : Cx} {cc : ByteArray} {own : String} {S : Sx} {pc : Nat} {L : List (Option Value)} {sk : List Value} (X : CX F G cc own) {a : Nat} {off : Int} (tgt : Nat) (ha : a < 2147483648) (hd : decode cc pc = .ok (.ifCond .le off, 3)) (ht : (pc : Int) + off = (tgt : Int)) (kt : a = 0 → V F G S tgt L sk) (kf : 0 < a → V F G S (pc + 3) L sk) : V F G S pc L (.int (nI a) :: sk) :=
  V_if_le X tgt hd ht (fun q => kt (by rcases Nat.eq_zero_or_pos a with z | z; exact z; exact absurd q (nI_nle z ha))) (fun q => kf (by rcases Nat.eq_zero_or_pos a with z | z; (exact absurd (by rw [z]; decide) q); exact z))
/-- the locals may be said anew, where they are the same -/
theorem V_L {F : Fx} {G : Cx} {S : Sx} {pc : Nat} {L : List (Option Value)} {sk : List Value} (L2 : List (Option Value)) (h : ∀ (i : Nat) (v : Value), L2[i]? = some (some v) → L[i]? = some (some v)) (k : V F G S pc L2 sk) : V F G S pc L sk := by
  obtain ⟨p, e, R, s, m, args, below, meth, c, nL, kc, ks, Q⟩ := F
  intro H locs ls hP hD hS hl
  exact k H locs ls hP hD hS ⟨hl.1, hl.2.1, fun i v hv => hl.2.2 i v (h i v hv)⟩
theorem V_drop {F : Fx} {G : Cx} {S : Sx} {pc i : Nat} {L : List (Option Value)} {sk : List Value} (k : V F G S pc (L.set i none) sk) : V F G S pc L sk := V_L _ (fun j v h => by
  by_cases e : j = i
  · subst e
    by_cases hl : j < L.length
    · rw [List.getElem?_set_self hl] at h; cases h
    · rw [List.getElem?_eq_none (by simpa using Nat.le_of_not_lt hl)] at h; cases h
  · rw [List.getElem?_set_ne (Ne.symm e)] at h; exact h) k
set_option maxRecDepth 100000 in
set_option maxHeartbeats 4000000 in
theorem kX5_isPerson {G : Cx} {S : Sx}  {x : Int32} : CT G (0) yX5_isPerson cX5_isPerson 1 (some .boolean) [.int x] S (bi (isP x)) (S) := by
  refine CT_of (by decide) (Nat.le_of_ble_eq_true rfl) (by intro v hv; simp only [List.mem_cons, List.not_mem_nil, or_false] at hv; rcases hv with rfl <;> rfl) (fun F X E => ?_)
  have hR := RI_R E
  refine V_iload_n X dX5_isPerson_0 rfl ?_
  refine V_if_lt X 14 dX5_isPerson_1 (by decide) (fun h1 => ?_) (fun h1 => ?_)
  · refine V_iconst X (nI 0) dX5_isPerson_14 (by decide) ?_
    exact V_zret X E dX5_isPerson_15 (by first | exact Or.inl rfl | exact Or.inr rfl) (by first | (refine bi_t ?_; (clear X E hR; (try simp only [bi_ne, bi_eq] at *); simp only [ne_eq, Classical.not_not, isP, isT, isL, isW, i_lt, i_le, i_eq, t_0, t_1, t_m1, t_m2, t_m3, t_k 0 (by decide), t_k 1 (by decide), t_k 2 (by decide), t_k 3 (by decide), t_k 4 (by decide), t_k 5 (by decide), t_k 8 (by decide), t_k 9 (by decide), t_k 10 (by decide), t_k 14 (by decide), t_k 15 (by decide), t_k 18 (by decide), t_k 20 (by decide), t_k 28 (by decide), t_k 30 (by decide), t_k 31 (by decide), t_k 32 (by decide), t_k 33 (by decide), t_k 40 (by decide), t_k 41 (by decide), t_k 50 (by decide)] at *; omega)) | (refine bi_f ?_; (clear X E hR; (try simp only [bi_ne, bi_eq] at *); simp only [ne_eq, Classical.not_not, isP, isT, isL, isW, i_lt, i_le, i_eq, t_0, t_1, t_m1, t_m2, t_m3, t_k 0 (by decide), t_k 1 (by decide), t_k 2 (by decide), t_k 3 (by decide), t_k 4 (by decide), t_k 5 (by decide), t_k 8 (by decide), t_k 9 (by decide), t_k 10 (by decide), t_k 14 (by decide), t_k 15 (by decide), t_k 18 (by decide), t_k 20 (by decide), t_k 28 (by decide), t_k 30 (by decide), t_k 31 (by decide), t_k 32 (by decide), t_k 33 (by decide), t_k 40 (by decide), t_k 41 (by decide), t_k 50 (by decide)] at *; omega))) rfl
  · refine V_iload_n X dX5_isPerson_4 rfl ?_
    refine V_bipush X (nI 8) dX5_isPerson_5 (by decide) ?_
    refine V_icmp_ge X 14 dX5_isPerson_7 (by decide) (fun h7 => ?_) (fun h7 => ?_)
    · refine V_iconst X (nI 0) dX5_isPerson_14 (by decide) ?_
      exact V_zret X E dX5_isPerson_15 (by first | exact Or.inl rfl | exact Or.inr rfl) (by first | (refine bi_t ?_; (clear X E hR; (try simp only [bi_ne, bi_eq] at *); simp only [ne_eq, Classical.not_not, isP, isT, isL, isW, i_lt, i_le, i_eq, t_0, t_1, t_m1, t_m2, t_m3, t_k 0 (by decide), t_k 1 (by decide), t_k 2 (by decide), t_k 3 (by decide), t_k 4 (by decide), t_k 5 (by decide), t_k 8 (by decide), t_k 9 (by decide), t_k 10 (by decide), t_k 14 (by decide), t_k 15 (by decide), t_k 18 (by decide), t_k 20 (by decide), t_k 28 (by decide), t_k 30 (by decide), t_k 31 (by decide), t_k 32 (by decide), t_k 33 (by decide), t_k 40 (by decide), t_k 41 (by decide), t_k 50 (by decide)] at *; omega)) | (refine bi_f ?_; (clear X E hR; (try simp only [bi_ne, bi_eq] at *); simp only [ne_eq, Classical.not_not, isP, isT, isL, isW, i_lt, i_le, i_eq, t_0, t_1, t_m1, t_m2, t_m3, t_k 0 (by decide), t_k 1 (by decide), t_k 2 (by decide), t_k 3 (by decide), t_k 4 (by decide), t_k 5 (by decide), t_k 8 (by decide), t_k 9 (by decide), t_k 10 (by decide), t_k 14 (by decide), t_k 15 (by decide), t_k 18 (by decide), t_k 20 (by decide), t_k 28 (by decide), t_k 30 (by decide), t_k 31 (by decide), t_k 32 (by decide), t_k 33 (by decide), t_k 40 (by decide), t_k 41 (by decide), t_k 50 (by decide)] at *; omega))) rfl
    · refine V_iconst X (nI 1) dX5_isPerson_10 (by decide) ?_
      refine V_goto X 15 dX5_isPerson_11 (by decide) ?_
      exact V_zret X E dX5_isPerson_15 (by first | exact Or.inl rfl | exact Or.inr rfl) (by first | (refine bi_t ?_; (clear X E hR; (try simp only [bi_ne, bi_eq] at *); simp only [ne_eq, Classical.not_not, isP, isT, isL, isW, i_lt, i_le, i_eq, t_0, t_1, t_m1, t_m2, t_m3, t_k 0 (by decide), t_k 1 (by decide), t_k 2 (by decide), t_k 3 (by decide), t_k 4 (by decide), t_k 5 (by decide), t_k 8 (by decide), t_k 9 (by decide), t_k 10 (by decide), t_k 14 (by decide), t_k 15 (by decide), t_k 18 (by decide), t_k 20 (by decide), t_k 28 (by decide), t_k 30 (by decide), t_k 31 (by decide), t_k 32 (by decide), t_k 33 (by decide), t_k 40 (by decide), t_k 41 (by decide), t_k 50 (by decide)] at *; omega)) | (refine bi_f ?_; (clear X E hR; (try simp only [bi_ne, bi_eq] at *); simp only [ne_eq, Classical.not_not, isP, isT, isL, isW, i_lt, i_le, i_eq, t_0, t_1, t_m1, t_m2, t_m3, t_k 0 (by decide), t_k 1 (by decide), t_k 2 (by decide), t_k 3 (by decide), t_k 4 (by decide), t_k 5 (by decide), t_k 8 (by decide), t_k 9 (by decide), t_k 10 (by decide), t_k 14 (by decide), t_k 15 (by decide), t_k 18 (by decide), t_k 20 (by decide), t_k 28 (by decide), t_k 30 (by decide), t_k 31 (by decide), t_k 32 (by decide), t_k 33 (by decide), t_k 40 (by decide), t_k 41 (by decide), t_k 50 (by decide)] at *; omega))) rfl

set_option maxRecDepth 100000 in
set_option maxHeartbeats 4000000 in
theorem kX5_isThing {G : Cx} {S : Sx}  {x : Int32} : CT G (0) yX5_isThing cX5_isThing 1 (some .boolean) [.int x] S (bi (isT x)) (S) := by
  refine CT_of (by decide) (Nat.le_of_ble_eq_true rfl) (by intro v hv; simp only [List.mem_cons, List.not_mem_nil, or_false] at hv; rcases hv with rfl <;> rfl) (fun F X E => ?_)
  have hR := RI_R E
  refine V_iload_n X dX5_isThing_0 rfl ?_
  refine V_bipush X (nI 10) dX5_isThing_1 (by decide) ?_
  refine V_icmp_lt X 16 dX5_isThing_3 (by decide) (fun h3 => ?_) (fun h3 => ?_)
  · refine V_iconst X (nI 0) dX5_isThing_16 (by decide) ?_
    exact V_zret X E dX5_isThing_17 (by first | exact Or.inl rfl | exact Or.inr rfl) (by first | (refine bi_t ?_; (clear X E hR; (try simp only [bi_ne, bi_eq] at *); simp only [ne_eq, Classical.not_not, isP, isT, isL, isW, i_lt, i_le, i_eq, t_0, t_1, t_m1, t_m2, t_m3, t_k 0 (by decide), t_k 1 (by decide), t_k 2 (by decide), t_k 3 (by decide), t_k 4 (by decide), t_k 5 (by decide), t_k 8 (by decide), t_k 9 (by decide), t_k 10 (by decide), t_k 14 (by decide), t_k 15 (by decide), t_k 18 (by decide), t_k 20 (by decide), t_k 28 (by decide), t_k 30 (by decide), t_k 31 (by decide), t_k 32 (by decide), t_k 33 (by decide), t_k 40 (by decide), t_k 41 (by decide), t_k 50 (by decide)] at *; omega)) | (refine bi_f ?_; (clear X E hR; (try simp only [bi_ne, bi_eq] at *); simp only [ne_eq, Classical.not_not, isP, isT, isL, isW, i_lt, i_le, i_eq, t_0, t_1, t_m1, t_m2, t_m3, t_k 0 (by decide), t_k 1 (by decide), t_k 2 (by decide), t_k 3 (by decide), t_k 4 (by decide), t_k 5 (by decide), t_k 8 (by decide), t_k 9 (by decide), t_k 10 (by decide), t_k 14 (by decide), t_k 15 (by decide), t_k 18 (by decide), t_k 20 (by decide), t_k 28 (by decide), t_k 30 (by decide), t_k 31 (by decide), t_k 32 (by decide), t_k 33 (by decide), t_k 40 (by decide), t_k 41 (by decide), t_k 50 (by decide)] at *; omega))) rfl
  · refine V_iload_n X dX5_isThing_6 rfl ?_
    refine V_bipush X (nI 20) dX5_isThing_7 (by decide) ?_
    refine V_icmp_ge X 16 dX5_isThing_9 (by decide) (fun h9 => ?_) (fun h9 => ?_)
    · refine V_iconst X (nI 0) dX5_isThing_16 (by decide) ?_
      exact V_zret X E dX5_isThing_17 (by first | exact Or.inl rfl | exact Or.inr rfl) (by first | (refine bi_t ?_; (clear X E hR; (try simp only [bi_ne, bi_eq] at *); simp only [ne_eq, Classical.not_not, isP, isT, isL, isW, i_lt, i_le, i_eq, t_0, t_1, t_m1, t_m2, t_m3, t_k 0 (by decide), t_k 1 (by decide), t_k 2 (by decide), t_k 3 (by decide), t_k 4 (by decide), t_k 5 (by decide), t_k 8 (by decide), t_k 9 (by decide), t_k 10 (by decide), t_k 14 (by decide), t_k 15 (by decide), t_k 18 (by decide), t_k 20 (by decide), t_k 28 (by decide), t_k 30 (by decide), t_k 31 (by decide), t_k 32 (by decide), t_k 33 (by decide), t_k 40 (by decide), t_k 41 (by decide), t_k 50 (by decide)] at *; omega)) | (refine bi_f ?_; (clear X E hR; (try simp only [bi_ne, bi_eq] at *); simp only [ne_eq, Classical.not_not, isP, isT, isL, isW, i_lt, i_le, i_eq, t_0, t_1, t_m1, t_m2, t_m3, t_k 0 (by decide), t_k 1 (by decide), t_k 2 (by decide), t_k 3 (by decide), t_k 4 (by decide), t_k 5 (by decide), t_k 8 (by decide), t_k 9 (by decide), t_k 10 (by decide), t_k 14 (by decide), t_k 15 (by decide), t_k 18 (by decide), t_k 20 (by decide), t_k 28 (by decide), t_k 30 (by decide), t_k 31 (by decide), t_k 32 (by decide), t_k 33 (by decide), t_k 40 (by decide), t_k 41 (by decide), t_k 50 (by decide)] at *; omega))) rfl
    · refine V_iconst X (nI 1) dX5_isThing_12 (by decide) ?_
      refine V_goto X 17 dX5_isThing_13 (by decide) ?_
      exact V_zret X E dX5_isThing_17 (by first | exact Or.inl rfl | exact Or.inr rfl) (by first | (refine bi_t ?_; (clear X E hR; (try simp only [bi_ne, bi_eq] at *); simp only [ne_eq, Classical.not_not, isP, isT, isL, isW, i_lt, i_le, i_eq, t_0, t_1, t_m1, t_m2, t_m3, t_k 0 (by decide), t_k 1 (by decide), t_k 2 (by decide), t_k 3 (by decide), t_k 4 (by decide), t_k 5 (by decide), t_k 8 (by decide), t_k 9 (by decide), t_k 10 (by decide), t_k 14 (by decide), t_k 15 (by decide), t_k 18 (by decide), t_k 20 (by decide), t_k 28 (by decide), t_k 30 (by decide), t_k 31 (by decide), t_k 32 (by decide), t_k 33 (by decide), t_k 40 (by decide), t_k 41 (by decide), t_k 50 (by decide)] at *; omega)) | (refine bi_f ?_; (clear X E hR; (try simp only [bi_ne, bi_eq] at *); simp only [ne_eq, Classical.not_not, isP, isT, isL, isW, i_lt, i_le, i_eq, t_0, t_1, t_m1, t_m2, t_m3, t_k 0 (by decide), t_k 1 (by decide), t_k 2 (by decide), t_k 3 (by decide), t_k 4 (by decide), t_k 5 (by decide), t_k 8 (by decide), t_k 9 (by decide), t_k 10 (by decide), t_k 14 (by decide), t_k 15 (by decide), t_k 18 (by decide), t_k 20 (by decide), t_k 28 (by decide), t_k 30 (by decide), t_k 31 (by decide), t_k 32 (by decide), t_k 33 (by decide), t_k 40 (by decide), t_k 41 (by decide), t_k 50 (by decide)] at *; omega))) rfl

set_option maxRecDepth 100000 in
set_option maxHeartbeats 4000000 in
theorem kX5_isPlace {G : Cx} {S : Sx}  {x : Int32} : CT G (0) yX5_isPlace cX5_isPlace 1 (some .boolean) [.int x] S (bi (isL x)) (S) := by
  refine CT_of (by decide) (Nat.le_of_ble_eq_true rfl) (by intro v hv; simp only [List.mem_cons, List.not_mem_nil, or_false] at hv; rcases hv with rfl <;> rfl) (fun F X E => ?_)
  have hR := RI_R E
  refine V_iload_n X dX5_isPlace_0 rfl ?_
  refine V_bipush X (nI 20) dX5_isPlace_1 (by decide) ?_
  refine V_icmp_lt X 16 dX5_isPlace_3 (by decide) (fun h3 => ?_) (fun h3 => ?_)
  · refine V_iconst X (nI 0) dX5_isPlace_16 (by decide) ?_
    exact V_zret X E dX5_isPlace_17 (by first | exact Or.inl rfl | exact Or.inr rfl) (by first | (refine bi_t ?_; (clear X E hR; (try simp only [bi_ne, bi_eq] at *); simp only [ne_eq, Classical.not_not, isP, isT, isL, isW, i_lt, i_le, i_eq, t_0, t_1, t_m1, t_m2, t_m3, t_k 0 (by decide), t_k 1 (by decide), t_k 2 (by decide), t_k 3 (by decide), t_k 4 (by decide), t_k 5 (by decide), t_k 8 (by decide), t_k 9 (by decide), t_k 10 (by decide), t_k 14 (by decide), t_k 15 (by decide), t_k 18 (by decide), t_k 20 (by decide), t_k 28 (by decide), t_k 30 (by decide), t_k 31 (by decide), t_k 32 (by decide), t_k 33 (by decide), t_k 40 (by decide), t_k 41 (by decide), t_k 50 (by decide)] at *; omega)) | (refine bi_f ?_; (clear X E hR; (try simp only [bi_ne, bi_eq] at *); simp only [ne_eq, Classical.not_not, isP, isT, isL, isW, i_lt, i_le, i_eq, t_0, t_1, t_m1, t_m2, t_m3, t_k 0 (by decide), t_k 1 (by decide), t_k 2 (by decide), t_k 3 (by decide), t_k 4 (by decide), t_k 5 (by decide), t_k 8 (by decide), t_k 9 (by decide), t_k 10 (by decide), t_k 14 (by decide), t_k 15 (by decide), t_k 18 (by decide), t_k 20 (by decide), t_k 28 (by decide), t_k 30 (by decide), t_k 31 (by decide), t_k 32 (by decide), t_k 33 (by decide), t_k 40 (by decide), t_k 41 (by decide), t_k 50 (by decide)] at *; omega))) rfl
  · refine V_iload_n X dX5_isPlace_6 rfl ?_
    refine V_bipush X (nI 28) dX5_isPlace_7 (by decide) ?_
    refine V_icmp_ge X 16 dX5_isPlace_9 (by decide) (fun h9 => ?_) (fun h9 => ?_)
    · refine V_iconst X (nI 0) dX5_isPlace_16 (by decide) ?_
      exact V_zret X E dX5_isPlace_17 (by first | exact Or.inl rfl | exact Or.inr rfl) (by first | (refine bi_t ?_; (clear X E hR; (try simp only [bi_ne, bi_eq] at *); simp only [ne_eq, Classical.not_not, isP, isT, isL, isW, i_lt, i_le, i_eq, t_0, t_1, t_m1, t_m2, t_m3, t_k 0 (by decide), t_k 1 (by decide), t_k 2 (by decide), t_k 3 (by decide), t_k 4 (by decide), t_k 5 (by decide), t_k 8 (by decide), t_k 9 (by decide), t_k 10 (by decide), t_k 14 (by decide), t_k 15 (by decide), t_k 18 (by decide), t_k 20 (by decide), t_k 28 (by decide), t_k 30 (by decide), t_k 31 (by decide), t_k 32 (by decide), t_k 33 (by decide), t_k 40 (by decide), t_k 41 (by decide), t_k 50 (by decide)] at *; omega)) | (refine bi_f ?_; (clear X E hR; (try simp only [bi_ne, bi_eq] at *); simp only [ne_eq, Classical.not_not, isP, isT, isL, isW, i_lt, i_le, i_eq, t_0, t_1, t_m1, t_m2, t_m3, t_k 0 (by decide), t_k 1 (by decide), t_k 2 (by decide), t_k 3 (by decide), t_k 4 (by decide), t_k 5 (by decide), t_k 8 (by decide), t_k 9 (by decide), t_k 10 (by decide), t_k 14 (by decide), t_k 15 (by decide), t_k 18 (by decide), t_k 20 (by decide), t_k 28 (by decide), t_k 30 (by decide), t_k 31 (by decide), t_k 32 (by decide), t_k 33 (by decide), t_k 40 (by decide), t_k 41 (by decide), t_k 50 (by decide)] at *; omega))) rfl
    · refine V_iconst X (nI 1) dX5_isPlace_12 (by decide) ?_
      refine V_goto X 17 dX5_isPlace_13 (by decide) ?_
      exact V_zret X E dX5_isPlace_17 (by first | exact Or.inl rfl | exact Or.inr rfl) (by first | (refine bi_t ?_; (clear X E hR; (try simp only [bi_ne, bi_eq] at *); simp only [ne_eq, Classical.not_not, isP, isT, isL, isW, i_lt, i_le, i_eq, t_0, t_1, t_m1, t_m2, t_m3, t_k 0 (by decide), t_k 1 (by decide), t_k 2 (by decide), t_k 3 (by decide), t_k 4 (by decide), t_k 5 (by decide), t_k 8 (by decide), t_k 9 (by decide), t_k 10 (by decide), t_k 14 (by decide), t_k 15 (by decide), t_k 18 (by decide), t_k 20 (by decide), t_k 28 (by decide), t_k 30 (by decide), t_k 31 (by decide), t_k 32 (by decide), t_k 33 (by decide), t_k 40 (by decide), t_k 41 (by decide), t_k 50 (by decide)] at *; omega)) | (refine bi_f ?_; (clear X E hR; (try simp only [bi_ne, bi_eq] at *); simp only [ne_eq, Classical.not_not, isP, isT, isL, isW, i_lt, i_le, i_eq, t_0, t_1, t_m1, t_m2, t_m3, t_k 0 (by decide), t_k 1 (by decide), t_k 2 (by decide), t_k 3 (by decide), t_k 4 (by decide), t_k 5 (by decide), t_k 8 (by decide), t_k 9 (by decide), t_k 10 (by decide), t_k 14 (by decide), t_k 15 (by decide), t_k 18 (by decide), t_k 20 (by decide), t_k 28 (by decide), t_k 30 (by decide), t_k 31 (by decide), t_k 32 (by decide), t_k 33 (by decide), t_k 40 (by decide), t_k 41 (by decide), t_k 50 (by decide)] at *; omega))) rfl

set_option maxRecDepth 100000 in
set_option maxHeartbeats 4000000 in
theorem kX5_isWho {G : Cx} {S : Sx}  {x : Int32} : CT G (1) yX5_isWho cX5_isWho 1 (some .boolean) [.int x] S (bi (isW x)) (S) := by
  refine CT_of (by decide) (Nat.le_of_ble_eq_true rfl) (by intro v hv; simp only [List.mem_cons, List.not_mem_nil, or_false] at hv; rcases hv with rfl <;> rfl) (fun F X E => ?_)
  have hR := RI_R E
  refine V_iload_n X dX5_isWho_0 rfl ?_
  refine V_csi X (kX5_isPerson ) cwX5_193 rfl (rm_ok hR (by decide) (by decide)) (Nat.le_of_ble_eq_true rfl) dX5_isWho_1 ?_
  refine V_if_ne X 19 dX5_isWho_4 (by decide) (fun h4 => ?_) (fun h4 => ?_)
  · refine V_iconst X (nI 1) dX5_isWho_19 (by decide) ?_
    refine V_goto X 24 dX5_isWho_20 (by decide) ?_
    exact V_zret X E dX5_isWho_24 (by first | exact Or.inl rfl | exact Or.inr rfl) (by first | (refine bi_t ?_; (clear X E hR; (try simp only [bi_ne, bi_eq] at *); simp only [ne_eq, Classical.not_not, isP, isT, isL, isW, i_lt, i_le, i_eq, t_0, t_1, t_m1, t_m2, t_m3, t_k 0 (by decide), t_k 1 (by decide), t_k 2 (by decide), t_k 3 (by decide), t_k 4 (by decide), t_k 5 (by decide), t_k 8 (by decide), t_k 9 (by decide), t_k 10 (by decide), t_k 14 (by decide), t_k 15 (by decide), t_k 18 (by decide), t_k 20 (by decide), t_k 28 (by decide), t_k 30 (by decide), t_k 31 (by decide), t_k 32 (by decide), t_k 33 (by decide), t_k 40 (by decide), t_k 41 (by decide), t_k 50 (by decide)] at *; omega)) | (refine bi_f ?_; (clear X E hR; (try simp only [bi_ne, bi_eq] at *); simp only [ne_eq, Classical.not_not, isP, isT, isL, isW, i_lt, i_le, i_eq, t_0, t_1, t_m1, t_m2, t_m3, t_k 0 (by decide), t_k 1 (by decide), t_k 2 (by decide), t_k 3 (by decide), t_k 4 (by decide), t_k 5 (by decide), t_k 8 (by decide), t_k 9 (by decide), t_k 10 (by decide), t_k 14 (by decide), t_k 15 (by decide), t_k 18 (by decide), t_k 20 (by decide), t_k 28 (by decide), t_k 30 (by decide), t_k 31 (by decide), t_k 32 (by decide), t_k 33 (by decide), t_k 40 (by decide), t_k 41 (by decide), t_k 50 (by decide)] at *; omega))) rfl
  · refine V_iload_n X dX5_isWho_7 rfl ?_
    refine V_bipush X (nI 40) dX5_isWho_8 (by decide) ?_
    refine V_icmp_eq X 19 dX5_isWho_10 (by decide) (fun h10 => ?_) (fun h10 => ?_)
    · refine V_iconst X (nI 1) dX5_isWho_19 (by decide) ?_
      refine V_goto X 24 dX5_isWho_20 (by decide) ?_
      exact V_zret X E dX5_isWho_24 (by first | exact Or.inl rfl | exact Or.inr rfl) (by first | (refine bi_t ?_; (clear X E hR; (try simp only [bi_ne, bi_eq] at *); simp only [ne_eq, Classical.not_not, isP, isT, isL, isW, i_lt, i_le, i_eq, t_0, t_1, t_m1, t_m2, t_m3, t_k 0 (by decide), t_k 1 (by decide), t_k 2 (by decide), t_k 3 (by decide), t_k 4 (by decide), t_k 5 (by decide), t_k 8 (by decide), t_k 9 (by decide), t_k 10 (by decide), t_k 14 (by decide), t_k 15 (by decide), t_k 18 (by decide), t_k 20 (by decide), t_k 28 (by decide), t_k 30 (by decide), t_k 31 (by decide), t_k 32 (by decide), t_k 33 (by decide), t_k 40 (by decide), t_k 41 (by decide), t_k 50 (by decide)] at *; omega)) | (refine bi_f ?_; (clear X E hR; (try simp only [bi_ne, bi_eq] at *); simp only [ne_eq, Classical.not_not, isP, isT, isL, isW, i_lt, i_le, i_eq, t_0, t_1, t_m1, t_m2, t_m3, t_k 0 (by decide), t_k 1 (by decide), t_k 2 (by decide), t_k 3 (by decide), t_k 4 (by decide), t_k 5 (by decide), t_k 8 (by decide), t_k 9 (by decide), t_k 10 (by decide), t_k 14 (by decide), t_k 15 (by decide), t_k 18 (by decide), t_k 20 (by decide), t_k 28 (by decide), t_k 30 (by decide), t_k 31 (by decide), t_k 32 (by decide), t_k 33 (by decide), t_k 40 (by decide), t_k 41 (by decide), t_k 50 (by decide)] at *; omega))) rfl
    · refine V_iload_n X dX5_isWho_13 rfl ?_
      refine V_bipush X (nI 41) dX5_isWho_14 (by decide) ?_
      refine V_icmp_ne X 23 dX5_isWho_16 (by decide) (fun h16 => ?_) (fun h16 => ?_)
      · refine V_iconst X (nI 0) dX5_isWho_23 (by decide) ?_
        exact V_zret X E dX5_isWho_24 (by first | exact Or.inl rfl | exact Or.inr rfl) (by first | (refine bi_t ?_; (clear X E hR; (try simp only [bi_ne, bi_eq] at *); simp only [ne_eq, Classical.not_not, isP, isT, isL, isW, i_lt, i_le, i_eq, t_0, t_1, t_m1, t_m2, t_m3, t_k 0 (by decide), t_k 1 (by decide), t_k 2 (by decide), t_k 3 (by decide), t_k 4 (by decide), t_k 5 (by decide), t_k 8 (by decide), t_k 9 (by decide), t_k 10 (by decide), t_k 14 (by decide), t_k 15 (by decide), t_k 18 (by decide), t_k 20 (by decide), t_k 28 (by decide), t_k 30 (by decide), t_k 31 (by decide), t_k 32 (by decide), t_k 33 (by decide), t_k 40 (by decide), t_k 41 (by decide), t_k 50 (by decide)] at *; omega)) | (refine bi_f ?_; (clear X E hR; (try simp only [bi_ne, bi_eq] at *); simp only [ne_eq, Classical.not_not, isP, isT, isL, isW, i_lt, i_le, i_eq, t_0, t_1, t_m1, t_m2, t_m3, t_k 0 (by decide), t_k 1 (by decide), t_k 2 (by decide), t_k 3 (by decide), t_k 4 (by decide), t_k 5 (by decide), t_k 8 (by decide), t_k 9 (by decide), t_k 10 (by decide), t_k 14 (by decide), t_k 15 (by decide), t_k 18 (by decide), t_k 20 (by decide), t_k 28 (by decide), t_k 30 (by decide), t_k 31 (by decide), t_k 32 (by decide), t_k 33 (by decide), t_k 40 (by decide), t_k 41 (by decide), t_k 50 (by decide)] at *; omega))) rfl
      · refine V_iconst X (nI 1) dX5_isWho_19 (by decide) ?_
        refine V_goto X 24 dX5_isWho_20 (by decide) ?_
        exact V_zret X E dX5_isWho_24 (by first | exact Or.inl rfl | exact Or.inr rfl) (by first | (refine bi_t ?_; (clear X E hR; (try simp only [bi_ne, bi_eq] at *); simp only [ne_eq, Classical.not_not, isP, isT, isL, isW, i_lt, i_le, i_eq, t_0, t_1, t_m1, t_m2, t_m3, t_k 0 (by decide), t_k 1 (by decide), t_k 2 (by decide), t_k 3 (by decide), t_k 4 (by decide), t_k 5 (by decide), t_k 8 (by decide), t_k 9 (by decide), t_k 10 (by decide), t_k 14 (by decide), t_k 15 (by decide), t_k 18 (by decide), t_k 20 (by decide), t_k 28 (by decide), t_k 30 (by decide), t_k 31 (by decide), t_k 32 (by decide), t_k 33 (by decide), t_k 40 (by decide), t_k 41 (by decide), t_k 50 (by decide)] at *; omega)) | (refine bi_f ?_; (clear X E hR; (try simp only [bi_ne, bi_eq] at *); simp only [ne_eq, Classical.not_not, isP, isT, isL, isW, i_lt, i_le, i_eq, t_0, t_1, t_m1, t_m2, t_m3, t_k 0 (by decide), t_k 1 (by decide), t_k 2 (by decide), t_k 3 (by decide), t_k 4 (by decide), t_k 5 (by decide), t_k 8 (by decide), t_k 9 (by decide), t_k 10 (by decide), t_k 14 (by decide), t_k 15 (by decide), t_k 18 (by decide), t_k 20 (by decide), t_k 28 (by decide), t_k 30 (by decide), t_k 31 (by decide), t_k 32 (by decide), t_k 33 (by decide), t_k 40 (by decide), t_k 41 (by decide), t_k 50 (by decide)] at *; omega))) rfl

set_option maxRecDepth 100000 in
set_option maxHeartbeats 4000000 in
theorem kX2_verb {G : Cx} {S : Sx} (hN : 80 ≤ gN G) {s : Nat} (hs : s < 14) : CT G (0) yX2_verb cX2_verb 2 (some .int) [ra G 1, .int (nI s)] S (S 2 (s * 5 + 1)) (S) := by
  refine CT_of (by decide) (Nat.le_of_ble_eq_true rfl) (by intro v hv; simp only [List.mem_cons, List.not_mem_nil, or_false] at hv; rcases hv with rfl | rfl <;> rfl) (fun F X E => ?_)
  have hR := RI_R E
  refine V_aload_n X dX2_verb_0 rfl ?_
  refine V_getr X flX2_9 (ltN (by decide) hN) rfl rfl dX2_verb_1 ?_
  refine V_iload_n X dX2_verb_4 rfl ?_
  refine V_iconst X (nI 5) dX2_verb_5 (by decide) ?_
  refine V_mulN X dX2_verb_6 ?_
  refine V_iconst X (nI 1) dX2_verb_7 (by decide) ?_
  refine V_addN X dX2_verb_8 ?_
  refine V_ialdN X (ltN (by decide) hN) rfl (by omega) (by decide) dX2_verb_9 ?_
  exact V_iret X E dX2_verb_10 rfl rfl

set_option maxRecDepth 100000 in
set_option maxHeartbeats 4000000 in
theorem kX2_object {G : Cx} {S : Sx} (hN : 80 ≤ gN G) {s : Nat} (hs : s < 14) : CT G (0) yX2_object cX2_object 2 (some .int) [ra G 1, .int (nI s)] S (S 2 (s * 5 + 2)) (S) := by
  refine CT_of (by decide) (Nat.le_of_ble_eq_true rfl) (by intro v hv; simp only [List.mem_cons, List.not_mem_nil, or_false] at hv; rcases hv with rfl | rfl <;> rfl) (fun F X E => ?_)
  have hR := RI_R E
  refine V_aload_n X dX2_object_0 rfl ?_
  refine V_getr X flX2_9 (ltN (by decide) hN) rfl rfl dX2_object_1 ?_
  refine V_iload_n X dX2_object_4 rfl ?_
  refine V_iconst X (nI 5) dX2_object_5 (by decide) ?_
  refine V_mulN X dX2_object_6 ?_
  refine V_iconst X (nI 2) dX2_object_7 (by decide) ?_
  refine V_addN X dX2_object_8 ?_
  refine V_ialdN X (ltN (by decide) hN) rfl (by omega) (by decide) dX2_object_9 ?_
  exact V_iret X E dX2_object_10 rfl rfl

