theorem nI_ne {a b : Nat} (ha : a < 2147483648) (hb : b < 2147483648) (h : a ≠ b) : nI a ≠ nI b := fun q => h ((nI_eq ha hb).mp q)
theorem m1_ne {a : Nat} (ha : a < 2147483648) : nI a ≠ -1 := by
  intro h; have := congrArg Int32.toInt h; rw [nI_toInt ha, t_m1] at this; omega
theorem m2_ne {a : Nat} (ha : a < 2147483648) : nI a ≠ -2 := by
  intro h; have := congrArg Int32.toInt h; rw [nI_toInt ha, t_m2] at this; omega
theorem isP_nat {x : Int32} (h : isP x) : ∃ a, a < 8 ∧ x = nI a := nb (fun z => absurd h.1 (by rw [i_lt, t_0] at z; rw [i_le, t_k 0 (by decide)]; omega)) h.2 (by decide)
theorem isP_of {a : Nat} (h : a < 8) : isP (nI a) := ⟨nI_le (Nat.zero_le _) (by omega), nI_lt h (by decide)⟩
theorem isT_nat {x : Int32} (h : isT x) : ∃ t, t < 10 ∧ x - nI 10 = nI t := by
  obtain ⟨h1, h2⟩ := h
  obtain ⟨j, hj, rfl⟩ := nb (y := x) (w := 20) (fun z => absurd h1 (by rw [i_lt, t_0] at z; rw [i_le, t_k 10 (by decide)]; omega)) h2 (by decide)
  have : 10 ≤ j := (nI_leI (by decide) (by omega)).mp h1
  exact ⟨j - 10, by omega, pk_sub this⟩
theorem prq_ok : ∀ m, m < 256 → prq (nI m) = -1 ∨ ∃ a, a < 8 ∧ prq (nI m) = nI a := by decide +kernel
theorem prq_ok2 : ∀ m, m < 256 → prq (nI m &&& (nI m - nI 1)) = -1 ∨ ∃ a, a < 8 ∧ prq (nI m &&& (nI m - nI 1)) = nI a := by decide +kernel
theorem prs_ok {x c : Int32} {t : Nat} (h : ∃ m, m < 256 ∧ x = nI m) : prs x c t = -1 ∨ ∃ a, a < 8 ∧ prs x c t = nI a := by
  obtain ⟨m, hm, rfl⟩ := h
  unfold prs; split
  · exact prq_ok m hm
  · exact prq_ok2 m hm
/-- the world's steps, on the cells 8 to 13 -/
def sHand (S : Sx) (a t : Nat) (bit : Int32) : Sx := st (st S 10 t (nI a)) 11 t bit
def sInf (S : Sx) (a : Nat) (p fr : Int32) : Sx := if S 8 a = -2 ∧ p ≠ -2 then st (st S 8 a p) 9 a fr else S
def sTake (S : Sx) (a t : Nat) (bit : Int32) : Sx := if S 10 t = nI a then S else sHand (if S 10 t = nI 9 then sInf S a (S 12 t) (S 13 t ||| bit) else S) a t bit
def sDrop (S : Sx) (a t : Nat) (bit : Int32) : Sx := st (st (st (st S 10 t (nI 9)) 11 t bit) 12 t (S 8 a)) 13 t (bit ||| S 9 a)
def sGive (S : Sx) (a t b : Nat) (bit : Int32) : Sx := sHand (sInf (sInf S a (S 8 b) (S 9 b ||| bit)) b (sInf S a (S 8 b) (S 9 b ||| bit) 8 a) (sInf S a (S 8 b) (S 9 b ||| bit) 9 a ||| bit)) b t bit
def pp (S : Sx) (s w : Nat) (c : Int32) : Int32 := prs (S 3 (2 * s + w)) c (2 * s + w)
def sGo (S : Sx) (a : Nat) (p bit : Int32) : Sx := st (st S 8 a p) 9 a bit
def sTell (S : Sx) (s : Nat) (c : Int32) : Sx :=
  if pp S s 0 c = -1 then S
  else if S 2 (s * 5 + 1) = nI 31 then sTake S (pp S s 0 c).toNatClampNeg (S 2 (s * 5 + 2) - nI 10).toNatClampNeg (nI 1 <<< (nI s &&& 31))
  else if S 2 (s * 5 + 1) = nI 32 then sDrop S (pp S s 0 c).toNatClampNeg (S 2 (s * 5 + 2) - nI 10).toNatClampNeg (nI 1 <<< (nI s &&& 31))
  else if S 2 (s * 5 + 1) = nI 33 then (if pp S s 1 c = -1 then S else sGive S (pp S s 0 c).toNatClampNeg (S 2 (s * 5 + 2) - nI 10).toNatClampNeg (pp S s 1 c).toNatClampNeg (nI 1 <<< (nI s &&& 31)))
  else sGo S (pp S s 0 c).toNatClampNeg (S 2 (s * 5 + 2)) (nI 1 <<< (nI s &&& 31))
/-- what a sentence must be for its telling -/
def okS (S : Sx) (s : Nat) : Prop := (∃ m, m < 256 ∧ S 3 (2 * s + 0) = nI m) ∧ (∃ m, m < 256 ∧ S 3 (2 * s + 1) = nI m) ∧ ((S 2 (s * 5 + 1) = nI 30 ∧ isL (S 2 (s * 5 + 2))) ∨ ((S 2 (s * 5 + 1) = nI 31 ∨ S 2 (s * 5 + 1) = nI 32 ∨ S 2 (s * 5 + 1) = nI 33) ∧ isT (S 2 (s * 5 + 2))))
theorem okS_T {S : Sx} {s : Nat} (h : okS S s) {v : Nat} (hv : S 2 (s * 5 + 1) = nI v) (h30 : v ≠ 30) (hvb : v < 100) : ∃ t, t < 10 ∧ S 2 (s * 5 + 2) - nI 10 = nI t := by
  rcases h.2.2 with ⟨h1, -⟩ | ⟨-, h1⟩
  · exact absurd (hv.symm.trans h1) (nI_ne (by omega) (by decide) h30)
  · exact isT_nat h1
theorem sTell_n {S : Sx} {s : Nat} {c : Int32} (h : pp S s 0 c = -1) : S = sTell S s c := by unfold sTell; rw [if_pos h]
theorem sTell_31 {S : Sx} {s a t : Nat} {c : Int32} (ha : a < 8) (ht : t < 10) (h : pp S s 0 c = nI a) (hv : S 2 (s * 5 + 1) = nI 31) (et : S 2 (s * 5 + 2) - nI 10 = nI t) : sTake S a t (nI 1 <<< (nI s &&& 31)) = sTell S s c := by
  unfold sTell; rw [if_neg (by rw [h]; exact m1_ne (by omega)), if_pos hv, h, et, nI_clamp (by omega), nI_clamp (by omega)]
theorem sTell_32 {S : Sx} {s a t : Nat} {c : Int32} (ha : a < 8) (ht : t < 10) (h : pp S s 0 c = nI a) (hv : S 2 (s * 5 + 1) = nI 32) (et : S 2 (s * 5 + 2) - nI 10 = nI t) : sDrop S a t (nI 1 <<< (nI s &&& 31)) = sTell S s c := by
  unfold sTell; rw [if_neg (by rw [h]; exact m1_ne (by omega)), if_neg (by rw [hv]; decide), if_pos hv, h, et, nI_clamp (by omega), nI_clamp (by omega)]
theorem sTell_33 {S : Sx} {s a t b : Nat} {c : Int32} (ha : a < 8) (ht : t < 10) (hb : b < 8) (h : pp S s 0 c = nI a) (hv : S 2 (s * 5 + 1) = nI 33) (et : S 2 (s * 5 + 2) - nI 10 = nI t) (h2 : pp S s 1 c = nI b) : sGive S a t b (nI 1 <<< (nI s &&& 31)) = sTell S s c := by
  unfold sTell; rw [if_neg (by rw [h]; exact m1_ne (by omega)), if_neg (by rw [hv]; decide), if_neg (by rw [hv]; decide), if_pos hv, if_neg (by rw [h2]; exact m1_ne (by omega)), h, et, h2, nI_clamp (by omega), nI_clamp (by omega), nI_clamp (by omega)]
theorem sTell_33n {S : Sx} {s a : Nat} {c : Int32} (ha : a < 8) (h : pp S s 0 c = nI a) (hv : S 2 (s * 5 + 1) = nI 33) (h2 : pp S s 1 c = -1) : S = sTell S s c := by
  unfold sTell; rw [if_neg (by rw [h]; exact m1_ne (by omega)), if_neg (by rw [hv]; decide), if_neg (by rw [hv]; decide), if_pos hv, if_pos h2]
theorem sTell_30 {S : Sx} {s a : Nat} {c : Int32} (ha : a < 8) (h : pp S s 0 c = nI a) (hv : S 2 (s * 5 + 1) = nI 30) : sGo S a (S 2 (s * 5 + 2)) (nI 1 <<< (nI s &&& 31)) = sTell S s c := by
  unfold sTell; rw [if_neg (by rw [h]; exact m1_ne (by omega)), if_neg (by rw [hv]; decide), if_neg (by rw [hv]; decide), if_neg (by rw [hv]; decide), h, nI_clamp (by omega)]
def tpl (S : Sx) (t : Nat) : Int32 := if S 10 t = nI 9 then S 12 t else if isP (S 10 t) then S 8 (S 10 t).toNatClampNeg else -2
def tpb (S : Sx) (t : Nat) : Int32 := if tpl S t = -2 then nI 0 else if isP (S 10 t) then S 11 t ||| S 9 (S 10 t).toNatClampNeg else S 13 t
def hct (h : Nat → Int32) (x : Int32) : Nat → Nat
  | 0 => 0
  | k + 1 => if h k = x then hct h x k + 1 else hct h x k
def hbs (S : Sx) (x : Int32) : Nat → Int32
  | 0 => nI 0
  | k + 1 => if S 10 k = x then hbs S x k ||| S 11 k else hbs S x k
def vl (S : Sx) (k a : Nat) : Int32 := if k = 0 then S 8 a else if k = 1 then tpl S a else if k = 2 then S 10 a else nI (hct (S 10) (nI a) 10)
def bs (S : Sx) (k a : Nat) : Int32 := if k = 0 then S 9 a else if k = 1 then tpb S a else if k = 2 then S 11 a else hbs S (nI a) 10
def qOk (k a : Nat) : Prop := k < 4 ∧ (a < 8 ∨ (a < 10 ∧ (k = 1 ∨ k = 2)))
def clA (S : Sx) (i : Nat) : Sx := fun c j => if c = 8 ∧ j < i then -2 else if c = 9 ∧ j < i then nI 0 else S c j
def clB (S : Sx) (i : Nat) : Sx := fun c j => if (c = 10 ∨ c = 12) ∧ j < i then -2 else if (c = 11 ∨ c = 13) ∧ j < i then nI 0 else S c j
def clr (S : Sx) : Sx := clB (clA S 8) 10
theorem clA_0 (S : Sx) : clA S 0 = S := by funext c j; simp [clA]
theorem clB_0 (S : Sx) : clB S 0 = S := by funext c j; simp [clB]
theorem clA_s (S : Sx) (i : Nat) : st (st (clA S i) 8 i (-2)) 9 i (nI 0) = clA S (i + 1) := by
  funext c j
  by_cases h8 : c = 8
  · subst h8; by_cases hj : j = i
    · subst hj; simp [st, upd, clA]
    · simp [st, upd, clA, hj, show (j < i + 1) = (j < i) from propext ⟨fun _ => by omega, fun _ => by omega⟩]
  · by_cases h9 : c = 9
    · subst h9; by_cases hj : j = i
      · subst hj; simp [st, upd, clA]
      · simp [st, upd, clA, hj, show (j < i + 1) = (j < i) from propext ⟨fun _ => by omega, fun _ => by omega⟩]
    · simp [st, clA, h8, h9]
theorem clB_s (S : Sx) (i : Nat) : st (st (st (st (clB S i) 10 i (-2)) 11 i (nI 0)) 12 i (-2)) 13 i (nI 0) = clB S (i + 1) := by
  funext c j
  by_cases hj : j = i
  · subst hj
    by_cases h10 : c = 10
    · subst h10; simp [st, upd, clB]
    · by_cases h11 : c = 11
      · subst h11; simp [st, upd, clB]
      · by_cases h12 : c = 12
        · subst h12; simp [st, upd, clB]
        · by_cases h13 : c = 13
          · subst h13; simp [st, upd, clB]
          · simp [st, clB, h10, h11, h12, h13]
  · have e : (j < i + 1) = (j < i) := propext ⟨fun _ => by omega, fun _ => by omega⟩
    by_cases h10 : c = 10
    · subst h10; simp [st, upd, clB, hj, e]
    · by_cases h11 : c = 11
      · subst h11; simp [st, upd, clB, hj, e]
      · by_cases h12 : c = 12
        · subst h12; simp [st, upd, clB, hj, e]
        · by_cases h13 : c = 13
          · subst h13; simp [st, upd, clB, hj, e]
          · simp [st, clB, h10, h11, h12, h13]
def goT (S : Sx) (c : Int32) : Nat → Sx
  | 0 => clr S
  | k + 1 => sTell (goT S c k) k c

set_option maxRecDepth 100000 in
set_option maxHeartbeats 4000000 in
theorem kX3_size {G : Cx} {S : Sx} (hN : 80 ≤ gN G) {k : Nat} (hk : k < 15) : CT G (0) yX3_size cX3_size 2 (some .int) [ra G 4, .int (nI k)] S (S 6 k) (S) := by
  refine CT_of (by decide) (Nat.le_of_ble_eq_true rfl) (by intro v hv; simp only [List.mem_cons, List.not_mem_nil, or_false] at hv; rcases hv with rfl | rfl <;> rfl) (fun F X E => ?_)
  have hR := RI_R E
  refine V_aload_n X dX3_size_0 rfl ?_
  refine V_getr X flX3_16 (ltN (by decide) hN) rfl rfl dX3_size_1 ?_
  refine V_iload_n X dX3_size_4 rfl ?_
  refine V_ialdN X (ltN (by decide) hN) rfl (by omega) (by decide) dX3_size_5 ?_
  exact V_iret X E dX3_size_6 rfl rfl

set_option maxRecDepth 100000 in
set_option maxHeartbeats 4000000 in
theorem kX3_choices {G : Cx} {S : Sx} (hN : 80 ≤ gN G) {k r : Nat} (hk : k < 15) (hr : r < 64) : CT G (0) yX3_choices cX3_choices 3 (some .int) [ra G 4, .int (nI k), .int (nI r)] S (S (20 + k) r) (S) := by
  refine CT_of (by decide) (Nat.le_of_ble_eq_true rfl) (by intro v hv; simp only [List.mem_cons, List.not_mem_nil, or_false] at hv; rcases hv with rfl | rfl | rfl <;> rfl) (fun F X E => ?_)
  have hR := RI_R E
  refine V_aload_n X dX3_choices_0 rfl ?_
  refine V_getr X flX3_11 (ltN (by decide) hN) rfl rfl dX3_choices_1 ?_
  refine V_iload_n X dX3_choices_4 rfl ?_
  refine V_aaldN X (ltN (by decide) hN) rfl (by omega) dX3_choices_5 ?_
  refine V_iload_n X dX3_choices_6 rfl ?_
  refine V_ialdN X (ltN (by omega) hN) (ds_way (by omega)) (by omega) (by decide) dX3_choices_7 ?_
  exact V_iret X E dX3_choices_8 rfl rfl

set_option maxRecDepth 100000 in
set_option maxHeartbeats 4000000 in
theorem kX3_clear {G : Cx} {S : Sx} (hN : 80 ≤ gN G) {k : Nat} (hk : k < 15) : CV G (0) yX3_clear cX3_clear 2 [ra G 4, .int (nI k)] S (st S 6 k (nI 0)) := by
  refine CV_of (by decide) (Nat.le_of_ble_eq_true rfl) (by intro v hv; simp only [List.mem_cons, List.not_mem_nil, or_false] at hv; rcases hv with rfl | rfl <;> rfl) (fun F X E => ?_)
  have hR := RV_R E
  refine V_aload_n X dX3_clear_0 rfl ?_
  refine V_getr X flX3_16 (ltN (by decide) hN) rfl rfl dX3_clear_1 ?_
  refine V_iload_n X dX3_clear_4 rfl ?_
  refine V_iconst X (nI 0) dX3_clear_5 (by decide) ?_
  refine V_iastN X (ltN (by decide) hN) rfl (by omega) (by decide) dX3_clear_6 ?_
  exact V_vret X E dX3_clear_7 rfl

set_option maxRecDepth 100000 in
set_option maxHeartbeats 4000000 in
theorem kX3_add {G : Cx} {S : Sx} (hN : 80 ≤ gN G) {k z : Nat} {c : Int32} (hk : k < 15) (hz : S 6 k = nI z) (hz64 : z ≤ 64) : CT G (0) yX3_add cX3_add 3 (some .boolean) [ra G 4, .int (nI k), .int c] S (bi (z < 64)) (if z < 64 then st (st S (20 + k) z c) 6 k (nI (z + 1)) else S) := by
  refine CT_of (by decide) (Nat.le_of_ble_eq_true rfl) (by intro v hv; simp only [List.mem_cons, List.not_mem_nil, or_false] at hv; rcases hv with rfl | rfl | rfl <;> rfl) (fun F X E => ?_)
  have hR := RI_R E
  refine V_aload_n X dX3_add_0 rfl ?_
  refine V_getr X flX3_16 (ltN (by decide) hN) rfl rfl dX3_add_1 ?_
  refine V_iload_n X dX3_add_4 rfl ?_
  refine V_ialdN X (ltN (by decide) hN) rfl (by omega) (by decide) dX3_add_5 ?_
  refine V_top (nI (z)) (hz) ?_
  refine V_bipush X (nI 64) dX3_add_6 (by decide) ?_
  refine V_cN_lt X 13 (by omega) (by omega) dX3_add_8 (by decide) (fun h8 => ?_) (fun h8 => ?_)
  · refine V_aload_n X dX3_add_13 rfl ?_
    refine V_getr X flX3_11 (ltN (by decide) hN) rfl rfl dX3_add_14 ?_
    refine V_iload_n X dX3_add_17 rfl ?_
    refine V_aaldN X (ltN (by decide) hN) rfl (by omega) dX3_add_18 ?_
    refine V_aload_n X dX3_add_19 rfl ?_
    refine V_getr X flX3_16 (ltN (by decide) hN) rfl rfl dX3_add_20 ?_
    refine V_iload_n X dX3_add_23 rfl ?_
    refine V_ialdN X (ltN (by decide) hN) rfl (by omega) (by decide) dX3_add_24 ?_
    refine V_top (nI (z)) (hz) ?_
    refine V_iload_n X dX3_add_25 rfl ?_
    refine V_iastN X (ltN (by omega) hN) (ds_way (by omega)) (by omega) (by decide) dX3_add_26 ?_
    refine V_aload_n X dX3_add_27 rfl ?_
    refine V_getr X flX3_16 (ltN (by decide) hN) rfl rfl dX3_add_28 ?_
    refine V_iload_n X dX3_add_31 rfl ?_
    refine V_dup2 X dX3_add_32 ?_
    refine V_ialdN X (ltN (by decide) hN) rfl (by omega) (by decide) dX3_add_33 ?_
    refine V_top (nI (z)) (by rw [st_ne (by omega)]; exact hz) ?_
    refine V_iconst X (nI 1) dX3_add_34 (by decide) ?_
    refine V_addN X dX3_add_35 ?_
    refine V_iastN X (ltN (by decide) hN) rfl (by omega) (by decide) dX3_add_36 ?_
    refine V_iconst X (nI 1) dX3_add_37 (by decide) ?_
    exact V_zret X E dX3_add_38 (by first | exact Or.inl rfl | exact Or.inr rfl | exact bi_01 _) (by first | exact bi_t h8 | exact bi_f (by omega)) (by first | rw [if_pos h8] | rw [if_neg (by omega)])
  · refine V_iconst X (nI 0) dX3_add_11 (by decide) ?_
    exact V_zret X E dX3_add_12 (by first | exact Or.inl rfl | exact Or.inr rfl | exact bi_01 _) (by first | exact bi_t h8 | exact bi_f (by omega)) (by first | rw [if_pos h8] | rw [if_neg (by omega)])

set_option maxRecDepth 100000 in
set_option maxHeartbeats 4000000 in
theorem kX4_handTo {G : Cx} {S : Sx} (hN : 80 ≤ gN G) {a t : Nat} {bit : Int32} (ha : a < 8) (ht : t < 10) : CV G (0) yX4_handTo cX4_handTo 4 [ra G 7, .int (nI a), .int (nI t), .int bit] S (sHand S a t bit) := by
  refine CV_of (by decide) (Nat.le_of_ble_eq_true rfl) (by intro v hv; simp only [List.mem_cons, List.not_mem_nil, or_false] at hv; rcases hv with rfl | rfl | rfl | rfl <;> rfl) (fun F X E => ?_)
  have hR := RV_R E
  refine V_aload_n X dX4_handTo_0 rfl ?_
  refine V_getr X flX4_18 (ltN (by decide) hN) rfl rfl dX4_handTo_1 ?_
  refine V_iload_n X dX4_handTo_4 rfl ?_
  refine V_iload_n X dX4_handTo_5 rfl ?_
  refine V_iastN X (ltN (by decide) hN) rfl (by omega) (by decide) dX4_handTo_6 ?_
  refine V_aload_n X dX4_handTo_7 rfl ?_
  refine V_getr X flX4_21 (ltN (by decide) hN) rfl rfl dX4_handTo_8 ?_
  refine V_iload_n X dX4_handTo_11 rfl ?_
  refine V_iload_n X dX4_handTo_12 rfl ?_
  refine V_iastN X (ltN (by decide) hN) rfl (by omega) (by decide) dX4_handTo_13 ?_
  exact V_vret X E dX4_handTo_14 rfl

set_option maxRecDepth 100000 in
set_option maxHeartbeats 4000000 in
theorem kX4_inferPlace {G : Cx} {S : Sx} (hN : 80 ≤ gN G) {a : Nat} {p fr : Int32} (ha : a < 8) : CV G (0) yX4_inferPlace cX4_inferPlace 4 [ra G 7, .int (nI a), .int p, .int fr] S (sInf S a p fr) := by
  refine CV_of (by decide) (Nat.le_of_ble_eq_true rfl) (by intro v hv; simp only [List.mem_cons, List.not_mem_nil, or_false] at hv; rcases hv with rfl | rfl | rfl | rfl <;> rfl) (fun F X E => ?_)
  have hR := RV_R E
  refine V_aload_n X dX4_inferPlace_0 rfl ?_
  refine V_getr X flX4_9 (ltN (by decide) hN) rfl rfl dX4_inferPlace_1 ?_
  refine V_iload_n X dX4_inferPlace_4 rfl ?_
  refine V_ialdN X (ltN (by decide) hN) rfl (by omega) (by decide) dX4_inferPlace_5 ?_
  refine V_bipush X (-2) dX4_inferPlace_6 (by decide) ?_
  refine V_icmp_ne X 31 dX4_inferPlace_8 (by decide) (fun h8 => ?_) (fun h8 => ?_)
  · exact V_vret X E dX4_inferPlace_31 (by unfold sInf; exact (if_neg (fun q => h8 q.1)).symm)
  · refine V_iload_n X dX4_inferPlace_11 rfl ?_
    refine V_bipush X (-2) dX4_inferPlace_12 (by decide) ?_
    refine V_icmp_eq X 31 dX4_inferPlace_14 (by decide) (fun h14 => ?_) (fun h14 => ?_)
    · exact V_vret X E dX4_inferPlace_31 (by unfold sInf; first | exact (if_pos ⟨ts_nn h8, h14⟩).symm | exact (if_neg (fun q => q.2 h14)).symm)
    · refine V_aload_n X dX4_inferPlace_17 rfl ?_
      refine V_getr X flX4_9 (ltN (by decide) hN) rfl rfl dX4_inferPlace_18 ?_
      refine V_iload_n X dX4_inferPlace_21 rfl ?_
      refine V_iload_n X dX4_inferPlace_22 rfl ?_
      refine V_iastN X (ltN (by decide) hN) rfl (by omega) (by decide) dX4_inferPlace_23 ?_
      refine V_aload_n X dX4_inferPlace_24 rfl ?_
      refine V_getr X flX4_15 (ltN (by decide) hN) rfl rfl dX4_inferPlace_25 ?_
      refine V_iload_n X dX4_inferPlace_28 rfl ?_
      refine V_iload_n X dX4_inferPlace_29 rfl ?_
      refine V_iastN X (ltN (by decide) hN) rfl (by omega) (by decide) dX4_inferPlace_30 ?_
      exact V_vret X E dX4_inferPlace_31 (by unfold sInf; first | exact (if_pos ⟨ts_nn h8, h14⟩).symm | exact (if_neg (fun q => q.2 h14)).symm)

set_option maxRecDepth 100000 in
set_option maxHeartbeats 4000000 in
theorem kX4_tellTaking {G : Cx} {S : Sx} (hN : 80 ≤ gN G) {a t : Nat} {bit : Int32} (ha : a < 8) (ht : t < 10) : CV G (1) yX4_tellTaking cX4_tellTaking 4 [ra G 7, .int (nI a), .int (nI t), .int bit] S (sTake S a t bit) := by
  refine CV_of (by decide) (Nat.le_of_ble_eq_true rfl) (by intro v hv; simp only [List.mem_cons, List.not_mem_nil, or_false] at hv; rcases hv with rfl | rfl | rfl | rfl <;> rfl) (fun F X E => ?_)
  have hR := RV_R E
  refine V_aload_n X dX4_tellTaking_0 rfl ?_
  refine V_getr X flX4_18 (ltN (by decide) hN) rfl rfl dX4_tellTaking_1 ?_
  refine V_iload_n X dX4_tellTaking_4 rfl ?_
  refine V_ialdN X (ltN (by decide) hN) rfl (by omega) (by decide) dX4_tellTaking_5 ?_
  refine V_iload_n X dX4_tellTaking_6 rfl ?_
  refine V_icmp_ne X 11 dX4_tellTaking_7 (by decide) (fun h7 => ?_) (fun h7 => ?_)
  · refine V_aload_n X dX4_tellTaking_11 rfl ?_
    refine V_getr X flX4_18 (ltN (by decide) hN) rfl rfl dX4_tellTaking_12 ?_
    refine V_iload_n X dX4_tellTaking_15 rfl ?_
    refine V_ialdN X (ltN (by decide) hN) rfl (by omega) (by decide) dX4_tellTaking_16 ?_
    refine V_bipush X (nI 9) dX4_tellTaking_17 (by decide) ?_
    refine V_icmp_ne X 41 dX4_tellTaking_19 (by decide) (fun h19 => ?_) (fun h19 => ?_)
    · refine V_aload_n X dX4_tellTaking_41 rfl ?_
      refine V_iload_n X dX4_tellTaking_42 rfl ?_
      refine V_iload_n X dX4_tellTaking_43 rfl ?_
      refine V_iload_n X dX4_tellTaking_44 rfl ?_
      refine V_cvv X (ltN (by decide) hN) rfl rfl rfl (kX4_handTo hN (by omega) (by omega)) cwX4_78 rfl (rm_ok hR (by decide) (by decide)) (Nat.le_of_ble_eq_true rfl) dX4_tellTaking_45 ?_
      exact V_vret X E dX4_tellTaking_48 (by unfold sTake; first | rw [if_pos (ts_nn h7)] | (rw [if_neg h7]; first | rw [if_pos (ts_nn h19)] | rw [if_neg h19]))
    · refine V_aload_n X dX4_tellTaking_22 rfl ?_
      refine V_iload_n X dX4_tellTaking_23 rfl ?_
      refine V_aload_n X dX4_tellTaking_24 rfl ?_
      refine V_getr X flX4_24 (ltN (by decide) hN) rfl rfl dX4_tellTaking_25 ?_
      refine V_iload_n X dX4_tellTaking_28 rfl ?_
      refine V_ialdN X (ltN (by decide) hN) rfl (by omega) (by decide) dX4_tellTaking_29 ?_
      refine V_aload_n X dX4_tellTaking_30 rfl ?_
      refine V_getr X flX4_27 (ltN (by decide) hN) rfl rfl dX4_tellTaking_31 ?_
      refine V_iload_n X dX4_tellTaking_34 rfl ?_
      refine V_ialdN X (ltN (by decide) hN) rfl (by omega) (by decide) dX4_tellTaking_35 ?_
      refine V_iload_n X dX4_tellTaking_36 rfl ?_
      refine V_ior X dX4_tellTaking_37 ?_
      refine V_cvv X (ltN (by decide) hN) rfl rfl rfl (kX4_inferPlace hN (by omega)) cwX4_75 rfl (rm_ok hR (by decide) (by decide)) (Nat.le_of_ble_eq_true rfl) dX4_tellTaking_38 ?_
      refine V_aload_n X dX4_tellTaking_41 rfl ?_
      refine V_iload_n X dX4_tellTaking_42 rfl ?_
      refine V_iload_n X dX4_tellTaking_43 rfl ?_
      refine V_iload_n X dX4_tellTaking_44 rfl ?_
      refine V_cvv X (ltN (by decide) hN) rfl rfl rfl (kX4_handTo hN (by omega) (by omega)) cwX4_78 rfl (rm_ok hR (by decide) (by decide)) (Nat.le_of_ble_eq_true rfl) dX4_tellTaking_45 ?_
      exact V_vret X E dX4_tellTaking_48 (by unfold sTake; first | rw [if_pos (ts_nn h7)] | (rw [if_neg h7]; first | rw [if_pos (ts_nn h19)] | rw [if_neg h19]))
  · exact V_vret X E dX4_tellTaking_10 (by unfold sTake; first | rw [if_pos (ts_nn h7)] | (rw [if_neg h7]; first | rw [if_pos (ts_nn h19)] | rw [if_neg h19]))

set_option maxRecDepth 100000 in
set_option maxHeartbeats 4000000 in
theorem kX4_tellDropping {G : Cx} {S : Sx} (hN : 80 ≤ gN G) {a t : Nat} {bit : Int32} (ha : a < 8) (ht : t < 10) : CV G (0) yX4_tellDropping cX4_tellDropping 4 [ra G 7, .int (nI a), .int (nI t), .int bit] S (sDrop S a t bit) := by
  refine CV_of (by decide) (Nat.le_of_ble_eq_true rfl) (by intro v hv; simp only [List.mem_cons, List.not_mem_nil, or_false] at hv; rcases hv with rfl | rfl | rfl | rfl <;> rfl) (fun F X E => ?_)
  have hR := RV_R E
  refine V_aload_n X dX4_tellDropping_0 rfl ?_
  refine V_getr X flX4_18 (ltN (by decide) hN) rfl rfl dX4_tellDropping_1 ?_
  refine V_iload_n X dX4_tellDropping_4 rfl ?_
  refine V_bipush X (nI 9) dX4_tellDropping_5 (by decide) ?_
  refine V_iastN X (ltN (by decide) hN) rfl (by omega) (by decide) dX4_tellDropping_7 ?_
  refine V_aload_n X dX4_tellDropping_8 rfl ?_
  refine V_getr X flX4_21 (ltN (by decide) hN) rfl rfl dX4_tellDropping_9 ?_
  refine V_iload_n X dX4_tellDropping_12 rfl ?_
  refine V_iload_n X dX4_tellDropping_13 rfl ?_
  refine V_iastN X (ltN (by decide) hN) rfl (by omega) (by decide) dX4_tellDropping_14 ?_
  refine V_aload_n X dX4_tellDropping_15 rfl ?_
  refine V_getr X flX4_24 (ltN (by decide) hN) rfl rfl dX4_tellDropping_16 ?_
  refine V_iload_n X dX4_tellDropping_19 rfl ?_
  refine V_aload_n X dX4_tellDropping_20 rfl ?_
  refine V_getr X flX4_9 (ltN (by decide) hN) rfl rfl dX4_tellDropping_21 ?_
  refine V_iload_n X dX4_tellDropping_24 rfl ?_
  refine V_ialdN X (ltN (by decide) hN) rfl (by omega) (by decide) dX4_tellDropping_25 ?_
  refine V_iastN X (ltN (by decide) hN) rfl (by omega) (by decide) dX4_tellDropping_26 ?_
  refine V_aload_n X dX4_tellDropping_27 rfl ?_
  refine V_getr X flX4_27 (ltN (by decide) hN) rfl rfl dX4_tellDropping_28 ?_
  refine V_iload_n X dX4_tellDropping_31 rfl ?_
  refine V_iload_n X dX4_tellDropping_32 rfl ?_
  refine V_aload_n X dX4_tellDropping_33 rfl ?_
  refine V_getr X flX4_15 (ltN (by decide) hN) rfl rfl dX4_tellDropping_34 ?_
  refine V_iload_n X dX4_tellDropping_37 rfl ?_
  refine V_ialdN X (ltN (by decide) hN) rfl (by omega) (by decide) dX4_tellDropping_38 ?_
  refine V_ior X dX4_tellDropping_39 ?_
  refine V_iastN X (ltN (by decide) hN) rfl (by omega) (by decide) dX4_tellDropping_40 ?_
  exact V_vret X E dX4_tellDropping_41 rfl

set_option maxRecDepth 100000 in
set_option maxHeartbeats 4000000 in
theorem kX4_tellGiving {G : Cx} {S : Sx} (hN : 80 ≤ gN G) {a t b : Nat} {bit : Int32} (ha : a < 8) (ht : t < 10) (hb : b < 8) : CV G (1) yX4_tellGiving cX4_tellGiving 5 [ra G 7, .int (nI a), .int (nI t), .int (nI b), .int bit] S (sGive S a t b bit) := by
  refine CV_of (by decide) (Nat.le_of_ble_eq_true rfl) (by intro v hv; simp only [List.mem_cons, List.not_mem_nil, or_false] at hv; rcases hv with rfl | rfl | rfl | rfl | rfl <;> rfl) (fun F X E => ?_)
  have hR := RV_R E
  refine V_iload_n X dX4_tellGiving_0 rfl ?_
  refine V_iconst X (-1) dX4_tellGiving_1 (by decide) ?_
  refine V_icmp_ne X 6 dX4_tellGiving_2 (by decide) (fun h2 => ?_) (fun h2 => ?_)
  · refine V_aload_n X dX4_tellGiving_6 rfl ?_
    refine V_iload_n X dX4_tellGiving_7 rfl ?_
    refine V_aload_n X dX4_tellGiving_8 rfl ?_
    refine V_getr X flX4_9 (ltN (by decide) hN) rfl rfl dX4_tellGiving_9 ?_
    refine V_iload_n X dX4_tellGiving_12 rfl ?_
    refine V_ialdN X (ltN (by decide) hN) rfl (by omega) (by decide) dX4_tellGiving_13 ?_
    refine V_aload_n X dX4_tellGiving_14 rfl ?_
    refine V_getr X flX4_15 (ltN (by decide) hN) rfl rfl dX4_tellGiving_15 ?_
    refine V_iload_n X dX4_tellGiving_18 rfl ?_
    refine V_ialdN X (ltN (by decide) hN) rfl (by omega) (by decide) dX4_tellGiving_19 ?_
    refine V_iload X dX4_tellGiving_20 rfl ?_
    refine V_ior X dX4_tellGiving_22 ?_
    refine V_cvv X (ltN (by decide) hN) rfl rfl rfl (kX4_inferPlace hN (by omega)) cwX4_75 rfl (rm_ok hR (by decide) (by decide)) (Nat.le_of_ble_eq_true rfl) dX4_tellGiving_23 ?_
    refine V_aload_n X dX4_tellGiving_26 rfl ?_
    refine V_iload_n X dX4_tellGiving_27 rfl ?_
    refine V_aload_n X dX4_tellGiving_28 rfl ?_
    refine V_getr X flX4_9 (ltN (by decide) hN) rfl rfl dX4_tellGiving_29 ?_
    refine V_iload_n X dX4_tellGiving_32 rfl ?_
    refine V_ialdN X (ltN (by decide) hN) rfl (by omega) (by decide) dX4_tellGiving_33 ?_
    refine V_aload_n X dX4_tellGiving_34 rfl ?_
    refine V_getr X flX4_15 (ltN (by decide) hN) rfl rfl dX4_tellGiving_35 ?_
    refine V_iload_n X dX4_tellGiving_38 rfl ?_
    refine V_ialdN X (ltN (by decide) hN) rfl (by omega) (by decide) dX4_tellGiving_39 ?_
    refine V_iload X dX4_tellGiving_40 rfl ?_
    refine V_ior X dX4_tellGiving_42 ?_
    refine V_cvv X (ltN (by decide) hN) rfl rfl rfl (kX4_inferPlace hN (by omega)) cwX4_75 rfl (rm_ok hR (by decide) (by decide)) (Nat.le_of_ble_eq_true rfl) dX4_tellGiving_43 ?_
    refine V_aload_n X dX4_tellGiving_46 rfl ?_
    refine V_iload_n X dX4_tellGiving_47 rfl ?_
    refine V_iload_n X dX4_tellGiving_48 rfl ?_
    refine V_iload X dX4_tellGiving_49 rfl ?_
    refine V_cvv X (ltN (by decide) hN) rfl rfl rfl (kX4_handTo hN (by omega) (by omega)) cwX4_78 rfl (rm_ok hR (by decide) (by decide)) (Nat.le_of_ble_eq_true rfl) dX4_tellGiving_51 ?_
    exact V_vret X E dX4_tellGiving_54 rfl
  · exact absurd (ts_nn h2) (m1_ne (by omega))

set_option maxRecDepth 100000 in
set_option maxHeartbeats 4000000 in
theorem kX4_tellGivingN {G : Cx} {S : Sx} (hN : 80 ≤ gN G) {x y bit : Int32} : CV G (1) yX4_tellGiving cX4_tellGiving 5 [ra G 7, .int x, .int y, .int (-1), .int bit] S (S) := by
  refine CV_of (by decide) (Nat.le_of_ble_eq_true rfl) (by intro v hv; simp only [List.mem_cons, List.not_mem_nil, or_false] at hv; rcases hv with rfl | rfl | rfl | rfl | rfl <;> rfl) (fun F X E => ?_)
  have hR := RV_R E
  refine V_iload_n X dX4_tellGiving_0 rfl ?_
  refine V_iconst X (-1) dX4_tellGiving_1 (by decide) ?_
  refine V_icmp_ne X 6 dX4_tellGiving_2 (by decide) (fun h2 => ?_) (fun h2 => ?_)
  · exact absurd rfl h2
  · exact V_vret X E dX4_tellGiving_5 rfl

theorem okS_30 {S : Sx} {s : Nat} (h : okS S s) (h36 : (S 2 (s * 5 + 1)).toInt < 31 ∨ 33 < (S 2 (s * 5 + 1)).toInt) : S 2 (s * 5 + 1) = nI 30 := by
  rcases h.2.2 with ⟨h1, -⟩ | ⟨h1, -⟩
  · exact h1
  · rcases h1 with h1 | h1 | h1 <;> (rw [h1] at h36; exact absurd h36 (by decide))

set_option maxRecDepth 100000 in
set_option maxHeartbeats 4000000 in
theorem kX4_tell {G : Cx} {S : Sx} (hN : 80 ≤ gN G) {s : Nat} {c : Int32} (hs : s < 14) (ok : okS S s) : CV G 3 yX4_tell cX4_tell 7 [ra G 7, ra G 1, .int (nI s), .int c] S (sTell S s c) := by
  refine CV_of (by decide) (Nat.le_of_ble_eq_true rfl) (by intro v hv; simp only [List.mem_cons, List.not_mem_nil, or_false] at hv; rcases hv with rfl | rfl | rfl | rfl <;> rfl) (fun F X E => ?_)
  have hR := RV_R E
  refine V_aload_n X dX4_tell_0 rfl ?_
  refine V_iload_n X dX4_tell_1 rfl ?_
  refine V_iconst X (nI 0) dX4_tell_2 (by decide) ?_
  refine V_iload_n X dX4_tell_3 rfl ?_
  refine V_cvi X (ltN (by decide) hN) rfl rfl rfl (kX2_person hN (by omega) (by omega)) cwX4_37 rfl (rm_ok hR (by decide) (by decide)) (Nat.le_of_ble_eq_true rfl) dX4_tell_4 ?_
  refine V_istore X dX4_tell_7 (by rw [hR.2]; decide) ?_
  refine V_iload X dX4_tell_9 rfl ?_
  refine V_iconst X (-1) dX4_tell_11 (by decide) ?_
  refine V_icmp_ne X 16 dX4_tell_12 (by decide) (fun h12 => ?_) (fun h12 => ?_)
  · rcases prs_ok (c := c) (t := 2 * s + 0) ok.1 with e0 | ⟨a, ha, e0⟩
    · exact absurd e0 h12
    rw [e0]
    refine V_iconst X (nI 1) dX4_tell_16 (by decide) ?_
    refine V_iload_n X dX4_tell_17 rfl ?_
    refine V_ishl X dX4_tell_18 ?_
    refine V_istore X dX4_tell_19 (by rw [hR.2]; decide) ?_
    refine V_aload_n X dX4_tell_21 rfl ?_
    refine V_iload_n X dX4_tell_22 rfl ?_
    refine V_cvi X (ltN (by decide) hN) rfl rfl rfl (kX2_object hN (by omega)) cwX4_43 rfl (rm_ok hR (by decide) (by decide)) (Nat.le_of_ble_eq_true rfl) dX4_tell_23 ?_
    refine V_bipush X (nI 10) dX4_tell_26 (by decide) ?_
    refine V_isub X dX4_tell_28 ?_
    refine V_istore X dX4_tell_29 (by rw [hR.2]; decide) ?_
    refine V_aload_n X dX4_tell_31 rfl ?_
    refine V_iload_n X dX4_tell_32 rfl ?_
    refine V_cvi X (ltN (by decide) hN) rfl rfl rfl (kX2_verb hN (by omega)) cwX4_47 rfl (rm_ok hR (by decide) (by decide)) (Nat.le_of_ble_eq_true rfl) dX4_tell_33 ?_
    rcases sw31_3 (S 2 (s * 5 + 1)) with h36 | h36 | h36 | h36
    · refine V_tabIn X 28 64 dX4_tell_36 (by rw [h36]; decide) (by rw [h36]; decide) (by rw [h36]; rfl) (by decide) ?_
      obtain ⟨t, ht, et⟩ := okS_T ok h36 (by decide) (by decide)
      rw [et]
      refine V_aload_n X dX4_tell_64 rfl ?_
      refine V_iload X dX4_tell_65 rfl ?_
      refine V_iload X dX4_tell_67 rfl ?_
      refine V_iload X dX4_tell_69 rfl ?_
      refine V_cvv X (ltN (by decide) hN) rfl rfl rfl (kX4_tellTaking hN ha ht) cwX4_64 rfl (rm_ok hR (by decide) (by decide)) (Nat.le_of_ble_eq_true rfl) dX4_tell_71 ?_
      refine V_goto X 131 dX4_tell_74 (by decide) ?_
      exact V_vret X E dX4_tell_131 (sTell_31 ha ht e0 h36 et)
    · refine V_tabIn X 41 77 dX4_tell_36 (by rw [h36]; decide) (by rw [h36]; decide) (by rw [h36]; rfl) (by decide) ?_
      obtain ⟨t, ht, et⟩ := okS_T ok h36 (by decide) (by decide)
      rw [et]
      refine V_aload_n X dX4_tell_77 rfl ?_
      refine V_iload X dX4_tell_78 rfl ?_
      refine V_iload X dX4_tell_80 rfl ?_
      refine V_iload X dX4_tell_82 rfl ?_
      refine V_cvv X (ltN (by decide) hN) rfl rfl rfl (kX4_tellDropping hN ha ht) cwX4_68 rfl (rm_ok hR (by decide) (by decide)) (Nat.le_of_ble_eq_true rfl) dX4_tell_84 ?_
      refine V_goto X 131 dX4_tell_87 (by decide) ?_
      exact V_vret X E dX4_tell_131 (sTell_32 ha ht e0 h36 et)
    · refine V_tabIn X 54 90 dX4_tell_36 (by rw [h36]; decide) (by rw [h36]; decide) (by rw [h36]; rfl) (by decide) ?_
      obtain ⟨t, ht, et⟩ := okS_T ok h36 (by decide) (by decide)
      rw [et]
      refine V_aload_n X dX4_tell_90 rfl ?_
      refine V_iload X dX4_tell_91 rfl ?_
      refine V_iload X dX4_tell_93 rfl ?_
      refine V_aload_n X dX4_tell_95 rfl ?_
      refine V_iload_n X dX4_tell_96 rfl ?_
      refine V_iconst X (nI 1) dX4_tell_97 (by decide) ?_
      refine V_iload_n X dX4_tell_98 rfl ?_
      refine V_cvi X (ltN (by decide) hN) rfl rfl rfl (kX2_person hN (by omega) (by omega)) cwX4_37 rfl (rm_ok hR (by decide) (by decide)) (Nat.le_of_ble_eq_true rfl) dX4_tell_99 ?_
      rcases prs_ok (c := c) (t := 2 * s + 1) ok.2.1 with e1 | ⟨b, hb, e1⟩
      · rw [e1]
        refine V_iload X dX4_tell_102 rfl ?_
        refine V_cvv X (ltN (by decide) hN) rfl rfl rfl (kX4_tellGivingN hN) cwX4_71 rfl (rm_ok hR (by decide) (by decide)) (Nat.le_of_ble_eq_true rfl) dX4_tell_104 ?_
        refine V_goto X 131 dX4_tell_107 (by decide) ?_
        exact V_vret X E dX4_tell_131 (sTell_33n ha e0 h36 e1)
      · rw [e1]
        refine V_iload X dX4_tell_102 rfl ?_
        refine V_cvv X (ltN (by decide) hN) rfl rfl rfl (kX4_tellGiving hN ha ht hb) cwX4_71 rfl (rm_ok hR (by decide) (by decide)) (Nat.le_of_ble_eq_true rfl) dX4_tell_104 ?_
        refine V_goto X 131 dX4_tell_107 (by decide) ?_
        exact V_vret X E dX4_tell_131 (sTell_33 ha ht hb e0 h36 et e1)
    · refine V_tabOut X 110 dX4_tell_36 h36 (by decide) ?_
      refine V_aload_n X dX4_tell_110 rfl ?_
      refine V_getr X flX4_9 (ltN (by decide) hN) rfl rfl dX4_tell_111 ?_
      refine V_iload X dX4_tell_114 rfl ?_
      refine V_aload_n X dX4_tell_116 rfl ?_
      refine V_iload_n X dX4_tell_117 rfl ?_
      refine V_cvi X (ltN (by decide) hN) rfl rfl rfl (kX2_object hN (by omega)) cwX4_43 rfl (rm_ok hR (by decide) (by decide)) (Nat.le_of_ble_eq_true rfl) dX4_tell_118 ?_
      refine V_iastN X (ltN (by decide) hN) rfl (by omega) (by decide) dX4_tell_121 ?_
      refine V_aload_n X dX4_tell_122 rfl ?_
      refine V_getr X flX4_15 (ltN (by decide) hN) rfl rfl dX4_tell_123 ?_
      refine V_iload X dX4_tell_126 rfl ?_
      refine V_iload X dX4_tell_128 rfl ?_
      refine V_iastN X (ltN (by decide) hN) rfl (by omega) (by decide) dX4_tell_130 ?_
      exact V_vret X E dX4_tell_131 (sTell_30 ha e0 (okS_30 ok h36))
  · exact V_vret X E dX4_tell_15 (sTell_n (ts_nn h12))

set_option maxRecDepth 100000 in
set_option maxHeartbeats 4000000 in
theorem kX4_thingPlace {G : Cx} {S : Sx} (hN : 80 ≤ gN G) {t : Nat} (ht : t < 10) : CT G (1) yX4_thingPlace cX4_thingPlace 3 (some .int) [ra G 7, .int (nI t)] S (tpl S t) (S) := by
  refine CT_of (by decide) (Nat.le_of_ble_eq_true rfl) (by intro v hv; simp only [List.mem_cons, List.not_mem_nil, or_false] at hv; rcases hv with rfl | rfl <;> rfl) (fun F X E => ?_)
  have hR := RI_R E
  refine V_aload_n X dX4_thingPlace_0 rfl ?_
  refine V_getr X flX4_18 (ltN (by decide) hN) rfl rfl dX4_thingPlace_1 ?_
  refine V_iload_n X dX4_thingPlace_4 rfl ?_
  refine V_ialdN X (ltN (by decide) hN) rfl (by omega) (by decide) dX4_thingPlace_5 ?_
  refine V_istore_n X dX4_thingPlace_6 (by rw [hR.2]; decide) ?_
  refine V_iload_n X dX4_thingPlace_7 rfl ?_
  refine V_bipush X (nI 9) dX4_thingPlace_8 (by decide) ?_
  refine V_icmp_ne X 20 dX4_thingPlace_10 (by decide) (fun h10 => ?_) (fun h10 => ?_)
  · refine V_iload_n X dX4_thingPlace_20 rfl ?_
    refine V_cti X (kX5_isPerson ) cwX4_87 rfl (rm_ok hR (by decide) (by decide)) (Nat.le_of_ble_eq_true rfl) dX4_thingPlace_21 ?_
    refine V_if_eq X 36 dX4_thingPlace_24 (by decide) (fun h24 => ?_) (fun h24 => ?_)
    · refine V_bipush X (-2) dX4_thingPlace_36 (by decide) ?_
      exact V_iret X E dX4_thingPlace_38 (by unfold tpl; first | (rw [if_pos (ts_nn h10)]) | (rw [if_neg h10, if_neg (bi_eq.mp h24)]) | (rw [if_neg h10, if_pos (by rw [ea]; exact isP_of ha), ea, nI_clamp (by omega)])) rfl
    · obtain ⟨a, ha, ea⟩ := isP_nat (Classical.byContradiction (fun z => h24 (bi_eq.mpr z)))
      rw [ea]
      refine V_aload_n X dX4_thingPlace_27 rfl ?_
      refine V_getr X flX4_9 (ltN (by decide) hN) rfl rfl dX4_thingPlace_28 ?_
      refine V_iload_n X dX4_thingPlace_31 rfl ?_
      refine V_ialdN X (ltN (by decide) hN) rfl (by omega) (by decide) dX4_thingPlace_32 ?_
      refine V_goto X 38 dX4_thingPlace_33 (by decide) ?_
      exact V_iret X E dX4_thingPlace_38 (by unfold tpl; first | (rw [if_pos (ts_nn h10)]) | (rw [if_neg h10, if_neg (bi_eq.mp h24)]) | (rw [if_neg h10, if_pos (by rw [ea]; exact isP_of ha), ea, nI_clamp (by omega)])) rfl
  · refine V_aload_n X dX4_thingPlace_13 rfl ?_
    refine V_getr X flX4_24 (ltN (by decide) hN) rfl rfl dX4_thingPlace_14 ?_
    refine V_iload_n X dX4_thingPlace_17 rfl ?_
    refine V_ialdN X (ltN (by decide) hN) rfl (by omega) (by decide) dX4_thingPlace_18 ?_
    exact V_iret X E dX4_thingPlace_19 (by unfold tpl; first | (rw [if_pos (ts_nn h10)]) | (rw [if_neg h10, if_neg (bi_eq.mp h24)]) | (rw [if_neg h10, if_pos (by rw [ea]; exact isP_of ha), ea, nI_clamp (by omega)])) rfl

theorem tpb_l0 {S : Sx} {t : Nat} (h : ¬ (¬ (S 10 t = nI 9))) (h2 : ¬ (¬ (S 12 t = -2))) : nI 0 = tpb S t := by
  unfold tpb tpl; rw [if_pos (ts_nn h), if_pos (ts_nn h2)]
theorem tpb_l1 {S : Sx} {t : Nat} (h : ¬ (¬ (S 10 t = nI 9))) (h2 : ¬ (S 12 t = -2)) : S 13 t = tpb S t := by
  unfold tpb tpl; rw [if_pos (ts_nn h), if_neg h2, if_neg (by rw [ts_nn h]; decide)]
theorem tpb_n {S : Sx} {t : Nat} (h : ¬ (S 10 t = nI 9)) (h2 : ¬ isP (S 10 t)) : nI 0 = tpb S t := by
  unfold tpb tpl; rw [if_neg h, if_neg h2, if_pos rfl]
theorem tpb_p0 {S : Sx} {t a : Nat} (h : ¬ (S 10 t = nI 9)) (ha : a < 8) (ea : S 10 t = nI a) (h2 : S 8 a = -2) : nI 0 = tpb S t := by
  have hp : isP (S 10 t) := by rw [ea]; exact isP_of ha
  unfold tpb tpl; rw [if_neg h, if_pos hp, ea, nI_clamp (by omega), if_pos h2]
theorem tpb_p1 {S : Sx} {t a : Nat} (h : ¬ (S 10 t = nI 9)) (ha : a < 8) (ea : S 10 t = nI a) (h2 : ¬ (S 8 a = -2)) : S 11 t ||| S 9 a = tpb S t := by
  have hp : isP (S 10 t) := by rw [ea]; exact isP_of ha
  unfold tpb tpl; rw [if_neg h, if_pos hp, ea, nI_clamp (by omega), if_neg h2, if_pos (isP_of ha)]

set_option maxRecDepth 100000 in
set_option maxHeartbeats 4000000 in
theorem kX4_thingPlaceBasis {G : Cx} {S : Sx} (hN : 80 ≤ gN G) {t : Nat} (ht : t < 10) : CT G (2) yX4_thingPlaceBasis cX4_thingPlaceBasis 4 (some .int) [ra G 7, .int (nI t)] S (tpb S t) (S) := by
  refine CT_of (by decide) (Nat.le_of_ble_eq_true rfl) (by intro v hv; simp only [List.mem_cons, List.not_mem_nil, or_false] at hv; rcases hv with rfl | rfl <;> rfl) (fun F X E => ?_)
  have hR := RI_R E
  refine V_aload_n X dX4_thingPlaceBasis_0 rfl ?_
  refine V_getr X flX4_18 (ltN (by decide) hN) rfl rfl dX4_thingPlaceBasis_1 ?_
  refine V_iload_n X dX4_thingPlaceBasis_4 rfl ?_
  refine V_ialdN X (ltN (by decide) hN) rfl (by omega) (by decide) dX4_thingPlaceBasis_5 ?_
  refine V_istore_n X dX4_thingPlaceBasis_6 (by rw [hR.2]; decide) ?_
  refine V_iload_n X dX4_thingPlaceBasis_7 rfl ?_
  refine V_bipush X (nI 9) dX4_thingPlaceBasis_8 (by decide) ?_
  refine V_icmp_ne X 35 dX4_thingPlaceBasis_10 (by decide) (fun h10 => ?_) (fun h10 => ?_)
  · refine V_iload_n X dX4_thingPlaceBasis_35 rfl ?_
    refine V_cti X (kX5_isPerson ) cwX4_87 rfl (rm_ok hR (by decide) (by decide)) (Nat.le_of_ble_eq_true rfl) dX4_thingPlaceBasis_36 ?_
    refine V_if_eq X 57 dX4_thingPlaceBasis_39 (by decide) (fun h39 => ?_) (fun h39 => ?_)
    · refine V_iconst X (nI 0) dX4_thingPlaceBasis_57 (by decide) ?_
      refine V_istore_n X dX4_thingPlaceBasis_58 (by rw [hR.2]; decide) ?_
      refine V_iload_n X dX4_thingPlaceBasis_59 rfl ?_
      refine V_iN_eq X 79 (by omega) dX4_thingPlaceBasis_60 (by decide) (fun h60 => ?_) (fun h60 => ?_)
      · refine V_iconst X (nI 0) dX4_thingPlaceBasis_79 (by decide) ?_
        exact V_iret X E dX4_thingPlaceBasis_80 (tpb_n h10 (bi_eq.mp h39)) rfl
      · exact absurd h60 (by decide)
    · obtain ⟨a, ha, ea⟩ := isP_nat (Classical.byContradiction (fun z => h39 (bi_eq.mpr z)))
      rw [ea]
      refine V_aload_n X dX4_thingPlaceBasis_42 rfl ?_
      refine V_getr X flX4_9 (ltN (by decide) hN) rfl rfl dX4_thingPlaceBasis_43 ?_
      refine V_iload_n X dX4_thingPlaceBasis_46 rfl ?_
      refine V_ialdN X (ltN (by decide) hN) rfl (by omega) (by decide) dX4_thingPlaceBasis_47 ?_
      refine V_bipush X (-2) dX4_thingPlaceBasis_48 (by decide) ?_
      refine V_icmp_eq X 57 dX4_thingPlaceBasis_50 (by decide) (fun h50 => ?_) (fun h50 => ?_)
      · refine V_iconst X (nI 0) dX4_thingPlaceBasis_57 (by decide) ?_
        refine V_istore_n X dX4_thingPlaceBasis_58 (by rw [hR.2]; decide) ?_
        refine V_iload_n X dX4_thingPlaceBasis_59 rfl ?_
        refine V_iN_eq X 79 (by omega) dX4_thingPlaceBasis_60 (by decide) (fun h60 => ?_) (fun h60 => ?_)
        · refine V_iconst X (nI 0) dX4_thingPlaceBasis_79 (by decide) ?_
          exact V_iret X E dX4_thingPlaceBasis_80 (by first | exact tpb_p1 h10 ha ea h50 | exact tpb_p0 h10 ha ea h50) rfl
        · exact absurd h60 (by decide)
      · refine V_iconst X (nI 1) dX4_thingPlaceBasis_53 (by decide) ?_
        refine V_goto X 58 dX4_thingPlaceBasis_54 (by decide) ?_
        refine V_istore_n X dX4_thingPlaceBasis_58 (by rw [hR.2]; decide) ?_
        refine V_iload_n X dX4_thingPlaceBasis_59 rfl ?_
        refine V_iN_eq X 79 (by omega) dX4_thingPlaceBasis_60 (by decide) (fun h60 => ?_) (fun h60 => ?_)
        · exact absurd h60 (by decide)
        · refine V_aload_n X dX4_thingPlaceBasis_63 rfl ?_
          refine V_getr X flX4_21 (ltN (by decide) hN) rfl rfl dX4_thingPlaceBasis_64 ?_
          refine V_iload_n X dX4_thingPlaceBasis_67 rfl ?_
          refine V_ialdN X (ltN (by decide) hN) rfl (by omega) (by decide) dX4_thingPlaceBasis_68 ?_
          refine V_aload_n X dX4_thingPlaceBasis_69 rfl ?_
          refine V_getr X flX4_15 (ltN (by decide) hN) rfl rfl dX4_thingPlaceBasis_70 ?_
          refine V_iload_n X dX4_thingPlaceBasis_73 rfl ?_
          refine V_ialdN X (ltN (by decide) hN) rfl (by omega) (by decide) dX4_thingPlaceBasis_74 ?_
          refine V_ior X dX4_thingPlaceBasis_75 ?_
          refine V_goto X 80 dX4_thingPlaceBasis_76 (by decide) ?_
          exact V_iret X E dX4_thingPlaceBasis_80 (by first | exact tpb_p1 h10 ha ea h50 | exact tpb_p0 h10 ha ea h50) rfl
  · refine V_aload_n X dX4_thingPlaceBasis_13 rfl ?_
    refine V_getr X flX4_24 (ltN (by decide) hN) rfl rfl dX4_thingPlaceBasis_14 ?_
    refine V_iload_n X dX4_thingPlaceBasis_17 rfl ?_
    refine V_ialdN X (ltN (by decide) hN) rfl (by omega) (by decide) dX4_thingPlaceBasis_18 ?_
    refine V_bipush X (-2) dX4_thingPlaceBasis_19 (by decide) ?_
    refine V_icmp_ne X 28 dX4_thingPlaceBasis_21 (by decide) (fun h21 => ?_) (fun h21 => ?_)
    · refine V_aload_n X dX4_thingPlaceBasis_28 rfl ?_
      refine V_getr X flX4_27 (ltN (by decide) hN) rfl rfl dX4_thingPlaceBasis_29 ?_
      refine V_iload_n X dX4_thingPlaceBasis_32 rfl ?_
      refine V_ialdN X (ltN (by decide) hN) rfl (by omega) (by decide) dX4_thingPlaceBasis_33 ?_
      exact V_iret X E dX4_thingPlaceBasis_34 (by first | exact tpb_l1 h10 h21 | exact tpb_l0 h10 h21) rfl
    · refine V_iconst X (nI 0) dX4_thingPlaceBasis_24 (by decide) ?_
      refine V_goto X 34 dX4_thingPlaceBasis_25 (by decide) ?_
      exact V_iret X E dX4_thingPlaceBasis_34 (by first | exact tpb_l1 h10 h21 | exact tpb_l0 h10 h21) rfl

set_option maxRecDepth 100000 in
set_option maxHeartbeats 4000000 in
theorem kX4_hadThings {G : Cx} {S : Sx} (hN : 80 ≤ gN G) {x : Int32} : CT G (0) yX4_hadThings cX4_hadThings 4 (some .int) [ra G 7, .int x] S (nI (hct (S 10) x 10)) (S) := by
  refine CT_of (by decide) (Nat.le_of_ble_eq_true rfl) (by intro v hv; simp only [List.mem_cons, List.not_mem_nil, or_false] at hv; rcases hv with rfl | rfl <;> rfl) (fun F X E => ?_)
  have hR := RI_R E
  have loop : ∀ (k i z : Nat), i ≤ 10 → 10 - i < k → z = hct (S 10) x i → V F G S 4 [some (ra G 7), some (.int x), some (.int (nI z)), some (.int (nI i))] [] := by
    intro k
    induction k with
    | zero => intro i z h1 h2; omega
    | succ k ih =>
      intro i z h1 h2 ha
      refine V_iload_n X dX4_hadThings_4 rfl ?_
      refine V_bipush X (nI 10) dX4_hadThings_5 (by decide) ?_
      refine V_cN_ge X 29 (by omega) (by omega) dX4_hadThings_7 (by decide) (fun h7 => ?_) (fun h7 => ?_)
      · refine V_iload_n X dX4_hadThings_29 rfl ?_
        exact V_iret X E dX4_hadThings_30 (by rw [ha, show i = 10 by omega]) rfl
      · refine V_aload_n X dX4_hadThings_10 rfl ?_
        refine V_getr X flX4_18 (ltN (by decide) hN) rfl rfl dX4_hadThings_11 ?_
        refine V_iload_n X dX4_hadThings_14 rfl ?_
        refine V_ialdN X (ltN (by decide) hN) rfl (by omega) (by decide) dX4_hadThings_15 ?_
        refine V_iload_n X dX4_hadThings_16 rfl ?_
        refine V_icmp_ne X 23 dX4_hadThings_17 (by decide) (fun h17 => ?_) (fun h17 => ?_)
        · refine V_iinc X (nI (_ + 1)) dX4_hadThings_23 (by rw [hR.2]; decide) rfl (nI_add _ 1) ?_
          refine V_goto X 4 dX4_hadThings_26 (by decide) ?_
          exact ih (i + 1) _ (by omega) (by omega) (by rw [ha, hct]; first | rw [if_pos (ts_nn h17)] | rw [if_neg h17])
        · refine V_iinc X (nI (_ + 1)) dX4_hadThings_20 (by rw [hR.2]; decide) rfl (nI_add _ 1) ?_
          refine V_iinc X (nI (_ + 1)) dX4_hadThings_23 (by rw [hR.2]; decide) rfl (nI_add _ 1) ?_
          refine V_goto X 4 dX4_hadThings_26 (by decide) ?_
          exact ih (i + 1) _ (by omega) (by omega) (by rw [ha, hct]; first | rw [if_pos (ts_nn h17)] | rw [if_neg h17])
  refine V_iconst X (nI 0) dX4_hadThings_0 (by decide) ?_
  refine V_istore_n X dX4_hadThings_1 (by rw [hR.2]; decide) ?_
  refine V_iconst X (nI 0) dX4_hadThings_2 (by decide) ?_
  refine V_istore_n X dX4_hadThings_3 (by rw [hR.2]; decide) ?_
  exact loop 11 0 0 (by omega) (by omega) rfl

set_option maxRecDepth 100000 in
set_option maxHeartbeats 4000000 in
theorem kX4_hadThingsBasis {G : Cx} {S : Sx} (hN : 80 ≤ gN G) {x : Int32} : CT G (0) yX4_hadThingsBasis cX4_hadThingsBasis 4 (some .int) [ra G 7, .int x] S (hbs S x 10) (S) := by
  refine CT_of (by decide) (Nat.le_of_ble_eq_true rfl) (by intro v hv; simp only [List.mem_cons, List.not_mem_nil, or_false] at hv; rcases hv with rfl | rfl <;> rfl) (fun F X E => ?_)
  have hR := RI_R E
  have loop : ∀ (k i : Nat) (z : Int32), i ≤ 10 → 10 - i < k → z = hbs S x i → V F G S 4 [some (ra G 7), some (.int x), some (.int z), some (.int (nI i))] [] := by
    intro k
    induction k with
    | zero => intro i z h1 h2; omega
    | succ k ih =>
      intro i z h1 h2 ha
      refine V_iload_n X dX4_hadThingsBasis_4 rfl ?_
      refine V_bipush X (nI 10) dX4_hadThingsBasis_5 (by decide) ?_
      refine V_cN_ge X 35 (by omega) (by omega) dX4_hadThingsBasis_7 (by decide) (fun h7 => ?_) (fun h7 => ?_)
      · refine V_iload_n X dX4_hadThingsBasis_35 rfl ?_
        exact V_iret X E dX4_hadThingsBasis_36 (by rw [ha, show i = 10 by omega]) rfl
      · refine V_aload_n X dX4_hadThingsBasis_10 rfl ?_
        refine V_getr X flX4_18 (ltN (by decide) hN) rfl rfl dX4_hadThingsBasis_11 ?_
        refine V_iload_n X dX4_hadThingsBasis_14 rfl ?_
        refine V_ialdN X (ltN (by decide) hN) rfl (by omega) (by decide) dX4_hadThingsBasis_15 ?_
        refine V_iload_n X dX4_hadThingsBasis_16 rfl ?_
        refine V_icmp_ne X 29 dX4_hadThingsBasis_17 (by decide) (fun h17 => ?_) (fun h17 => ?_)
        · refine V_iinc X (nI (_ + 1)) dX4_hadThingsBasis_29 (by rw [hR.2]; decide) rfl (nI_add _ 1) ?_
          refine V_goto X 4 dX4_hadThingsBasis_32 (by decide) ?_
          exact ih (i + 1) _ (by omega) (by omega) (by rw [ha]; first | exact (if_pos (ts_nn h17)).symm | exact (if_neg h17).symm)
        · refine V_iload_n X dX4_hadThingsBasis_20 rfl ?_
          refine V_aload_n X dX4_hadThingsBasis_21 rfl ?_
          refine V_getr X flX4_21 (ltN (by decide) hN) rfl rfl dX4_hadThingsBasis_22 ?_
          refine V_iload_n X dX4_hadThingsBasis_25 rfl ?_
          refine V_ialdN X (ltN (by decide) hN) rfl (by omega) (by decide) dX4_hadThingsBasis_26 ?_
          refine V_ior X dX4_hadThingsBasis_27 ?_
          refine V_istore_n X dX4_hadThingsBasis_28 (by rw [hR.2]; decide) ?_
          refine V_iinc X (nI (_ + 1)) dX4_hadThingsBasis_29 (by rw [hR.2]; decide) rfl (nI_add _ 1) ?_
          refine V_goto X 4 dX4_hadThingsBasis_32 (by decide) ?_
          exact ih (i + 1) _ (by omega) (by omega) (by rw [ha]; first | exact (if_pos (ts_nn h17)).symm | exact (if_neg h17).symm)
  refine V_iconst X (nI 0) dX4_hadThingsBasis_0 (by decide) ?_
  refine V_istore_n X dX4_hadThingsBasis_1 (by rw [hR.2]; decide) ?_
  refine V_iconst X (nI 0) dX4_hadThingsBasis_2 (by decide) ?_
  refine V_istore_n X dX4_hadThingsBasis_3 (by rw [hR.2]; decide) ?_
  exact loop 11 0 _ (by omega) (by omega) rfl

set_option maxRecDepth 100000 in
set_option maxHeartbeats 4000000 in
theorem kX4_value {G : Cx} {S : Sx} (hN : 80 ≤ gN G) {k a : Nat} (hq : qOk k a) : CT G (2) yX4_value cX4_value 3 (some .int) [ra G 7, .int (nI k), .int (nI a)] S (vl S k a) (S) := by
  refine CT_of (by decide) (Nat.le_of_ble_eq_true rfl) (by intro v hv; simp only [List.mem_cons, List.not_mem_nil, or_false] at hv; rcases hv with rfl | rfl | rfl <;> rfl) (fun F X E => ?_)
  have hR := RI_R E
  refine V_iload_n X dX4_value_0 rfl ?_
  rcases (show k = 0 ∨ k = 1 ∨ k = 2 ∨ 2 < k by omega) with rfl | rfl | rfl | h1
  · refine V_tabIn X 27 28 dX4_value_1 (by decide) (by decide) rfl (by decide) ?_
    refine V_aload_n X dX4_value_28 rfl ?_
    refine V_getr X flX4_9 (ltN (by decide) hN) rfl rfl dX4_value_29 ?_
    refine V_iload_n X dX4_value_32 rfl ?_
    refine V_ialdN X (ltN (by decide) hN) rfl (by (have := hq; unfold qOk at this; omega)) (by decide) dX4_value_33 ?_
    exact V_iret X E dX4_value_34 (by unfold vl; first | rfl | (rw [if_neg (by omega), if_neg (by omega), if_neg (by omega)])) rfl
  · refine V_tabIn X 34 35 dX4_value_1 (by decide) (by decide) rfl (by decide) ?_
    refine V_aload_n X dX4_value_35 rfl ?_
    refine V_iload_n X dX4_value_36 rfl ?_
    refine V_cvi X (ltN (by decide) hN) rfl rfl rfl (kX4_thingPlace hN (by have := hq; unfold qOk at this; omega)) cwX4_81 rfl (rm_ok hR (by decide) (by decide)) (Nat.le_of_ble_eq_true rfl) dX4_value_37 ?_
    exact V_iret X E dX4_value_40 (by unfold vl; first | rfl | (rw [if_neg (by omega), if_neg (by omega), if_neg (by omega)])) rfl
  · refine V_tabIn X 40 41 dX4_value_1 (by decide) (by decide) rfl (by decide) ?_
    refine V_aload_n X dX4_value_41 rfl ?_
    refine V_getr X flX4_18 (ltN (by decide) hN) rfl rfl dX4_value_42 ?_
    refine V_iload_n X dX4_value_45 rfl ?_
    refine V_ialdN X (ltN (by decide) hN) rfl (by (have := hq; unfold qOk at this; omega)) (by decide) dX4_value_46 ?_
    exact V_iret X E dX4_value_47 (by unfold vl; first | rfl | (rw [if_neg (by omega), if_neg (by omega), if_neg (by omega)])) rfl
  · refine V_tabOut X 48 dX4_value_1 (Or.inr (by rw [nI_toInt (by (have := hq; unfold qOk at this; omega))]; omega)) (by decide) ?_
    refine V_aload_n X dX4_value_48 rfl ?_
    refine V_iload_n X dX4_value_49 rfl ?_
    refine V_cvi X (ltN (by decide) hN) rfl rfl rfl (kX4_hadThings hN) cwX4_84 rfl (rm_ok hR (by decide) (by decide)) (Nat.le_of_ble_eq_true rfl) dX4_value_50 ?_
    exact V_iret X E dX4_value_53 (by unfold vl; first | rfl | (rw [if_neg (by omega), if_neg (by omega), if_neg (by omega)])) rfl

set_option maxRecDepth 100000 in
set_option maxHeartbeats 4000000 in
theorem kX4_basis {G : Cx} {S : Sx} (hN : 80 ≤ gN G) {k a : Nat} (hq : qOk k a) : CT G (3) yX4_basis cX4_basis 3 (some .int) [ra G 7, .int (nI k), .int (nI a)] S (bs S k a) (S) := by
  refine CT_of (by decide) (Nat.le_of_ble_eq_true rfl) (by intro v hv; simp only [List.mem_cons, List.not_mem_nil, or_false] at hv; rcases hv with rfl | rfl | rfl <;> rfl) (fun F X E => ?_)
  have hR := RI_R E
  refine V_iload_n X dX4_basis_0 rfl ?_
  rcases (show k = 0 ∨ k = 1 ∨ k = 2 ∨ 2 < k by omega) with rfl | rfl | rfl | h1
  · refine V_tabIn X 27 28 dX4_basis_1 (by decide) (by decide) rfl (by decide) ?_
    refine V_aload_n X dX4_basis_28 rfl ?_
    refine V_getr X flX4_15 (ltN (by decide) hN) rfl rfl dX4_basis_29 ?_
    refine V_iload_n X dX4_basis_32 rfl ?_
    refine V_ialdN X (ltN (by decide) hN) rfl (by (have := hq; unfold qOk at this; omega)) (by decide) dX4_basis_33 ?_
    exact V_iret X E dX4_basis_34 (by unfold bs; first | rfl | (rw [if_neg (by omega), if_neg (by omega), if_neg (by omega)])) rfl
  · refine V_tabIn X 34 35 dX4_basis_1 (by decide) (by decide) rfl (by decide) ?_
    refine V_aload_n X dX4_basis_35 rfl ?_
    refine V_iload_n X dX4_basis_36 rfl ?_
    refine V_cvi X (ltN (by decide) hN) rfl rfl rfl (kX4_thingPlaceBasis hN (by have := hq; unfold qOk at this; omega)) cwX4_91 rfl (rm_ok hR (by decide) (by decide)) (Nat.le_of_ble_eq_true rfl) dX4_basis_37 ?_
    exact V_iret X E dX4_basis_40 (by unfold bs; first | rfl | (rw [if_neg (by omega), if_neg (by omega), if_neg (by omega)])) rfl
  · refine V_tabIn X 40 41 dX4_basis_1 (by decide) (by decide) rfl (by decide) ?_
    refine V_aload_n X dX4_basis_41 rfl ?_
    refine V_getr X flX4_21 (ltN (by decide) hN) rfl rfl dX4_basis_42 ?_
    refine V_iload_n X dX4_basis_45 rfl ?_
    refine V_ialdN X (ltN (by decide) hN) rfl (by (have := hq; unfold qOk at this; omega)) (by decide) dX4_basis_46 ?_
    exact V_iret X E dX4_basis_47 (by unfold bs; first | rfl | (rw [if_neg (by omega), if_neg (by omega), if_neg (by omega)])) rfl
  · refine V_tabOut X 48 dX4_basis_1 (Or.inr (by rw [nI_toInt (by (have := hq; unfold qOk at this; omega))]; omega)) (by decide) ?_
    refine V_aload_n X dX4_basis_48 rfl ?_
    refine V_iload_n X dX4_basis_49 rfl ?_
    refine V_cvi X (ltN (by decide) hN) rfl rfl rfl (kX4_hadThingsBasis hN) cwX4_94 rfl (rm_ok hR (by decide) (by decide)) (Nat.le_of_ble_eq_true rfl) dX4_basis_50 ?_
    exact V_iret X E dX4_basis_53 (by unfold bs; first | rfl | (rw [if_neg (by omega), if_neg (by omega), if_neg (by omega)])) rfl

abbrev mhP (S : Sx) (x : Int32) (t : Nat) : Prop := S 10 t = -2 ∨ S 10 t = x
abbrev opP (x y : Int32) : Prop := x = -2 ∨ y = -2 ∨ x = y
abbrev atP (S : Sx) (a t : Nat) : Prop := (S 10 t = nI 9 ∧ opP (S 12 t) (S 8 a)) ∨ (S 10 t ≠ nI 9 ∧ mhP S (nI a) t)
abbrev agP (S : Sx) (a t b : Nat) : Prop := b ≠ a ∧ mhP S (nI a) t ∧ opP (S 8 a) (S 8 b)

set_option maxRecDepth 100000 in
set_option maxHeartbeats 4000000 in
theorem kX4_mayHave {G : Cx} {S : Sx} (hN : 80 ≤ gN G) {x : Int32} {t : Nat} (ht : t < 10) : CT G (0) yX4_mayHave cX4_mayHave 3 (some .boolean) [ra G 7, .int x, .int (nI t)] S (bi (mhP S x t)) (S) := by
  refine CT_of (by decide) (Nat.le_of_ble_eq_true rfl) (by intro v hv; simp only [List.mem_cons, List.not_mem_nil, or_false] at hv; rcases hv with rfl | rfl | rfl <;> rfl) (fun F X E => ?_)
  have hR := RI_R E
  refine V_aload_n X dX4_mayHave_0 rfl ?_
  refine V_getr X flX4_18 (ltN (by decide) hN) rfl rfl dX4_mayHave_1 ?_
  refine V_iload_n X dX4_mayHave_4 rfl ?_
  refine V_ialdN X (ltN (by decide) hN) rfl (by omega) (by decide) dX4_mayHave_5 ?_
  refine V_bipush X (-2) dX4_mayHave_6 (by decide) ?_
  refine V_icmp_eq X 21 dX4_mayHave_8 (by decide) (fun h8 => ?_) (fun h8 => ?_)
  · refine V_iconst X (nI 1) dX4_mayHave_21 (by decide) ?_
    refine V_goto X 26 dX4_mayHave_22 (by decide) ?_
    exact V_zret X E dX4_mayHave_26 (by first | exact Or.inl rfl | exact Or.inr rfl | exact bi_01 _) (by first | exact bi_t (Or.inl h8) | exact bi_t (Or.inr (ts_nn h18)) | exact bi_f (fun q => q.elim h8 h18)) rfl
  · refine V_aload_n X dX4_mayHave_11 rfl ?_
    refine V_getr X flX4_18 (ltN (by decide) hN) rfl rfl dX4_mayHave_12 ?_
    refine V_iload_n X dX4_mayHave_15 rfl ?_
    refine V_ialdN X (ltN (by decide) hN) rfl (by omega) (by decide) dX4_mayHave_16 ?_
    refine V_iload_n X dX4_mayHave_17 rfl ?_
    refine V_icmp_ne X 25 dX4_mayHave_18 (by decide) (fun h18 => ?_) (fun h18 => ?_)
    · refine V_iconst X (nI 0) dX4_mayHave_25 (by decide) ?_
      exact V_zret X E dX4_mayHave_26 (by first | exact Or.inl rfl | exact Or.inr rfl | exact bi_01 _) (by first | exact bi_t (Or.inl h8) | exact bi_t (Or.inr (ts_nn h18)) | exact bi_f (fun q => q.elim h8 h18)) rfl
    · refine V_iconst X (nI 1) dX4_mayHave_21 (by decide) ?_
      refine V_goto X 26 dX4_mayHave_22 (by decide) ?_
      exact V_zret X E dX4_mayHave_26 (by first | exact Or.inl rfl | exact Or.inr rfl | exact bi_01 _) (by first | exact bi_t (Or.inl h8) | exact bi_t (Or.inr (ts_nn h18)) | exact bi_f (fun q => q.elim h8 h18)) rfl

set_option maxRecDepth 100000 in
set_option maxHeartbeats 4000000 in
theorem kX4_mayBeOnePlace {G : Cx} {S : Sx}  {x y : Int32} : CT G (0) yX4_mayBeOnePlace cX4_mayBeOnePlace 2 (some .boolean) [.int x, .int y] S (bi (opP x y)) (S) := by
  refine CT_of (by decide) (Nat.le_of_ble_eq_true rfl) (by intro v hv; simp only [List.mem_cons, List.not_mem_nil, or_false] at hv; rcases hv with rfl | rfl <;> rfl) (fun F X E => ?_)
  have hR := RI_R E
  refine V_iload_n X dX4_mayBeOnePlace_0 rfl ?_
  refine V_bipush X (-2) dX4_mayBeOnePlace_1 (by decide) ?_
  refine V_icmp_eq X 17 dX4_mayBeOnePlace_3 (by decide) (fun h3 => ?_) (fun h3 => ?_)
  · refine V_iconst X (nI 1) dX4_mayBeOnePlace_17 (by decide) ?_
    refine V_goto X 22 dX4_mayBeOnePlace_18 (by decide) ?_
    exact V_zret X E dX4_mayBeOnePlace_22 (by first | exact Or.inl rfl | exact Or.inr rfl | exact bi_01 _) (by first | exact bi_t (Or.inl h3) | exact bi_t (Or.inr (Or.inl h9)) | exact bi_t (Or.inr (Or.inr (ts_nn h14))) | exact bi_f (fun q => q.elim h3 (fun q => q.elim h9 h14))) rfl
  · refine V_iload_n X dX4_mayBeOnePlace_6 rfl ?_
    refine V_bipush X (-2) dX4_mayBeOnePlace_7 (by decide) ?_
    refine V_icmp_eq X 17 dX4_mayBeOnePlace_9 (by decide) (fun h9 => ?_) (fun h9 => ?_)
    · refine V_iconst X (nI 1) dX4_mayBeOnePlace_17 (by decide) ?_
      refine V_goto X 22 dX4_mayBeOnePlace_18 (by decide) ?_
      exact V_zret X E dX4_mayBeOnePlace_22 (by first | exact Or.inl rfl | exact Or.inr rfl | exact bi_01 _) (by first | exact bi_t (Or.inl h3) | exact bi_t (Or.inr (Or.inl h9)) | exact bi_t (Or.inr (Or.inr (ts_nn h14))) | exact bi_f (fun q => q.elim h3 (fun q => q.elim h9 h14))) rfl
    · refine V_iload_n X dX4_mayBeOnePlace_12 rfl ?_
      refine V_iload_n X dX4_mayBeOnePlace_13 rfl ?_
      refine V_icmp_ne X 21 dX4_mayBeOnePlace_14 (by decide) (fun h14 => ?_) (fun h14 => ?_)
      · refine V_iconst X (nI 0) dX4_mayBeOnePlace_21 (by decide) ?_
        exact V_zret X E dX4_mayBeOnePlace_22 (by first | exact Or.inl rfl | exact Or.inr rfl | exact bi_01 _) (by first | exact bi_t (Or.inl h3) | exact bi_t (Or.inr (Or.inl h9)) | exact bi_t (Or.inr (Or.inr (ts_nn h14))) | exact bi_f (fun q => q.elim h3 (fun q => q.elim h9 h14))) rfl
      · refine V_iconst X (nI 1) dX4_mayBeOnePlace_17 (by decide) ?_
        refine V_goto X 22 dX4_mayBeOnePlace_18 (by decide) ?_
        exact V_zret X E dX4_mayBeOnePlace_22 (by first | exact Or.inl rfl | exact Or.inr rfl | exact bi_01 _) (by first | exact bi_t (Or.inl h3) | exact bi_t (Or.inr (Or.inl h9)) | exact bi_t (Or.inr (Or.inr (ts_nn h14))) | exact bi_f (fun q => q.elim h3 (fun q => q.elim h9 h14))) rfl

set_option maxRecDepth 100000 in
set_option maxHeartbeats 4000000 in
theorem kX4_allowsTaking {G : Cx} {S : Sx} (hN : 80 ≤ gN G) {a t : Nat} (ha : a < 8) (ht : t < 10) : CT G (1) yX4_allowsTaking cX4_allowsTaking 3 (some .boolean) [ra G 7, .int (nI a), .int (nI t)] S (bi (atP S a t)) (S) := by
  refine CT_of (by decide) (Nat.le_of_ble_eq_true rfl) (by intro v hv; simp only [List.mem_cons, List.not_mem_nil, or_false] at hv; rcases hv with rfl | rfl | rfl <;> rfl) (fun F X E => ?_)
  have hR := RI_R E
  refine V_aload_n X dX4_allowsTaking_0 rfl ?_
  refine V_getr X flX4_18 (ltN (by decide) hN) rfl rfl dX4_allowsTaking_1 ?_
  refine V_iload_n X dX4_allowsTaking_4 rfl ?_
  refine V_ialdN X (ltN (by decide) hN) rfl (by omega) (by decide) dX4_allowsTaking_5 ?_
  refine V_bipush X (nI 9) dX4_allowsTaking_6 (by decide) ?_
  refine V_icmp_ne X 27 dX4_allowsTaking_8 (by decide) (fun h8 => ?_) (fun h8 => ?_)
  · refine V_aload_n X dX4_allowsTaking_27 rfl ?_
    refine V_iload_n X dX4_allowsTaking_28 rfl ?_
    refine V_iload_n X dX4_allowsTaking_29 rfl ?_
    refine V_cvi X (ltN (by decide) hN) rfl rfl rfl (kX4_mayHave hN (by omega)) cwX4_54 rfl (rm_ok hR (by decide) (by decide)) (Nat.le_of_ble_eq_true rfl) dX4_allowsTaking_30 ?_
    exact V_zret X E dX4_allowsTaking_33 (by first | exact Or.inl rfl | exact Or.inr rfl | exact bi_01 _) (by first | exact bi_congr ⟨fun q => Or.inl ⟨ts_nn h8, q⟩, fun q => q.elim (fun z => z.2) (fun z => absurd (ts_nn h8) z.1)⟩ | exact bi_congr ⟨fun q => Or.inr ⟨h8, q⟩, fun q => q.elim (fun z => absurd z.1 h8) (fun z => z.2)⟩) rfl
  · refine V_aload_n X dX4_allowsTaking_11 rfl ?_
    refine V_getr X flX4_24 (ltN (by decide) hN) rfl rfl dX4_allowsTaking_12 ?_
    refine V_iload_n X dX4_allowsTaking_15 rfl ?_
    refine V_ialdN X (ltN (by decide) hN) rfl (by omega) (by decide) dX4_allowsTaking_16 ?_
    refine V_aload_n X dX4_allowsTaking_17 rfl ?_
    refine V_getr X flX4_9 (ltN (by decide) hN) rfl rfl dX4_allowsTaking_18 ?_
    refine V_iload_n X dX4_allowsTaking_21 rfl ?_
    refine V_ialdN X (ltN (by decide) hN) rfl (by omega) (by decide) dX4_allowsTaking_22 ?_
    refine V_csi X (kX4_mayBeOnePlace ) cwX4_61 rfl (rm_ok hR (by decide) (by decide)) (Nat.le_of_ble_eq_true rfl) dX4_allowsTaking_23 ?_
    exact V_zret X E dX4_allowsTaking_26 (by first | exact Or.inl rfl | exact Or.inr rfl | exact bi_01 _) (by first | exact bi_congr ⟨fun q => Or.inl ⟨ts_nn h8, q⟩, fun q => q.elim (fun z => z.2) (fun z => absurd (ts_nn h8) z.1)⟩ | exact bi_congr ⟨fun q => Or.inr ⟨h8, q⟩, fun q => q.elim (fun z => absurd z.1 h8) (fun z => z.2)⟩) rfl

set_option maxRecDepth 100000 in
set_option maxHeartbeats 4000000 in
theorem kX4_allowsGiving {G : Cx} {S : Sx} (hN : 80 ≤ gN G) {a t b : Nat} (ha : a < 8) (ht : t < 10) (hb : b < 8) : CT G (1) yX4_allowsGiving cX4_allowsGiving 4 (some .boolean) [ra G 7, .int (nI a), .int (nI t), .int (nI b)] S (bi (agP S a t b)) (S) := by
  refine CT_of (by decide) (Nat.le_of_ble_eq_true rfl) (by intro v hv; simp only [List.mem_cons, List.not_mem_nil, or_false] at hv; rcases hv with rfl | rfl | rfl | rfl <;> rfl) (fun F X E => ?_)
  have hR := RI_R E
  refine V_iload_n X dX4_allowsGiving_0 rfl ?_
  refine V_iconst X (-1) dX4_allowsGiving_1 (by decide) ?_
  refine V_icmp_eq X 10 dX4_allowsGiving_2 (by decide) (fun h2 => ?_) (fun h2 => ?_)
  · exact absurd h2 (m1_ne (by omega))
  · refine V_iload_n X dX4_allowsGiving_5 rfl ?_
    refine V_iload_n X dX4_allowsGiving_6 rfl ?_
    refine V_cN_ne X 12 (by omega) (by omega) dX4_allowsGiving_7 (by decide) (fun h7 => ?_) (fun h7 => ?_)
    · refine V_aload_n X dX4_allowsGiving_12 rfl ?_
      refine V_iload_n X dX4_allowsGiving_13 rfl ?_
      refine V_iload_n X dX4_allowsGiving_14 rfl ?_
      refine V_cvi X (ltN (by decide) hN) rfl rfl rfl (kX4_mayHave hN (by omega)) cwX4_54 rfl (rm_ok hR (by decide) (by decide)) (Nat.le_of_ble_eq_true rfl) dX4_allowsGiving_15 ?_
      refine V_if_eq X 43 dX4_allowsGiving_18 (by decide) (fun h18 => ?_) (fun h18 => ?_)
      · refine V_iconst X (nI 0) dX4_allowsGiving_43 (by decide) ?_
        exact V_zret X E dX4_allowsGiving_44 (by first | exact Or.inl rfl | exact Or.inr rfl | exact bi_01 _) (by first | exact bi_t ⟨h7, bi_ne.mp h18, bi_ne.mp h36⟩ | exact bi_f (fun q => bi_eq.mp h36 q.2.2) | exact bi_f (fun q => bi_eq.mp h18 q.2.1) | exact bi_f (fun q => q.1 h7)) rfl
      · refine V_aload_n X dX4_allowsGiving_21 rfl ?_
        refine V_getr X flX4_9 (ltN (by decide) hN) rfl rfl dX4_allowsGiving_22 ?_
        refine V_iload_n X dX4_allowsGiving_25 rfl ?_
        refine V_ialdN X (ltN (by decide) hN) rfl (by omega) (by decide) dX4_allowsGiving_26 ?_
        refine V_aload_n X dX4_allowsGiving_27 rfl ?_
        refine V_getr X flX4_9 (ltN (by decide) hN) rfl rfl dX4_allowsGiving_28 ?_
        refine V_iload_n X dX4_allowsGiving_31 rfl ?_
        refine V_ialdN X (ltN (by decide) hN) rfl (by omega) (by decide) dX4_allowsGiving_32 ?_
        refine V_csi X (kX4_mayBeOnePlace ) cwX4_61 rfl (rm_ok hR (by decide) (by decide)) (Nat.le_of_ble_eq_true rfl) dX4_allowsGiving_33 ?_
        refine V_if_eq X 43 dX4_allowsGiving_36 (by decide) (fun h36 => ?_) (fun h36 => ?_)
        · refine V_iconst X (nI 0) dX4_allowsGiving_43 (by decide) ?_
          exact V_zret X E dX4_allowsGiving_44 (by first | exact Or.inl rfl | exact Or.inr rfl | exact bi_01 _) (by first | exact bi_t ⟨h7, bi_ne.mp h18, bi_ne.mp h36⟩ | exact bi_f (fun q => bi_eq.mp h36 q.2.2) | exact bi_f (fun q => bi_eq.mp h18 q.2.1) | exact bi_f (fun q => q.1 h7)) rfl
        · refine V_iconst X (nI 1) dX4_allowsGiving_39 (by decide) ?_
          refine V_goto X 44 dX4_allowsGiving_40 (by decide) ?_
          exact V_zret X E dX4_allowsGiving_44 (by first | exact Or.inl rfl | exact Or.inr rfl | exact bi_01 _) (by first | exact bi_t ⟨h7, bi_ne.mp h18, bi_ne.mp h36⟩ | exact bi_f (fun q => bi_eq.mp h36 q.2.2) | exact bi_f (fun q => bi_eq.mp h18 q.2.1) | exact bi_f (fun q => q.1 h7)) rfl
    · refine V_iconst X (nI 0) dX4_allowsGiving_10 (by decide) ?_
      exact V_zret X E dX4_allowsGiving_11 (by first | exact Or.inl rfl | exact Or.inr rfl | exact bi_01 _) (by first | exact bi_t ⟨h7, bi_ne.mp h18, bi_ne.mp h36⟩ | exact bi_f (fun q => bi_eq.mp h36 q.2.2) | exact bi_f (fun q => bi_eq.mp h18 q.2.1) | exact bi_f (fun q => q.1 h7)) rfl

set_option maxRecDepth 100000 in
set_option maxHeartbeats 4000000 in
theorem kX4_allowsGivingN {G : Cx} {S : Sx} (hN : 80 ≤ gN G) {x y : Int32} : CT G (1) yX4_allowsGiving cX4_allowsGiving 4 (some .boolean) [ra G 7, .int x, .int y, .int (-1)] S (nI 0) (S) := by
  refine CT_of (by decide) (Nat.le_of_ble_eq_true rfl) (by intro v hv; simp only [List.mem_cons, List.not_mem_nil, or_false] at hv; rcases hv with rfl | rfl | rfl | rfl <;> rfl) (fun F X E => ?_)
  have hR := RI_R E
  refine V_iload_n X dX4_allowsGiving_0 rfl ?_
  refine V_iconst X (-1) dX4_allowsGiving_1 (by decide) ?_
  refine V_icmp_eq X 10 dX4_allowsGiving_2 (by decide) (fun h2 => ?_) (fun h2 => ?_)
  · refine V_iconst X (nI 0) dX4_allowsGiving_10 (by decide) ?_
    exact V_zret X E dX4_allowsGiving_11 (by first | exact Or.inl rfl | exact Or.inr rfl | exact bi_01 _) rfl rfl
  · exact absurd rfl h2

/-- does the sentence hold by the choices -/
def alF (S : Sx) (s : Nat) (c : Int32) : Int32 :=
  if pp S s 0 c = -1 then nI 0
  else if S 2 (s * 5 + 1) = nI 31 then bi (atP S (pp S s 0 c).toNatClampNeg (S 2 (s * 5 + 2) - nI 10).toNatClampNeg)
  else if S 2 (s * 5 + 1) = nI 32 then bi (mhP S (pp S s 0 c) (S 2 (s * 5 + 2) - nI 10).toNatClampNeg)
  else if S 2 (s * 5 + 1) = nI 33 then (if pp S s 1 c = -1 then nI 0 else bi (agP S (pp S s 0 c).toNatClampNeg (S 2 (s * 5 + 2) - nI 10).toNatClampNeg (pp S s 1 c).toNatClampNeg))
  else nI 1
theorem alF_n {S : Sx} {s : Nat} {c : Int32} (h : pp S s 0 c = -1) : nI 0 = alF S s c := by unfold alF; rw [if_pos h]
theorem alF_31 {S : Sx} {s a t : Nat} {c : Int32} (ha : a < 8) (ht : t < 10) (h : pp S s 0 c = nI a) (hv : S 2 (s * 5 + 1) = nI 31) (et : S 2 (s * 5 + 2) - nI 10 = nI t) : bi (atP S a t) = alF S s c := by
  unfold alF; rw [if_neg (by rw [h]; exact m1_ne (by omega)), if_pos hv, h, et]; rw [nI_clamp (show a < 2 ^ 31 by omega), nI_clamp (show t < 2 ^ 31 by omega)]
theorem alF_32 {S : Sx} {s a t : Nat} {c : Int32} (ha : a < 8) (ht : t < 10) (h : pp S s 0 c = nI a) (hv : S 2 (s * 5 + 1) = nI 32) (et : S 2 (s * 5 + 2) - nI 10 = nI t) : bi (mhP S (nI a) t) = alF S s c := by
  unfold alF; rw [if_neg (by rw [h]; exact m1_ne (by omega)), if_neg (by rw [hv]; decide), if_pos hv, h, et]; rw [nI_clamp (show t < 2 ^ 31 by omega)]
theorem alF_33 {S : Sx} {s a t b : Nat} {c : Int32} (ha : a < 8) (ht : t < 10) (hb : b < 8) (h : pp S s 0 c = nI a) (hv : S 2 (s * 5 + 1) = nI 33) (et : S 2 (s * 5 + 2) - nI 10 = nI t) (h2 : pp S s 1 c = nI b) : bi (agP S a t b) = alF S s c := by
  unfold alF; rw [if_neg (by rw [h]; exact m1_ne (by omega)), if_neg (by rw [hv]; decide), if_neg (by rw [hv]; decide), if_pos hv, if_neg (by rw [h2]; exact m1_ne (by omega)), h, et, h2]; rw [nI_clamp (show a < 2 ^ 31 by omega), nI_clamp (show t < 2 ^ 31 by omega), nI_clamp (show b < 2 ^ 31 by omega)]
theorem alF_33n {S : Sx} {s a : Nat} {c : Int32} (ha : a < 8) (h : pp S s 0 c = nI a) (hv : S 2 (s * 5 + 1) = nI 33) (h2 : pp S s 1 c = -1) : nI 0 = alF S s c := by
  unfold alF; rw [if_neg (by rw [h]; exact m1_ne (by omega)), if_neg (by rw [hv]; decide), if_neg (by rw [hv]; decide), if_pos hv, if_pos h2]
theorem alF_30 {S : Sx} {s a : Nat} {c : Int32} (ha : a < 8) (h : pp S s 0 c = nI a) (hv : S 2 (s * 5 + 1) = nI 30) : nI 1 = alF S s c := by
  unfold alF; rw [if_neg (by rw [h]; exact m1_ne (by omega)), if_neg (by rw [hv]; decide), if_neg (by rw [hv]; decide), if_neg (by rw [hv]; decide)]

set_option maxRecDepth 100000 in
set_option maxHeartbeats 4000000 in
theorem kX4_allows {G : Cx} {S : Sx} (hN : 80 ≤ gN G) {s : Nat} {c : Int32} (hs : s < 14) (ok : okS S s) : CT G 3 yX4_allows cX4_allows 6 (some .boolean) [ra G 7, ra G 1, .int (nI s), .int c] S (alF S s c) S := by
  refine CT_of (by decide) (Nat.le_of_ble_eq_true rfl) (by intro v hv; simp only [List.mem_cons, List.not_mem_nil, or_false] at hv; rcases hv with rfl | rfl | rfl | rfl <;> rfl) (fun F X E => ?_)
  have hR := RI_R E
  refine V_aload_n X dX4_allows_0 rfl ?_
  refine V_iload_n X dX4_allows_1 rfl ?_
  refine V_iconst X (nI 0) dX4_allows_2 (by decide) ?_
  refine V_iload_n X dX4_allows_3 rfl ?_
  refine V_cvi X (ltN (by decide) hN) rfl rfl rfl (kX2_person hN (by omega) (by omega)) cwX4_37 rfl (rm_ok hR (by decide) (by decide)) (Nat.le_of_ble_eq_true rfl) dX4_allows_4 ?_
  refine V_istore X dX4_allows_7 (by rw [hR.2]; decide) ?_
  refine V_iload X dX4_allows_9 rfl ?_
  refine V_iconst X (-1) dX4_allows_11 (by decide) ?_
  refine V_icmp_ne X 17 dX4_allows_12 (by decide) (fun h12 => ?_) (fun h12 => ?_)
  · rcases prs_ok (c := c) (t := 2 * s + 0) ok.1 with e0 | ⟨a, ha, e0⟩
    · exact absurd e0 h12
    rw [e0]
    refine V_aload_n X dX4_allows_17 rfl ?_
    refine V_iload_n X dX4_allows_18 rfl ?_
    refine V_cvi X (ltN (by decide) hN) rfl rfl rfl (kX2_object hN (by omega)) cwX4_43 rfl (rm_ok hR (by decide) (by decide)) (Nat.le_of_ble_eq_true rfl) dX4_allows_19 ?_
    refine V_bipush X (nI 10) dX4_allows_22 (by decide) ?_
    refine V_isub X dX4_allows_24 ?_
    refine V_istore X dX4_allows_25 (by rw [hR.2]; decide) ?_
    refine V_aload_n X dX4_allows_27 rfl ?_
    refine V_iload_n X dX4_allows_28 rfl ?_
    refine V_cvi X (ltN (by decide) hN) rfl rfl rfl (kX2_verb hN (by omega)) cwX4_47 rfl (rm_ok hR (by decide) (by decide)) (Nat.le_of_ble_eq_true rfl) dX4_allows_29 ?_
    rcases sw31_3 (S 2 (s * 5 + 1)) with h32 | h32 | h32 | h32
    · refine V_tabIn X 28 60 dX4_allows_32 (by rw [h32]; decide) (by rw [h32]; decide) (by rw [h32]; rfl) (by decide) ?_
      obtain ⟨t, ht, et⟩ := okS_T ok h32 (by decide) (by decide)
      rw [et]
      refine V_aload_n X dX4_allows_60 rfl ?_
      refine V_iload X dX4_allows_61 rfl ?_
      refine V_iload X dX4_allows_63 rfl ?_
      refine V_cvi X (ltN (by decide) hN) rfl rfl rfl (kX4_allowsTaking hN ha ht) cwX4_50 rfl (rm_ok hR (by decide) (by decide)) (Nat.le_of_ble_eq_true rfl) dX4_allows_65 ?_
      exact V_zret X E dX4_allows_68 (by first | exact Or.inl rfl | exact Or.inr rfl | exact bi_01 _) (alF_31 ha ht e0 h32 et) rfl
    · refine V_tabIn X 37 69 dX4_allows_32 (by rw [h32]; decide) (by rw [h32]; decide) (by rw [h32]; rfl) (by decide) ?_
      obtain ⟨t, ht, et⟩ := okS_T ok h32 (by decide) (by decide)
      rw [et]
      refine V_aload_n X dX4_allows_69 rfl ?_
      refine V_iload X dX4_allows_70 rfl ?_
      refine V_iload X dX4_allows_72 rfl ?_
      refine V_cvi X (ltN (by decide) hN) rfl rfl rfl (kX4_mayHave hN ht) cwX4_54 rfl (rm_ok hR (by decide) (by decide)) (Nat.le_of_ble_eq_true rfl) dX4_allows_74 ?_
      exact V_zret X E dX4_allows_77 (by first | exact Or.inl rfl | exact Or.inr rfl | exact bi_01 _) (alF_32 ha ht e0 h32 et) rfl
    · refine V_tabIn X 46 78 dX4_allows_32 (by rw [h32]; decide) (by rw [h32]; decide) (by rw [h32]; rfl) (by decide) ?_
      obtain ⟨t, ht, et⟩ := okS_T ok h32 (by decide) (by decide)
      rw [et]
      refine V_aload_n X dX4_allows_78 rfl ?_
      refine V_iload X dX4_allows_79 rfl ?_
      refine V_iload X dX4_allows_81 rfl ?_
      refine V_aload_n X dX4_allows_83 rfl ?_
      refine V_iload_n X dX4_allows_84 rfl ?_
      refine V_iconst X (nI 1) dX4_allows_85 (by decide) ?_
      refine V_iload_n X dX4_allows_86 rfl ?_
      refine V_cvi X (ltN (by decide) hN) rfl rfl rfl (kX2_person hN (by omega) (by omega)) cwX4_37 rfl (rm_ok hR (by decide) (by decide)) (Nat.le_of_ble_eq_true rfl) dX4_allows_87 ?_
      rcases prs_ok (c := c) (t := 2 * s + 1) ok.2.1 with e1 | ⟨b, hb, e1⟩
      · rw [e1]
        refine V_cvi X (ltN (by decide) hN) rfl rfl rfl (kX4_allowsGivingN hN) cwX4_57 rfl (rm_ok hR (by decide) (by decide)) (Nat.le_of_ble_eq_true rfl) dX4_allows_90 ?_
        exact V_zret X E dX4_allows_93 (by first | exact Or.inl rfl | exact Or.inr rfl | exact bi_01 _) (alF_33n ha e0 h32 e1) rfl
      · rw [e1]
        refine V_cvi X (ltN (by decide) hN) rfl rfl rfl (kX4_allowsGiving hN ha ht hb) cwX4_57 rfl (rm_ok hR (by decide) (by decide)) (Nat.le_of_ble_eq_true rfl) dX4_allows_90 ?_
        exact V_zret X E dX4_allows_93 (by first | exact Or.inl rfl | exact Or.inr rfl | exact bi_01 _) (alF_33 ha ht hb e0 h32 et e1) rfl
    · refine V_tabOut X 94 dX4_allows_32 h32 (by decide) ?_
      refine V_iconst X (nI 1) dX4_allows_94 (by decide) ?_
      exact V_zret X E dX4_allows_95 (by first | exact Or.inl rfl | exact Or.inr rfl | exact bi_01 _) (alF_30 ha e0 (okS_30 ok h32)) rfl
  · refine V_iconst X (nI 0) dX4_allows_15 (by decide) ?_
    exact V_zret X E dX4_allows_16 (by first | exact Or.inl rfl | exact Or.inr rfl | exact bi_01 _) (alF_n (ts_nn h12)) rfl

set_option maxRecDepth 100000 in
set_option maxHeartbeats 4000000 in
theorem kX4_forgetAll {G : Cx} {S : Sx} (hN : 80 ≤ gN G)  : CV G (0) yX4_forgetAll cX4_forgetAll 2 [ra G 7] S (clr S) := by
  refine CV_of (by decide) (Nat.le_of_ble_eq_true rfl) (by intro v hv; simp only [List.mem_cons, List.not_mem_nil, or_false] at hv; rcases hv with rfl <;> rfl) (fun F X E => ?_)
  have hR := RV_R E
  have loop2 : ∀ (S1 : Sx), S1 = clA S 8 → ∀ (k i : Nat) (S2 : Sx), i ≤ 10 → 10 - i < k → S2 = clB S1 i → V F G S2 31 [some (ra G 7), some (.int (nI i))] [] := by
    intro S1 e1 k
    induction k with
    | zero => intro i S2 h1 h2; omega
    | succ k ih =>
      intro i S2 h1 h2 hs
      refine V_iload_n X dX4_forgetAll_31 rfl ?_
      refine V_bipush X (nI 10) dX4_forgetAll_32 (by decide) ?_
      refine V_cN_ge X 73 (by omega) (by omega) dX4_forgetAll_34 (by decide) (fun h34 => ?_) (fun h34 => ?_)
      · exact V_vret X E dX4_forgetAll_73 (by rw [hs, show i = 10 by omega, e1]; rfl)
      · refine V_aload_n X dX4_forgetAll_37 rfl ?_
        refine V_getr X flX4_18 (ltN (by decide) hN) rfl rfl dX4_forgetAll_38 ?_
        refine V_iload_n X dX4_forgetAll_41 rfl ?_
        refine V_bipush X (-2) dX4_forgetAll_42 (by decide) ?_
        refine V_iastN X (ltN (by decide) hN) rfl (by omega) (by decide) dX4_forgetAll_44 ?_
        refine V_aload_n X dX4_forgetAll_45 rfl ?_
        refine V_getr X flX4_21 (ltN (by decide) hN) rfl rfl dX4_forgetAll_46 ?_
        refine V_iload_n X dX4_forgetAll_49 rfl ?_
        refine V_iconst X (nI 0) dX4_forgetAll_50 (by decide) ?_
        refine V_iastN X (ltN (by decide) hN) rfl (by omega) (by decide) dX4_forgetAll_51 ?_
        refine V_aload_n X dX4_forgetAll_52 rfl ?_
        refine V_getr X flX4_24 (ltN (by decide) hN) rfl rfl dX4_forgetAll_53 ?_
        refine V_iload_n X dX4_forgetAll_56 rfl ?_
        refine V_bipush X (-2) dX4_forgetAll_57 (by decide) ?_
        refine V_iastN X (ltN (by decide) hN) rfl (by omega) (by decide) dX4_forgetAll_59 ?_
        refine V_aload_n X dX4_forgetAll_60 rfl ?_
        refine V_getr X flX4_27 (ltN (by decide) hN) rfl rfl dX4_forgetAll_61 ?_
        refine V_iload_n X dX4_forgetAll_64 rfl ?_
        refine V_iconst X (nI 0) dX4_forgetAll_65 (by decide) ?_
        refine V_iastN X (ltN (by decide) hN) rfl (by omega) (by decide) dX4_forgetAll_66 ?_
        refine V_iinc X (nI (_ + 1)) dX4_forgetAll_67 (by rw [hR.2]; decide) rfl (nI_add _ 1) ?_
        refine V_goto X 31 dX4_forgetAll_70 (by decide) ?_
        exact ih (i + 1) _ (by omega) (by omega) (by rw [hs, clB_s])
  have loop1 : (∀ S1 : Sx, S1 = clA S 8 → V F G S1 29 [some (ra G 7), some (.int (nI 8))] []) → ∀ (k i : Nat) (S2 : Sx), i ≤ 8 → 8 - i < k → S2 = clA S i → V F G S2 2 [some (ra G 7), some (.int (nI i))] [] := by
    intro kx k
    induction k with
    | zero => intro i S2 h1 h2; omega
    | succ k ih =>
      intro i S2 h1 h2 hs
      refine V_iload_n X dX4_forgetAll_2 rfl ?_
      refine V_bipush X (nI 8) dX4_forgetAll_3 (by decide) ?_
      refine V_cN_ge X 29 (by omega) (by omega) dX4_forgetAll_5 (by decide) (fun h5 => ?_) (fun h5 => ?_)
      · rw [show i = 8 by omega] at hs ⊢
        exact kx _ hs
      · refine V_aload_n X dX4_forgetAll_8 rfl ?_
        refine V_getr X flX4_9 (ltN (by decide) hN) rfl rfl dX4_forgetAll_9 ?_
        refine V_iload_n X dX4_forgetAll_12 rfl ?_
        refine V_bipush X (-2) dX4_forgetAll_13 (by decide) ?_
        refine V_iastN X (ltN (by decide) hN) rfl (by omega) (by decide) dX4_forgetAll_15 ?_
        refine V_aload_n X dX4_forgetAll_16 rfl ?_
        refine V_getr X flX4_15 (ltN (by decide) hN) rfl rfl dX4_forgetAll_17 ?_
        refine V_iload_n X dX4_forgetAll_20 rfl ?_
        refine V_iconst X (nI 0) dX4_forgetAll_21 (by decide) ?_
        refine V_iastN X (ltN (by decide) hN) rfl (by omega) (by decide) dX4_forgetAll_22 ?_
        refine V_iinc X (nI (_ + 1)) dX4_forgetAll_23 (by rw [hR.2]; decide) rfl (nI_add _ 1) ?_
        refine V_goto X 2 dX4_forgetAll_26 (by decide) ?_
        exact ih (i + 1) _ (by omega) (by omega) (by rw [hs, clA_s])
  refine V_iconst X (nI 0) dX4_forgetAll_0 (by decide) ?_
  refine V_istore_n X dX4_forgetAll_1 (by rw [hR.2]; decide) ?_
  refine loop1 (fun S1 e1 => ?_) 9 0 S (by omega) (by omega) (clA_0 S).symm
  refine V_iconst X (nI 0) dX4_forgetAll_29 (by decide) ?_
  refine V_istore_n X dX4_forgetAll_30 (by rw [hR.2]; decide) ?_
  exact loop2 S1 e1 11 0 S1 (by omega) (by omega) (clB_0 S1).symm

