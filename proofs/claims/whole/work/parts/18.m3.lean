/-- one reading's copy: the first i places -/
def cpF (S : Sx) (to r i : Nat) : Sx := fun c j => if c = 84 ∧ to ≤ j ∧ j < to + i then S 83 (104 * r + (j - to)) else S c j
theorem cpF_0 (S : Sx) (to r : Nat) : cpF S to r 0 = S := by funext c j; unfold cpF; rw [if_neg (by omega)]
theorem cpF_ne {S : Sx} {to r i q : Nat} (h : q ≠ 84) : cpF S to r i q = S q := by funext j; unfold cpF; rw [if_neg (by omega)]
theorem cpF_s (S : Sx) (to r i : Nat) : st (cpF S to r i) 84 (to + i) (cpF S to r i 83 (104 * r + i)) = cpF S to r (i + 1) := by
  funext c j
  rw [cpF_ne (by decide)]
  simp only [st_at, cpF]
  by_cases hc : c = 84
  · subst hc
    by_cases hj : j = to + i
    · subst hj; simp
    · have e : (j < to + (i + 1)) = (j < to + i) := propext ⟨fun _ => by omega, fun _ => by omega⟩
      simp [hj, e]
  · simp [hc]
def trP (S : Sx) (r s a : Nat) (b : Int32) (m : Nat) : Sx := st (st (cpF S (104 * m) r 104) 84 (104 * m + 66 + 2 * s) (nI a)) 84 (104 * m + 66 + 2 * s + 1) b
theorem trP_ne {S : Sx} {r s a m q : Nat} {b : Int32} (h : q ≠ 84) : trP S r s a b m q = S q := by unfold trP; rw [st_ne h, st_ne h, cpF_ne h]
/-- the sentence on the reading at 'to' -/
def vbF (S : Sx) (to s a : Nat) (b : Int32) (g : Nat → Int32) : Int32 × Sx :=
  if g (s * 5 + 1) = nI 30 then (nI 1, wkS S to s a (g (s * 5 + 2)))
  else if g (s * 5 + 1) = nI 31 then tkF S to s a (g (s * 5 + 2) - nI 10).toNatClampNeg
  else if g (s * 5 + 1) = nI 32 then dpF S to s a (g (s * 5 + 2) - nI 10).toNatClampNeg
  else gvF S to s a (g (s * 5 + 2) - nI 10).toNatClampNeg b.toNatClampNeg
def trF (S : Sx) (r s a : Nat) (b : Int32) (m : Nat) : Sx :=
  if (vbF (trP S r s a b m) (104 * m) s a b (S 81)).1 = 0 then (vbF (trP S r s a b m) (104 * m) s a b (S 81)).2 else st (vbF (trP S r s a b m) (104 * m) s a b (S 81)).2 80 5 (nI (m + 1))
def trN (S : Sx) (r s a : Nat) (b : Int32) (m : Nat) : Nat := if (vbF (trP S r s a b m) (104 * m) s a b (S 81)).1 = 0 then m else m + 1
/-- what a sentence must be -/
def okM (g : Nat → Int32) (s : Nat) : Prop := (g (s * 5 + 1) = nI 30 ∧ isL (g (s * 5 + 2))) ∨ ((g (s * 5 + 1) = nI 31 ∨ g (s * 5 + 1) = nI 32 ∨ g (s * 5 + 1) = nI 33) ∧ isT (g (s * 5 + 2)))
theorem okM_T {g : Nat → Int32} {s : Nat} (h : okM g s) (h30 : ¬ g (s * 5 + 1) = nI 30) : ∃ t, t < 10 ∧ g (s * 5 + 2) - nI 10 = nI t := by
  rcases h with ⟨h1, -⟩ | ⟨-, h1⟩
  · exact absurd h1 h30
  · exact isT_nat h1
theorem vb_30 {S : Sx} {to s a : Nat} {b : Int32} {g : Nat → Int32} (h : g (s * 5 + 1) = nI 30) : vbF S to s a b g = (nI 1, wkS S to s a (g (s * 5 + 2))) := by unfold vbF; rw [if_pos h]
theorem vb_31 {S : Sx} {to s a t : Nat} {b : Int32} {g : Nat → Int32} (h30 : ¬ g (s * 5 + 1) = nI 30) (h : g (s * 5 + 1) = nI 31) (ht : t < 10) (et : g (s * 5 + 2) - nI 10 = nI t) : vbF S to s a b g = tkF S to s a t := by unfold vbF; rw [if_neg h30, if_pos h, et, nI_clamp (by omega)]
theorem vb_32 {S : Sx} {to s a t : Nat} {b : Int32} {g : Nat → Int32} (h30 : ¬ g (s * 5 + 1) = nI 30) (h31 : ¬ g (s * 5 + 1) = nI 31) (h : g (s * 5 + 1) = nI 32) (ht : t < 10) (et : g (s * 5 + 2) - nI 10 = nI t) : vbF S to s a b g = dpF S to s a t := by unfold vbF; rw [if_neg h30, if_neg h31, if_pos h, et, nI_clamp (by omega)]
theorem vb_33 {S : Sx} {to s a t b : Nat} {g : Nat → Int32} (h30 : ¬ g (s * 5 + 1) = nI 30) (h31 : ¬ g (s * 5 + 1) = nI 31) (h32 : ¬ g (s * 5 + 1) = nI 32) (ht : t < 10) (hb : b < 8) (et : g (s * 5 + 2) - nI 10 = nI t) : vbF S to s a (nI b) g = gvF S to s a t b := by unfold vbF; rw [if_neg h30, if_neg h31, if_neg h32, et, nI_clamp (by omega), nI_clamp (by omega)]
theorem tkF_ne {S : Sx} {to s a t q : Nat} (h : q ≠ 84) : (tkF S to s a t).2 q = S q := by
  have hh : ∀ S : Sx, tkE S to s a t q = S q := fun S => by
    unfold tkE hsS; split
    · rfl
    · rw [st_ne h, st_ne h, st_ne h, st_ne h, st_ne h]
  unfold tkF
  split
  · rfl
  split
  · split
    · show tkE _ _ _ _ _ q = _; rw [hh]; unfold tkA; rw [st_ne h, st_ne h]
    · split
      · exact hh S
      · rfl
  · exact hh S
theorem dpF_ne {S : Sx} {to s a t q : Nat} (h : q ≠ 84) : (dpF S to s a t).2 q = S q := by
  unfold dpF; split
  · rfl
  · show dpE _ _ _ _ _ q = _; unfold dpE dp5 dp3; rw [st_ne h, st_ne h, st_ne h, st_ne h, st_ne h, st_ne h]
theorem gvF_ne {S : Sx} {to s a t b q : Nat} (h : q ≠ 84) : (gvF S to s a t b).2 q = S q := by
  have hh : ∀ S : Sx, hsS S to s b t q = S q := fun S => by unfold hsS; rw [st_ne h, st_ne h, st_ne h, st_ne h, st_ne h]
  have hg : ∀ a b, gvA S to s a b q = S q := fun a b => by unfold gvA; rw [st_ne h, st_ne h]
  unfold gvF
  split
  · rfl
  split
  · split
    · exact hh S
    · exact (hh _).trans (hg _ _)
  split
  · exact (hh _).trans (hg _ _)
  split
  · exact hh S
  · rfl
theorem vbF_ne {S : Sx} {to s a q : Nat} {b : Int32} {g : Nat → Int32} (h : q ≠ 84) : (vbF S to s a b g).2 q = S q := by
  unfold vbF; split
  · show wkS _ _ _ _ _ q = _; unfold wkS; rw [st_ne h, st_ne h]
  split
  · exact tkF_ne h
  split
  · exact dpF_ne h
  · exact gvF_ne h
theorem trF_ne {S : Sx} {r s a m q : Nat} {b : Int32} (h : q ≠ 84) (h2 : q ≠ 80) : trF S r s a b m q = S q := by
  unfold trF; split
  · rw [vbF_ne h, trP_ne h]
  · rw [st_ne h2, vbF_ne h, trP_ne h]
theorem trF_0 {S : Sx} {r s a m j : Nat} {b : Int32} (h : j ≠ 5) : trF S r s a b m 80 j = S 80 j := by
  unfold trF; split
  · rw [vbF_ne (by decide), trP_ne (by decide)]
  · rw [st_at, if_neg (by omega), vbF_ne (by decide), trP_ne (by decide)]
theorem trF_n {S : Sx} {r s a m : Nat} {b : Int32} (h : S 80 5 = nI m) : trF S r s a b m 80 5 = nI (trN S r s a b m) := by
  unfold trF trN; split
  · rw [vbF_ne (by decide), trP_ne (by decide)]; exact h
  · rw [st_at, if_pos ⟨rfl, rfl⟩]
theorem trN_le (S : Sx) (r s a : Nat) (b : Int32) (m : Nat) : trN S r s a b m ≤ m + 1 := by unfold trN; split <;> omega

theorem okM_not {g : Nat → Int32} {s : Nat} (h : okM g s) (h30 : ¬ g (s * 5 + 1) = nI 30) (h31 : ¬ g (s * 5 + 1) = nI 31) (h32 : ¬ g (s * 5 + 1) = nI 32) : g (s * 5 + 1) = nI 33 := by
  rcases h with ⟨h1, -⟩ | ⟨h1 | h1 | h1, -⟩
  · exact absurd h1 h30
  · exact absurd h1 h31
  · exact absurd h1 h32
  · exact h1
set_option maxRecDepth 100000 in
set_option maxHeartbeats 4000000 in
theorem kX6_tries {G : Cx} {S : Sx} (hN : 88 ≤ gN G) {r s a m b : Nat} (hm : S 80 5 = nI m) (hm256 : m < 256) (hr : r < 256) (hs : s < 14) (ha : a < 8) (ok : okM (S 81) s) (hb : b < 8) : CV G 2 yX6_tries cX6_tries 9 [ra G 80, .int (nI r), .int (nI s), .int (nI a), .int (nI b)] S (trF S r s a (nI b) m) := by
  refine CV_of (by decide) (Nat.le_of_ble_eq_true rfl) (by intro v hv; simp only [List.mem_cons, List.not_mem_nil, or_false] at hv; rcases hv with rfl | rfl | rfl | rfl | rfl <;> rfl) (fun F X E => ?_)
  have hR := RV_R E
  have loop : (∀ (S1 : Sx) (u : Option Value), S1 = cpF S (104 * m) r 104 → V F G S1 47 [some (ra G 80), some (.int (nI r)), some (.int (nI s)), some (.int (nI a)), some (.int (nI b)), some (.int (nI (104 * m))), u, none, none] []) → ∀ (f i : Nat) (S1 : Sx), i ≤ 104 → 104 - i < f → S1 = cpF S (104 * m) r i → V F G S1 12 [some (ra G 80), some (.int (nI r)), some (.int (nI s)), some (.int (nI a)), some (.int (nI b)), some (.int (nI (104 * m))), some (.int (nI i)), none, none] [] := by
    intro kx f
    induction f with
    | zero => intro i S1 h1 h2; omega
    | succ f ih =>
      intro i S1 h1 h2 hs
      refine V_iload X dX6_tries_12 rfl ?_
      refine V_bipush X (nI 104) dX6_tries_14 (by decide) ?_
      refine V_cN_ge X 47 (by omega) (by omega) dX6_tries_16 (by decide) (fun h16 => ?_) (fun h16 => ?_)
      · exact kx _ _ (by rw [hs, show i = 104 by omega])
      · refine V_aload_n X dX6_tries_19 rfl ?_
        refine V_getr X flX6_19 (ltN (by decide) hN) rfl rfl dX6_tries_20 ?_
        refine V_iload X dX6_tries_23 rfl ?_
        refine V_iload X dX6_tries_25 rfl ?_
        refine V_addN X dX6_tries_27 ?_
        refine V_aload_n X dX6_tries_28 rfl ?_
        refine V_getr X flX6_16 (ltN (by decide) hN) rfl rfl dX6_tries_29 ?_
        refine V_bipush X (nI 104) dX6_tries_32 (by decide) ?_
        refine V_iload_n X dX6_tries_34 rfl ?_
        refine V_mulN X dX6_tries_35 ?_
        refine V_iload X dX6_tries_36 rfl ?_
        refine V_addN X dX6_tries_38 ?_
        refine V_ialdN X (ltN (by decide) hN) rfl (by omega) (by decide) dX6_tries_39 ?_
        refine V_iastN X (ltN (by decide) hN) rfl (by omega) (by decide) dX6_tries_40 ?_
        refine V_iinc X (nI (_ + 1)) dX6_tries_41 (by rw [hR.2]; decide) rfl (nI_add _ 1) ?_
        refine V_goto X 12 dX6_tries_44 (by decide) ?_
        exact ih (i + 1) _ (by omega) (by omega) (by rw [hs]; exact cpF_s S _ r i)
  refine V_bipush X (nI 104) dX6_tries_0 (by decide) ?_
  refine V_aload_n X dX6_tries_2 rfl ?_
  refine V_geti X flX6_54 (ltN (by decide) hN) rfl rfl dX6_tries_3 ?_
  refine V_top (nI (m)) (hm) ?_
  refine V_mulN X dX6_tries_6 ?_
  refine V_istore X dX6_tries_7 (by rw [hR.2]; decide) ?_
  refine V_iconst X (nI 0) dX6_tries_9 (by decide) ?_
  refine V_istore X dX6_tries_10 (by rw [hR.2]; decide) ?_
  refine loop (fun S1 u e1 => ?_) 105 0 S (by omega) (by omega) (cpF_0 S _ r).symm
  subst e1
  refine V_aload_n X dX6_tries_47 rfl ?_
  refine V_getr X flX6_19 (ltN (by decide) hN) rfl rfl dX6_tries_48 ?_
  refine V_iload X dX6_tries_51 rfl ?_
  refine V_bipush X (nI 66) dX6_tries_53 (by decide) ?_
  refine V_addN X dX6_tries_55 ?_
  refine V_iconst X (nI 2) dX6_tries_56 (by decide) ?_
  refine V_iload_n X dX6_tries_57 rfl ?_
  refine V_mulN X dX6_tries_58 ?_
  refine V_addN X dX6_tries_59 ?_
  refine V_iload_n X dX6_tries_60 rfl ?_
  refine V_iastN X (ltN (by decide) hN) rfl (by omega) (by decide) dX6_tries_61 ?_
  refine V_aload_n X dX6_tries_62 rfl ?_
  refine V_getr X flX6_19 (ltN (by decide) hN) rfl rfl dX6_tries_63 ?_
  refine V_iload X dX6_tries_66 rfl ?_
  refine V_bipush X (nI 66) dX6_tries_68 (by decide) ?_
  refine V_addN X dX6_tries_70 ?_
  refine V_iconst X (nI 2) dX6_tries_71 (by decide) ?_
  refine V_iload_n X dX6_tries_72 rfl ?_
  refine V_mulN X dX6_tries_73 ?_
  refine V_addN X dX6_tries_74 ?_
  refine V_iconst X (nI 1) dX6_tries_75 (by decide) ?_
  refine V_addN X dX6_tries_76 ?_
  refine V_iload X dX6_tries_77 rfl ?_
  refine V_iastN X (ltN (by decide) hN) rfl (by omega) (by decide) dX6_tries_79 ?_
  refine V_aload_n X dX6_tries_80 rfl ?_
  refine V_iload_n X dX6_tries_81 rfl ?_
  refine V_iconst X (nI 2) dX6_tries_82 (by decide) ?_
  refine V_cvi X (ltN (by decide) hN) rfl rfl rfl (kX6_signAt hN (by omega) (by omega)) cwX6_39 rfl (rm_ok hR (by decide) (by decide)) (Nat.le_of_ble_eq_true rfl) dX6_tries_83 ?_
  refine V_istore X dX6_tries_86 (by rw [hR.2]; decide) ?_
  refine V_aload_n X dX6_tries_88 rfl ?_
  refine V_iload_n X dX6_tries_89 rfl ?_
  refine V_iconst X (nI 1) dX6_tries_90 (by decide) ?_
  refine V_cvi X (ltN (by decide) hN) rfl rfl rfl (kX6_signAt hN (by omega) (by omega)) cwX6_39 rfl (rm_ok hR (by decide) (by decide)) (Nat.le_of_ble_eq_true rfl) dX6_tries_91 ?_
  refine V_istore X dX6_tries_94 (by rw [hR.2]; decide) ?_
  refine V_iload X dX6_tries_96 rfl ?_
  refine V_bipush X (nI 30) dX6_tries_98 (by decide) ?_
  refine V_icmp_ne X 116 dX6_tries_100 (by decide) (fun h100 => ?_) (fun h100 => ?_)
  · have h100x : ¬ S 81 (s * 5 + 1) = nI 30 := fun q => h100 ((show trP S r s a (nI b) m 81 (s * 5 + 1) = S 81 (s * 5 + 1) by rw [trP_ne (by decide)]).trans q)
    obtain ⟨t, ht, et⟩ := okM_T ok h100x
    refine V_iload X dX6_tries_116 rfl ?_
    refine V_bipush X (nI 31) dX6_tries_118 (by decide) ?_
    refine V_icmp_ne X 139 dX6_tries_120 (by decide) (fun h120 => ?_) (fun h120 => ?_)
    · have h120x : ¬ S 81 (s * 5 + 1) = nI 31 := fun q => h120 ((show trP S r s a (nI b) m 81 (s * 5 + 1) = S 81 (s * 5 + 1) by rw [trP_ne (by decide)]).trans q)
      refine V_iload X dX6_tries_139 rfl ?_
      refine V_bipush X (nI 32) dX6_tries_141 (by decide) ?_
      refine V_icmp_ne X 162 dX6_tries_143 (by decide) (fun h143 => ?_) (fun h143 => ?_)
      · have h143x : ¬ S 81 (s * 5 + 1) = nI 32 := fun q => h143 ((show trP S r s a (nI b) m 81 (s * 5 + 1) = S 81 (s * 5 + 1) by rw [trP_ne (by decide)]).trans q)
        refine V_aload_n X dX6_tries_162 rfl ?_
        refine V_iload X dX6_tries_163 rfl ?_
        refine V_iload_n X dX6_tries_165 rfl ?_
        refine V_iload_n X dX6_tries_166 rfl ?_
        refine V_iload X dX6_tries_167 rfl ?_
        refine V_bipush X (nI 10) dX6_tries_169 (by decide) ?_
        refine V_isub X dX6_tries_171 ?_
        refine V_top (nI (t)) (show trP S r s a (nI b) m 81 (s * 5 + 2) - nI 10 = nI t by rw [trP_ne (by decide)]; exact et) ?_
        refine V_iload X dX6_tries_172 rfl ?_
        refine V_cvi X (ltN (by decide) hN) rfl rfl rfl (kX6_gives hN (by omega) ha ht hb) cwX6_81 rfl (rm_ok hR (by decide) (by decide)) (Nat.le_of_ble_eq_true rfl) dX6_tries_174 ?_
        refine V_istore X dX6_tries_177 (by rw [hR.2]; decide) ?_
        refine V_iload X dX6_tries_179 rfl ?_
        refine V_if_eq X 194 dX6_tries_181 (by decide) (fun h181 => ?_) (fun h181 => ?_)
        · exact V_vret X E dX6_tries_194 (by unfold trF; rw [vb_33 h100x h120x h143x ht hb et]; first | exact (if_pos h181).symm | exact (if_neg h181).symm)
        · refine V_aload_n X dX6_tries_184 rfl ?_
          refine V_dupr X dX6_tries_185 ?_
          refine V_geti X flX6_54 (ltN (by decide) hN) rfl rfl dX6_tries_186 ?_
          refine V_top (nI (m)) (by first | exact hm | (rw [tkF_ne (by decide)]; exact (show trP S r s a (nI b) m 80 5 = nI m by rw [trP_ne (by decide)]; exact hm)) | (rw [dpF_ne (by decide)]; exact (show trP S r s a (nI b) m 80 5 = nI m by rw [trP_ne (by decide)]; exact hm)) | (rw [gvF_ne (by decide)]; exact (show trP S r s a (nI b) m 80 5 = nI m by rw [trP_ne (by decide)]; exact hm)) | exact (show trP S r s a (nI b) m 80 5 = nI m by rw [trP_ne (by decide)]; exact hm)) ?_
          refine V_iconst X (nI 1) dX6_tries_189 (by decide) ?_
          refine V_addN X dX6_tries_190 ?_
          refine V_puti X fpX6_54 (ltN (by decide) hN) rfl rfl dX6_tries_191 ?_
          exact V_vret X E dX6_tries_194 (by unfold trF; rw [vb_33 h100x h120x h143x ht hb et]; first | exact (if_pos h181).symm | exact (if_neg h181).symm)
      · have h143x : S 81 (s * 5 + 1) = nI 32 := (show trP S r s a (nI b) m 81 (s * 5 + 1) = S 81 (s * 5 + 1) by rw [trP_ne (by decide)]).symm.trans (ts_nn h143)
        refine V_aload_n X dX6_tries_146 rfl ?_
        refine V_iload X dX6_tries_147 rfl ?_
        refine V_iload_n X dX6_tries_149 rfl ?_
        refine V_iload_n X dX6_tries_150 rfl ?_
        refine V_iload X dX6_tries_151 rfl ?_
        refine V_bipush X (nI 10) dX6_tries_153 (by decide) ?_
        refine V_isub X dX6_tries_155 ?_
        refine V_top (nI (t)) (show trP S r s a (nI b) m 81 (s * 5 + 2) - nI 10 = nI t by rw [trP_ne (by decide)]; exact et) ?_
        refine V_cvi X (ltN (by decide) hN) rfl rfl rfl (kX6_drops hN (by omega) ha ht) cwX6_78 rfl (rm_ok hR (by decide) (by decide)) (Nat.le_of_ble_eq_true rfl) dX6_tries_156 ?_
        refine V_goto X 177 dX6_tries_159 (by decide) ?_
        refine V_istore X dX6_tries_177 (by rw [hR.2]; decide) ?_
        refine V_iload X dX6_tries_179 rfl ?_
        refine V_if_eq X 194 dX6_tries_181 (by decide) (fun h181 => ?_) (fun h181 => ?_)
        · exact V_vret X E dX6_tries_194 (by unfold trF; rw [vb_32 h100x h120x h143x ht et]; first | exact (if_pos h181).symm | exact (if_neg h181).symm)
        · refine V_aload_n X dX6_tries_184 rfl ?_
          refine V_dupr X dX6_tries_185 ?_
          refine V_geti X flX6_54 (ltN (by decide) hN) rfl rfl dX6_tries_186 ?_
          refine V_top (nI (m)) (by first | exact hm | (rw [tkF_ne (by decide)]; exact (show trP S r s a (nI b) m 80 5 = nI m by rw [trP_ne (by decide)]; exact hm)) | (rw [dpF_ne (by decide)]; exact (show trP S r s a (nI b) m 80 5 = nI m by rw [trP_ne (by decide)]; exact hm)) | (rw [gvF_ne (by decide)]; exact (show trP S r s a (nI b) m 80 5 = nI m by rw [trP_ne (by decide)]; exact hm)) | exact (show trP S r s a (nI b) m 80 5 = nI m by rw [trP_ne (by decide)]; exact hm)) ?_
          refine V_iconst X (nI 1) dX6_tries_189 (by decide) ?_
          refine V_addN X dX6_tries_190 ?_
          refine V_puti X fpX6_54 (ltN (by decide) hN) rfl rfl dX6_tries_191 ?_
          exact V_vret X E dX6_tries_194 (by unfold trF; rw [vb_32 h100x h120x h143x ht et]; first | exact (if_pos h181).symm | exact (if_neg h181).symm)
    · have h120x : S 81 (s * 5 + 1) = nI 31 := (show trP S r s a (nI b) m 81 (s * 5 + 1) = S 81 (s * 5 + 1) by rw [trP_ne (by decide)]).symm.trans (ts_nn h120)
      refine V_aload_n X dX6_tries_123 rfl ?_
      refine V_iload X dX6_tries_124 rfl ?_
      refine V_iload_n X dX6_tries_126 rfl ?_
      refine V_iload_n X dX6_tries_127 rfl ?_
      refine V_iload X dX6_tries_128 rfl ?_
      refine V_bipush X (nI 10) dX6_tries_130 (by decide) ?_
      refine V_isub X dX6_tries_132 ?_
      refine V_top (nI (t)) (show trP S r s a (nI b) m 81 (s * 5 + 2) - nI 10 = nI t by rw [trP_ne (by decide)]; exact et) ?_
      refine V_cvi X (ltN (by decide) hN) rfl rfl rfl (kX6_takes hN (by omega) ha ht) cwX6_75 rfl (rm_ok hR (by decide) (by decide)) (Nat.le_of_ble_eq_true rfl) dX6_tries_133 ?_
      refine V_goto X 177 dX6_tries_136 (by decide) ?_
      refine V_istore X dX6_tries_177 (by rw [hR.2]; decide) ?_
      refine V_iload X dX6_tries_179 rfl ?_
      refine V_if_eq X 194 dX6_tries_181 (by decide) (fun h181 => ?_) (fun h181 => ?_)
      · exact V_vret X E dX6_tries_194 (by unfold trF; rw [vb_31 h100x h120x ht et]; first | exact (if_pos h181).symm | exact (if_neg h181).symm)
      · refine V_aload_n X dX6_tries_184 rfl ?_
        refine V_dupr X dX6_tries_185 ?_
        refine V_geti X flX6_54 (ltN (by decide) hN) rfl rfl dX6_tries_186 ?_
        refine V_top (nI (m)) (by first | exact hm | (rw [tkF_ne (by decide)]; exact (show trP S r s a (nI b) m 80 5 = nI m by rw [trP_ne (by decide)]; exact hm)) | (rw [dpF_ne (by decide)]; exact (show trP S r s a (nI b) m 80 5 = nI m by rw [trP_ne (by decide)]; exact hm)) | (rw [gvF_ne (by decide)]; exact (show trP S r s a (nI b) m 80 5 = nI m by rw [trP_ne (by decide)]; exact hm)) | exact (show trP S r s a (nI b) m 80 5 = nI m by rw [trP_ne (by decide)]; exact hm)) ?_
        refine V_iconst X (nI 1) dX6_tries_189 (by decide) ?_
        refine V_addN X dX6_tries_190 ?_
        refine V_puti X fpX6_54 (ltN (by decide) hN) rfl rfl dX6_tries_191 ?_
        exact V_vret X E dX6_tries_194 (by unfold trF; rw [vb_31 h100x h120x ht et]; first | exact (if_pos h181).symm | exact (if_neg h181).symm)
  · have h100x : S 81 (s * 5 + 1) = nI 30 := (show trP S r s a (nI b) m 81 (s * 5 + 1) = S 81 (s * 5 + 1) by rw [trP_ne (by decide)]).symm.trans (ts_nn h100)
    refine V_aload_n X dX6_tries_103 rfl ?_
    refine V_iload X dX6_tries_104 rfl ?_
    refine V_iload_n X dX6_tries_106 rfl ?_
    refine V_iload_n X dX6_tries_107 rfl ?_
    refine V_iload X dX6_tries_108 rfl ?_
    refine V_cvi X (ltN (by decide) hN) rfl rfl rfl (kX6_walks hN (by omega) ha) cwX6_71 rfl (rm_ok hR (by decide) (by decide)) (Nat.le_of_ble_eq_true rfl) dX6_tries_110 ?_
    refine V_goto X 177 dX6_tries_113 (by decide) ?_
    refine V_istore X dX6_tries_177 (by rw [hR.2]; decide) ?_
    refine V_iload X dX6_tries_179 rfl ?_
    refine V_if_eq X 194 dX6_tries_181 (by decide) (fun h181 => ?_) (fun h181 => ?_)
    · exact V_vret X E dX6_tries_194 (by unfold trF; rw [vb_30 h100x]; first | exact (if_pos h181).symm | exact (if_neg h181).symm)
    · refine V_aload_n X dX6_tries_184 rfl ?_
      refine V_dupr X dX6_tries_185 ?_
      refine V_geti X flX6_54 (ltN (by decide) hN) rfl rfl dX6_tries_186 ?_
      refine V_top (nI (m)) (by first | exact hm | (rw [tkF_ne (by decide)]; exact (show trP S r s a (nI b) m 80 5 = nI m by rw [trP_ne (by decide)]; exact hm)) | (rw [dpF_ne (by decide)]; exact (show trP S r s a (nI b) m 80 5 = nI m by rw [trP_ne (by decide)]; exact hm)) | (rw [gvF_ne (by decide)]; exact (show trP S r s a (nI b) m 80 5 = nI m by rw [trP_ne (by decide)]; exact hm)) | exact (show trP S r s a (nI b) m 80 5 = nI m by rw [trP_ne (by decide)]; exact hm)) ?_
      refine V_iconst X (nI 1) dX6_tries_189 (by decide) ?_
      refine V_addN X dX6_tries_190 ?_
      refine V_puti X fpX6_54 (ltN (by decide) hN) rfl rfl dX6_tries_191 ?_
      exact V_vret X E dX6_tries_194 (by unfold trF; rw [vb_30 h100x]; first | exact (if_pos h181).symm | exact (if_neg h181).symm)

set_option maxRecDepth 100000 in
set_option maxHeartbeats 4000000 in
theorem kX6_triesN {G : Cx} {S : Sx} (hN : 88 ≤ gN G) {r s a m : Nat} (hm : S 80 5 = nI m) (hm256 : m < 256) (hr : r < 256) (hs : s < 14) (ha : a < 8) (ok : okM (S 81) s) (hv33 : ¬ S 81 (s * 5 + 1) = nI 33) : CV G 2 yX6_tries cX6_tries 9 [ra G 80, .int (nI r), .int (nI s), .int (nI a), .int (-1)] S (trF S r s a (-1) m) := by
  refine CV_of (by decide) (Nat.le_of_ble_eq_true rfl) (by intro v hv; simp only [List.mem_cons, List.not_mem_nil, or_false] at hv; rcases hv with rfl | rfl | rfl | rfl | rfl <;> rfl) (fun F X E => ?_)
  have hR := RV_R E
  have loop : (∀ (S1 : Sx) (u : Option Value), S1 = cpF S (104 * m) r 104 → V F G S1 47 [some (ra G 80), some (.int (nI r)), some (.int (nI s)), some (.int (nI a)), some (.int (-1)), some (.int (nI (104 * m))), u, none, none] []) → ∀ (f i : Nat) (S1 : Sx), i ≤ 104 → 104 - i < f → S1 = cpF S (104 * m) r i → V F G S1 12 [some (ra G 80), some (.int (nI r)), some (.int (nI s)), some (.int (nI a)), some (.int (-1)), some (.int (nI (104 * m))), some (.int (nI i)), none, none] [] := by
    intro kx f
    induction f with
    | zero => intro i S1 h1 h2; omega
    | succ f ih =>
      intro i S1 h1 h2 hs
      refine V_iload X dX6_tries_12 rfl ?_
      refine V_bipush X (nI 104) dX6_tries_14 (by decide) ?_
      refine V_cN_ge X 47 (by omega) (by omega) dX6_tries_16 (by decide) (fun h16 => ?_) (fun h16 => ?_)
      · exact kx _ _ (by rw [hs, show i = 104 by omega])
      · refine V_aload_n X dX6_tries_19 rfl ?_
        refine V_getr X flX6_19 (ltN (by decide) hN) rfl rfl dX6_tries_20 ?_
        refine V_iload X dX6_tries_23 rfl ?_
        refine V_iload X dX6_tries_25 rfl ?_
        refine V_addN X dX6_tries_27 ?_
        refine V_aload_n X dX6_tries_28 rfl ?_
        refine V_getr X flX6_16 (ltN (by decide) hN) rfl rfl dX6_tries_29 ?_
        refine V_bipush X (nI 104) dX6_tries_32 (by decide) ?_
        refine V_iload_n X dX6_tries_34 rfl ?_
        refine V_mulN X dX6_tries_35 ?_
        refine V_iload X dX6_tries_36 rfl ?_
        refine V_addN X dX6_tries_38 ?_
        refine V_ialdN X (ltN (by decide) hN) rfl (by omega) (by decide) dX6_tries_39 ?_
        refine V_iastN X (ltN (by decide) hN) rfl (by omega) (by decide) dX6_tries_40 ?_
        refine V_iinc X (nI (_ + 1)) dX6_tries_41 (by rw [hR.2]; decide) rfl (nI_add _ 1) ?_
        refine V_goto X 12 dX6_tries_44 (by decide) ?_
        exact ih (i + 1) _ (by omega) (by omega) (by rw [hs]; exact cpF_s S _ r i)
  refine V_bipush X (nI 104) dX6_tries_0 (by decide) ?_
  refine V_aload_n X dX6_tries_2 rfl ?_
  refine V_geti X flX6_54 (ltN (by decide) hN) rfl rfl dX6_tries_3 ?_
  refine V_top (nI (m)) (hm) ?_
  refine V_mulN X dX6_tries_6 ?_
  refine V_istore X dX6_tries_7 (by rw [hR.2]; decide) ?_
  refine V_iconst X (nI 0) dX6_tries_9 (by decide) ?_
  refine V_istore X dX6_tries_10 (by rw [hR.2]; decide) ?_
  refine loop (fun S1 u e1 => ?_) 105 0 S (by omega) (by omega) (cpF_0 S _ r).symm
  subst e1
  refine V_aload_n X dX6_tries_47 rfl ?_
  refine V_getr X flX6_19 (ltN (by decide) hN) rfl rfl dX6_tries_48 ?_
  refine V_iload X dX6_tries_51 rfl ?_
  refine V_bipush X (nI 66) dX6_tries_53 (by decide) ?_
  refine V_addN X dX6_tries_55 ?_
  refine V_iconst X (nI 2) dX6_tries_56 (by decide) ?_
  refine V_iload_n X dX6_tries_57 rfl ?_
  refine V_mulN X dX6_tries_58 ?_
  refine V_addN X dX6_tries_59 ?_
  refine V_iload_n X dX6_tries_60 rfl ?_
  refine V_iastN X (ltN (by decide) hN) rfl (by omega) (by decide) dX6_tries_61 ?_
  refine V_aload_n X dX6_tries_62 rfl ?_
  refine V_getr X flX6_19 (ltN (by decide) hN) rfl rfl dX6_tries_63 ?_
  refine V_iload X dX6_tries_66 rfl ?_
  refine V_bipush X (nI 66) dX6_tries_68 (by decide) ?_
  refine V_addN X dX6_tries_70 ?_
  refine V_iconst X (nI 2) dX6_tries_71 (by decide) ?_
  refine V_iload_n X dX6_tries_72 rfl ?_
  refine V_mulN X dX6_tries_73 ?_
  refine V_addN X dX6_tries_74 ?_
  refine V_iconst X (nI 1) dX6_tries_75 (by decide) ?_
  refine V_addN X dX6_tries_76 ?_
  refine V_iload X dX6_tries_77 rfl ?_
  refine V_iastN X (ltN (by decide) hN) rfl (by omega) (by decide) dX6_tries_79 ?_
  refine V_aload_n X dX6_tries_80 rfl ?_
  refine V_iload_n X dX6_tries_81 rfl ?_
  refine V_iconst X (nI 2) dX6_tries_82 (by decide) ?_
  refine V_cvi X (ltN (by decide) hN) rfl rfl rfl (kX6_signAt hN (by omega) (by omega)) cwX6_39 rfl (rm_ok hR (by decide) (by decide)) (Nat.le_of_ble_eq_true rfl) dX6_tries_83 ?_
  refine V_istore X dX6_tries_86 (by rw [hR.2]; decide) ?_
  refine V_aload_n X dX6_tries_88 rfl ?_
  refine V_iload_n X dX6_tries_89 rfl ?_
  refine V_iconst X (nI 1) dX6_tries_90 (by decide) ?_
  refine V_cvi X (ltN (by decide) hN) rfl rfl rfl (kX6_signAt hN (by omega) (by omega)) cwX6_39 rfl (rm_ok hR (by decide) (by decide)) (Nat.le_of_ble_eq_true rfl) dX6_tries_91 ?_
  refine V_istore X dX6_tries_94 (by rw [hR.2]; decide) ?_
  refine V_iload X dX6_tries_96 rfl ?_
  refine V_bipush X (nI 30) dX6_tries_98 (by decide) ?_
  refine V_icmp_ne X 116 dX6_tries_100 (by decide) (fun h100 => ?_) (fun h100 => ?_)
  · have h100x : ¬ S 81 (s * 5 + 1) = nI 30 := fun q => h100 ((show trP S r s a (-1) m 81 (s * 5 + 1) = S 81 (s * 5 + 1) by rw [trP_ne (by decide)]).trans q)
    obtain ⟨t, ht, et⟩ := okM_T ok h100x
    refine V_iload X dX6_tries_116 rfl ?_
    refine V_bipush X (nI 31) dX6_tries_118 (by decide) ?_
    refine V_icmp_ne X 139 dX6_tries_120 (by decide) (fun h120 => ?_) (fun h120 => ?_)
    · have h120x : ¬ S 81 (s * 5 + 1) = nI 31 := fun q => h120 ((show trP S r s a (-1) m 81 (s * 5 + 1) = S 81 (s * 5 + 1) by rw [trP_ne (by decide)]).trans q)
      refine V_iload X dX6_tries_139 rfl ?_
      refine V_bipush X (nI 32) dX6_tries_141 (by decide) ?_
      refine V_icmp_ne X 162 dX6_tries_143 (by decide) (fun h143 => ?_) (fun h143 => ?_)
      · exact absurd (okM_not ok h100x h120x (fun q => h143 ((show trP S r s a (-1) m 81 (s * 5 + 1) = S 81 (s * 5 + 1) by rw [trP_ne (by decide)]).trans q))) hv33
      · have h143x : S 81 (s * 5 + 1) = nI 32 := (show trP S r s a (-1) m 81 (s * 5 + 1) = S 81 (s * 5 + 1) by rw [trP_ne (by decide)]).symm.trans (ts_nn h143)
        refine V_aload_n X dX6_tries_146 rfl ?_
        refine V_iload X dX6_tries_147 rfl ?_
        refine V_iload_n X dX6_tries_149 rfl ?_
        refine V_iload_n X dX6_tries_150 rfl ?_
        refine V_iload X dX6_tries_151 rfl ?_
        refine V_bipush X (nI 10) dX6_tries_153 (by decide) ?_
        refine V_isub X dX6_tries_155 ?_
        refine V_top (nI (t)) (show trP S r s a (-1) m 81 (s * 5 + 2) - nI 10 = nI t by rw [trP_ne (by decide)]; exact et) ?_
        refine V_cvi X (ltN (by decide) hN) rfl rfl rfl (kX6_drops hN (by omega) ha ht) cwX6_78 rfl (rm_ok hR (by decide) (by decide)) (Nat.le_of_ble_eq_true rfl) dX6_tries_156 ?_
        refine V_goto X 177 dX6_tries_159 (by decide) ?_
        refine V_istore X dX6_tries_177 (by rw [hR.2]; decide) ?_
        refine V_iload X dX6_tries_179 rfl ?_
        refine V_if_eq X 194 dX6_tries_181 (by decide) (fun h181 => ?_) (fun h181 => ?_)
        · exact V_vret X E dX6_tries_194 (by unfold trF; rw [vb_32 h100x h120x h143x ht et]; first | exact (if_pos h181).symm | exact (if_neg h181).symm)
        · refine V_aload_n X dX6_tries_184 rfl ?_
          refine V_dupr X dX6_tries_185 ?_
          refine V_geti X flX6_54 (ltN (by decide) hN) rfl rfl dX6_tries_186 ?_
          refine V_top (nI (m)) (by first | exact hm | (rw [tkF_ne (by decide)]; exact (show trP S r s a (-1) m 80 5 = nI m by rw [trP_ne (by decide)]; exact hm)) | (rw [dpF_ne (by decide)]; exact (show trP S r s a (-1) m 80 5 = nI m by rw [trP_ne (by decide)]; exact hm)) | (rw [gvF_ne (by decide)]; exact (show trP S r s a (-1) m 80 5 = nI m by rw [trP_ne (by decide)]; exact hm)) | exact (show trP S r s a (-1) m 80 5 = nI m by rw [trP_ne (by decide)]; exact hm)) ?_
          refine V_iconst X (nI 1) dX6_tries_189 (by decide) ?_
          refine V_addN X dX6_tries_190 ?_
          refine V_puti X fpX6_54 (ltN (by decide) hN) rfl rfl dX6_tries_191 ?_
          exact V_vret X E dX6_tries_194 (by unfold trF; rw [vb_32 h100x h120x h143x ht et]; first | exact (if_pos h181).symm | exact (if_neg h181).symm)
    · have h120x : S 81 (s * 5 + 1) = nI 31 := (show trP S r s a (-1) m 81 (s * 5 + 1) = S 81 (s * 5 + 1) by rw [trP_ne (by decide)]).symm.trans (ts_nn h120)
      refine V_aload_n X dX6_tries_123 rfl ?_
      refine V_iload X dX6_tries_124 rfl ?_
      refine V_iload_n X dX6_tries_126 rfl ?_
      refine V_iload_n X dX6_tries_127 rfl ?_
      refine V_iload X dX6_tries_128 rfl ?_
      refine V_bipush X (nI 10) dX6_tries_130 (by decide) ?_
      refine V_isub X dX6_tries_132 ?_
      refine V_top (nI (t)) (show trP S r s a (-1) m 81 (s * 5 + 2) - nI 10 = nI t by rw [trP_ne (by decide)]; exact et) ?_
      refine V_cvi X (ltN (by decide) hN) rfl rfl rfl (kX6_takes hN (by omega) ha ht) cwX6_75 rfl (rm_ok hR (by decide) (by decide)) (Nat.le_of_ble_eq_true rfl) dX6_tries_133 ?_
      refine V_goto X 177 dX6_tries_136 (by decide) ?_
      refine V_istore X dX6_tries_177 (by rw [hR.2]; decide) ?_
      refine V_iload X dX6_tries_179 rfl ?_
      refine V_if_eq X 194 dX6_tries_181 (by decide) (fun h181 => ?_) (fun h181 => ?_)
      · exact V_vret X E dX6_tries_194 (by unfold trF; rw [vb_31 h100x h120x ht et]; first | exact (if_pos h181).symm | exact (if_neg h181).symm)
      · refine V_aload_n X dX6_tries_184 rfl ?_
        refine V_dupr X dX6_tries_185 ?_
        refine V_geti X flX6_54 (ltN (by decide) hN) rfl rfl dX6_tries_186 ?_
        refine V_top (nI (m)) (by first | exact hm | (rw [tkF_ne (by decide)]; exact (show trP S r s a (-1) m 80 5 = nI m by rw [trP_ne (by decide)]; exact hm)) | (rw [dpF_ne (by decide)]; exact (show trP S r s a (-1) m 80 5 = nI m by rw [trP_ne (by decide)]; exact hm)) | (rw [gvF_ne (by decide)]; exact (show trP S r s a (-1) m 80 5 = nI m by rw [trP_ne (by decide)]; exact hm)) | exact (show trP S r s a (-1) m 80 5 = nI m by rw [trP_ne (by decide)]; exact hm)) ?_
        refine V_iconst X (nI 1) dX6_tries_189 (by decide) ?_
        refine V_addN X dX6_tries_190 ?_
        refine V_puti X fpX6_54 (ltN (by decide) hN) rfl rfl dX6_tries_191 ?_
        exact V_vret X E dX6_tries_194 (by unfold trF; rw [vb_31 h100x h120x ht et]; first | exact (if_pos h181).symm | exact (if_neg h181).symm)
  · have h100x : S 81 (s * 5 + 1) = nI 30 := (show trP S r s a (-1) m 81 (s * 5 + 1) = S 81 (s * 5 + 1) by rw [trP_ne (by decide)]).symm.trans (ts_nn h100)
    refine V_aload_n X dX6_tries_103 rfl ?_
    refine V_iload X dX6_tries_104 rfl ?_
    refine V_iload_n X dX6_tries_106 rfl ?_
    refine V_iload_n X dX6_tries_107 rfl ?_
    refine V_iload X dX6_tries_108 rfl ?_
    refine V_cvi X (ltN (by decide) hN) rfl rfl rfl (kX6_walks hN (by omega) ha) cwX6_71 rfl (rm_ok hR (by decide) (by decide)) (Nat.le_of_ble_eq_true rfl) dX6_tries_110 ?_
    refine V_goto X 177 dX6_tries_113 (by decide) ?_
    refine V_istore X dX6_tries_177 (by rw [hR.2]; decide) ?_
    refine V_iload X dX6_tries_179 rfl ?_
    refine V_if_eq X 194 dX6_tries_181 (by decide) (fun h181 => ?_) (fun h181 => ?_)
    · exact V_vret X E dX6_tries_194 (by unfold trF; rw [vb_30 h100x]; first | exact (if_pos h181).symm | exact (if_neg h181).symm)
    · refine V_aload_n X dX6_tries_184 rfl ?_
      refine V_dupr X dX6_tries_185 ?_
      refine V_geti X flX6_54 (ltN (by decide) hN) rfl rfl dX6_tries_186 ?_
      refine V_top (nI (m)) (by first | exact hm | (rw [tkF_ne (by decide)]; exact (show trP S r s a (-1) m 80 5 = nI m by rw [trP_ne (by decide)]; exact hm)) | (rw [dpF_ne (by decide)]; exact (show trP S r s a (-1) m 80 5 = nI m by rw [trP_ne (by decide)]; exact hm)) | (rw [gvF_ne (by decide)]; exact (show trP S r s a (-1) m 80 5 = nI m by rw [trP_ne (by decide)]; exact hm)) | exact (show trP S r s a (-1) m 80 5 = nI m by rw [trP_ne (by decide)]; exact hm)) ?_
      refine V_iconst X (nI 1) dX6_tries_189 (by decide) ?_
      refine V_addN X dX6_tries_190 ?_
      refine V_puti X fpX6_54 (ltN (by decide) hN) rfl rfl dX6_tries_191 ?_
      exact V_vret X E dX6_tries_194 (by unfold trF; rw [vb_30 h100x]; first | exact (if_pos h181).symm | exact (if_neg h181).symm)

