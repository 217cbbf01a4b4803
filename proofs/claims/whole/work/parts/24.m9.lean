def lowF (all c : Int32) : Int32 := (all &&& (c ^^^ -1)) &&& -(all &&& (c ^^^ -1))
def rowV (f : Nat → Int32) (lw : Int32) (rc : Int32 → Nat → Nat) (d : Nat) (c : Int32) : Nat → Nat → Nat → Nat
  | 0, _, b => b
  | m + 1, i, b => if b ≤ d + 1 then b else if f i &&& lw = 0 then rowV f lw rc d c m (i + 1) b else rowV f lw rc d c m (i + 1) (rc (c ||| f i) b)
def vis (f : Nat → Int32) (n : Nat) (all : Int32) : Nat → Nat → Int32 → Nat → Nat
  | 0, d, c, b => if c = all then (if d < b then d else b) else b
  | k + 1, d, c, b => if c = all then (if d < b then d else b) else rowV f (lowF all c) (fun c' b' => vis f n all k (d + 1) c' b') d c n 0 b
theorem rowV_le {f : Nat → Int32} {lw : Int32} {rc : Int32 → Nat → Nat} (hrc : ∀ c b, rc c b ≤ b) {d : Nat} {c : Int32} : ∀ m i b, rowV f lw rc d c m i b ≤ b
  | 0, _, _ => Nat.le_refl _
  | m + 1, i, b => by
    unfold rowV; split
    · exact Nat.le_refl _
    · split
      · exact rowV_le hrc m (i + 1) b
      · exact Nat.le_trans (rowV_le hrc m (i + 1) _) (hrc _ _)
theorem vis_le (f : Nat → Int32) (n : Nat) (all : Int32) : ∀ k d c b, vis f n all k d c b ≤ b
  | 0, d, c, b => by unfold vis; split <;> (try split) <;> omega
  | k + 1, d, c, b => by
    unfold vis; split
    · split <;> omega
    · exact rowV_le (fun c' b' => vis_le f n all k (d + 1) c' b') _ _ _
theorem dv_1 (i : Nat) : dv i + nI 1 = nI i := by
  cases i with
  | zero => decide
  | succ k => rw [dv_s]; exact nI_add k 1
/-- what a node leaves as it was -/
def kp (S S' : Sx) (d : Nat) : Prop := (∀ q, q ≠ 86 → q ≠ 87 → S' q = S q) ∧ ∀ j, j < d → S' 86 j = S 86 j ∧ S' 87 j = S 87 j
theorem kp_rf (S : Sx) (d : Nat) : kp S S d := ⟨fun _ _ _ => rfl, fun _ _ => ⟨rfl, rfl⟩⟩
theorem kp_tr {S S' S'' : Sx} {d : Nat} (h : kp S S' d) (h2 : kp S' S'' d) : kp S S'' d := ⟨fun q a b => (h2.1 q a b).trans (h.1 q a b), fun j hj => ⟨(h2.2 j hj).1.trans (h.2 j hj).1, (h2.2 j hj).2.trans (h.2 j hj).2⟩⟩
theorem kp_dn {S S' : Sx} {d d' : Nat} (h : kp S S' d') (hd : d ≤ d') : kp S S' d := ⟨h.1, fun j hj => h.2 j (by omega)⟩
theorem kp_86 (S : Sx) {d i : Nat} (x : Int32) (h : d ≤ i) : kp S (st S 86 i x) d := ⟨fun q a b => st_ne a, fun j hj => ⟨by rw [st_at, if_neg (by omega)], by rw [st_at, if_neg (by omega)]⟩⟩
theorem kp_87 (S : Sx) {d i : Nat} (x : Int32) (h : d ≤ i) : kp S (st S 87 i x) d := ⟨fun q a b => st_ne b, fun j hj => ⟨by rw [st_at, if_neg (by omega)], by rw [st_at, if_neg (by omega)]⟩⟩

set_option maxRecDepth 100000 in
set_option maxHeartbeats 4000000 in
theorem dfs_all {G : Cx} {F : Fx} {S : Sx} {n b d : Nat} {all : Int32} (hN : 88 ≤ gN G) (X : CX F G cX6_fewest yX6_fewest.cls) (hR : fR F = rmD 7 ∧ fnL F = 6) (hd : d ≤ 14) (hb : b ≤ 36) (hc : S 87 d = all) (kx : (∀ (S' : Sx) (u : Option Value), kp S S' d → V F G S' 48 [some (ra G 80), some (.int (nI n)), some (.int all), some (.int (nI (if d < b then d else b))), some (.int (dv d)), u] [])) (u : Option Value) : V F G S 48 [some (ra G 80), some (.int (nI n)), some (.int all), some (.int (nI b)), some (.int (nI d)), u] [] := by
  refine V_iload X dX6_fewest_48 rfl ?_
  refine V_iN_lt X 233 (by omega) dX6_fewest_50 (by decide) ?_
  refine V_aload_n X dX6_fewest_53 rfl ?_
  refine V_getr X flX6_28 (ltN (by decide) hN) rfl rfl dX6_fewest_54 ?_
  refine V_iload X dX6_fewest_57 rfl ?_
  refine V_ialdN X (ltN (by decide) hN) rfl (by omega) (by decide) dX6_fewest_59 ?_
  refine V_top (all) (hc) ?_
  refine V_iload_n X dX6_fewest_60 rfl ?_
  refine V_icmp_ne X 73 dX6_fewest_61 (by decide) (fun h61 => ?_) (fun h61 => ?_)
  · exact absurd rfl h61
  · refine V_iload X dX6_fewest_64 rfl ?_
    refine V_iload_n X dX6_fewest_66 rfl ?_
    refine V_cN_ge X 73 (by omega) (by omega) dX6_fewest_67 (by decide) (fun h67 => ?_) (fun h67 => ?_)
    · rw [if_neg (by omega)] at kx
      refine V_aload_n X dX6_fewest_73 rfl ?_
      refine V_getr X flX6_28 (ltN (by decide) hN) rfl rfl dX6_fewest_74 ?_
      refine V_iload X dX6_fewest_77 rfl ?_
      refine V_ialdN X (ltN (by decide) hN) rfl (by omega) (by decide) dX6_fewest_79 ?_
      refine V_top (all) (hc) ?_
      refine V_iload_n X dX6_fewest_80 rfl ?_
      refine V_icmp_eq X 92 dX6_fewest_81 (by decide) (fun h81 => ?_) (fun h81 => ?_)
      · refine V_iinc X (dv _) dX6_fewest_92 (by rw [hR.2]; decide) rfl (dv_m _) ?_
        refine V_goto X 48 dX6_fewest_95 (by decide) ?_
        exact kx S _ (kp_rf S d)
      · exact absurd rfl h81
    · rw [if_pos h67] at kx
      refine V_iload X dX6_fewest_70 rfl ?_
      refine V_istore_n X dX6_fewest_72 (by rw [hR.2]; decide) ?_
      refine V_aload_n X dX6_fewest_73 rfl ?_
      refine V_getr X flX6_28 (ltN (by decide) hN) rfl rfl dX6_fewest_74 ?_
      refine V_iload X dX6_fewest_77 rfl ?_
      refine V_ialdN X (ltN (by decide) hN) rfl (by omega) (by decide) dX6_fewest_79 ?_
      refine V_top (all) (hc) ?_
      refine V_iload_n X dX6_fewest_80 rfl ?_
      refine V_icmp_eq X 92 dX6_fewest_81 (by decide) (fun h81 => ?_) (fun h81 => ?_)
      · refine V_iinc X (dv _) dX6_fewest_92 (by rw [hR.2]; decide) rfl (dv_m _) ?_
        refine V_goto X 48 dX6_fewest_95 (by decide) ?_
        exact kx S _ (kp_rf S d)
      · exact absurd rfl h81

