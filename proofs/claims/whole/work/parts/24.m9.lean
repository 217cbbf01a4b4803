def lowF (all c : Int32) : Int32 := (all &&& (c ^^^ -1)) &&& -(all &&& (c ^^^ -1))
def rowV (f : Nat → Int32) (lw : Int32) (rc : Int32 → Nat → Nat) (d : Nat) (c : Int32) : Nat → Nat → Nat → Nat
  | 0, _, b => b
  | m + 1, i, b => if b ≤ d + 1 then b else if f i &&& lw = 0 then rowV f lw rc d c m (i + 1) b else rowV f lw rc d c m (i + 1) (rc (c ||| f i) b)
def vis (f : Nat → Int32) (n : Nat) (all : Int32) : Nat → Nat → Int32 → Nat → Nat
  | 0, d, c, b => if c = all then (if d < b then d else b) else b
  | k + 1, d, c, b => if c = all then (if d < b then d else b) else rowV f (lowF all c) (fun c' b' => vis f n all k (d + 1) c' b') d c n 0 b
theorem rowV_le {f : Nat → Int32} {lw : Int32} {rc : Int32 → Nat → Nat} (hrc : ∀ c b, rc c b ≤ b) {d : Nat} {c : Int32} : ∀ m i b, rowV f lw rc d c m i b ≤ b
  | 0, _, _ => Nat.le_refl _
  | m + 1, i, b => by
    unfold rowV; split
    · exact Nat.le_refl _
    · split
      · exact rowV_le hrc m (i + 1) b
      · exact Nat.le_trans (rowV_le hrc m (i + 1) _) (hrc _ _)
theorem vis_le (f : Nat → Int32) (n : Nat) (all : Int32) : ∀ k d c b, vis f n all k d c b ≤ b
  | 0, d, c, b => by unfold vis; split <;> (try split) <;> omega
  | k + 1, d, c, b => by
    unfold vis; split
    · split <;> omega
    · exact rowV_le (fun c' b' => vis_le f n all k (d + 1) c' b') _ _ _
theorem dv_1 (i : Nat) : dv i + nI 1 = nI i := by
  cases i with
  | zero => decide
  | succ k => rw [dv_s]; exact nI_add k 1
/-- what a node leaves as it was -/
def kp (S S' : Sx) (d : Nat) : Prop := (∀ q, q ≠ 86 → q ≠ 87 → S' q = S q) ∧ ∀ j, j < d → S' 86 j = S 86 j ∧ S' 87 j = S 87 j
theorem kp_rf (S : Sx) (d : Nat) : kp S S d := ⟨fun _ _ _ => rfl, fun _ _ => ⟨rfl, rfl⟩⟩
theorem kp_tr {S S' S'' : Sx} {d : Nat} (h : kp S S' d) (h2 : kp S' S'' d) : kp S S'' d := ⟨fun q a b => (h2.1 q a b).trans (h.1 q a b), fun j hj => ⟨(h2.2 j hj).1.trans (h.2 j hj).1, (h2.2 j hj).2.trans (h.2 j hj).2⟩⟩
theorem kp_dn {S S' : Sx} {d d' : Nat} (h : kp S S' d') (hd : d ≤ d') : kp S S' d := ⟨h.1, fun j hj => h.2 j (by omega)⟩
theorem kp_86 (S : Sx) {d i : Nat} (x : Int32) (h : d ≤ i) : kp S (st S 86 i x) d := ⟨fun q a b => st_ne a, fun j hj => ⟨by rw [st_at, if_neg (by omega)], by rw [st_at, if_neg (by omega)]⟩⟩
theorem kp_87 (S : Sx) {d i : Nat} (x : Int32) (h : d ≤ i) : kp S (st S 87 i x) d := ⟨fun q a b => st_ne b, fun j hj => ⟨by rw [st_at, if_neg (by omega)], by rw [st_at, if_neg (by omega)]⟩⟩

set_option maxRecDepth 100000 in
set_option maxHeartbeats 4000000 in
theorem dfs_all {G : Cx} {F : Fx} {S : Sx} {n b d : Nat} {all : Int32} (hN : 88 ≤ gN G) (X : CX F G cX6_fewest yX6_fewest.cls) (hR : fR F = rmD 7 ∧ fnL F = 6) (hd : d ≤ 14) (hb : b ≤ 36) (hc : S 87 d = all) (kx : (∀ (S' : Sx) (u : Option Value), kp S S' d → V F G S' 48 [some (ra G 80), some (.int (nI n)), some (.int all), some (.int (nI (if d < b then d else b))), some (.int (dv d)), u] [])) (u : Option Value) : V F G S 48 [some (ra G 80), some (.int (nI n)), some (.int all), some (.int (nI b)), some (.int (nI d)), u] [] := by
  refine V_iload X dX6_fewest_48 rfl ?_
  refine V_iN_lt X 233 (by omega) dX6_fewest_50 (by decide) ?_
  refine V_aload_n X dX6_fewest_53 rfl ?_
  refine V_getr X flX6_28 (ltN (by decide) hN) rfl rfl dX6_fewest_54 ?_
  refine V_iload X dX6_fewest_57 rfl ?_
  refine V_ialdN X (ltN (by decide) hN) rfl (by omega) (by decide) dX6_fewest_59 ?_
  refine V_top (all) (hc) ?_
  refine V_iload_n X dX6_fewest_60 rfl ?_
  refine V_icmp_ne X 73 dX6_fewest_61 (by decide) (fun h61 => ?_) (fun h61 => ?_)
  · exact absurd rfl h61
  · refine V_iload X dX6_fewest_64 rfl ?_
    refine V_iload_n X dX6_fewest_66 rfl ?_
    refine V_cN_ge X 73 (by omega) (by omega) dX6_fewest_67 (by decide) (fun h67 => ?_) (fun h67 => ?_)
    · rw [if_neg (by omega)] at kx
      refine V_aload_n X dX6_fewest_73 rfl ?_
      refine V_getr X flX6_28 (ltN (by decide) hN) rfl rfl dX6_fewest_74 ?_
      refine V_iload X dX6_fewest_77 rfl ?_
      refine V_ialdN X (ltN (by decide) hN) rfl (by omega) (by decide) dX6_fewest_79 ?_
      refine V_top (all) (hc) ?_
      refine V_iload_n X dX6_fewest_80 rfl ?_
      refine V_icmp_eq X 92 dX6_fewest_81 (by decide) (fun h81 => ?_) (fun h81 => ?_)
      · refine V_iinc X (dv _) dX6_fewest_92 (by rw [hR.2]; decide) rfl (dv_m _) ?_
        refine V_goto X 48 dX6_fewest_95 (by decide) ?_
        exact kx S _ (kp_rf S d)
      · exact absurd rfl h81
    · rw [if_pos h67] at kx
      refine V_iload X dX6_fewest_70 rfl ?_
      refine V_istore_n X dX6_fewest_72 (by rw [hR.2]; decide) ?_
      refine V_aload_n X dX6_fewest_73 rfl ?_
      refine V_getr X flX6_28 (ltN (by decide) hN) rfl rfl dX6_fewest_74 ?_
      refine V_iload X dX6_fewest_77 rfl ?_
      refine V_ialdN X (ltN (by decide) hN) rfl (by omega) (by decide) dX6_fewest_79 ?_
      refine V_top (all) (hc) ?_
      refine V_iload_n X dX6_fewest_80 rfl ?_
      refine V_icmp_eq X 92 dX6_fewest_81 (by decide) (fun h81 => ?_) (fun h81 => ?_)
      · refine V_iinc X (dv _) dX6_fewest_92 (by rw [hR.2]; decide) rfl (dv_m _) ?_
        refine V_goto X 48 dX6_fewest_95 (by decide) ?_
        exact kx S _ (kp_rf S d)
      · exact absurd rfl h81

theorem rowV_pop {f : Nat → Int32} {lw : Int32} {rc : Int32 → Nat → Nat} {d : Nat} {c : Int32} {m i b : Nat} (h : b ≤ d + 1) : rowV f lw rc d c m i b = b := by
  cases m with
  | zero => rfl
  | succ m => rw [rowV, if_pos h]
set_option maxRecDepth 100000 in
set_option maxHeartbeats 4000000 in
theorem dfs_row {G : Cx} {F : Fx} {n d R : Nat} {all c : Int32} {f : Nat → Int32} {rc : Int32 → Nat → Nat} {S0 : Sx} (hN : 88 ≤ gN G) (X : CX F G cX6_fewest yX6_fewest.cls) (hR : fR F = rmD 7 ∧ fnL F = 6) (hd : d ≤ 13) (hn : n ≤ 36) (hca : ¬ c = all) (hrc : ∀ c b, rc c b ≤ b)
    (hchild : ∀ (j b : Nat) (S : Sx) (u : Option Value), j < n → b ≤ 36 → S 85 = f → S 87 (d + 1) = c ||| f j → S 86 (d + 1) = -1 → ¬ f j &&& lowF all c = 0 → (∀ (S' : Sx) (u : Option Value), kp S S' (d + 1) → V F G S' 48 [some (ra G 80), some (.int (nI n)), some (.int all), some (.int (nI (rc (c ||| f j) b))), some (.int (dv (d + 1))), u] []) → V F G S 48 [some (ra G 80), some (.int (nI n)), some (.int all), some (.int (nI b)), some (.int (nI (d + 1))), u] [])
    (kx : ∀ (S' : Sx) (u : Option Value), kp S0 S' d → V F G S' 48 [some (ra G 80), some (.int (nI n)), some (.int all), some (.int (nI R)), some (.int (dv d)), u] []) : ∀ (r i b : Nat) (S : Sx) (u : Option Value), i ≤ n → n - i < r → b ≤ 36 → S 85 = f → S 87 d = c → S 86 d = dv i → kp S0 S d → rowV f (lowF all c) rc d c (n - i) i b = R → V F G S 48 [some (ra G 80), some (.int (nI n)), some (.int all), some (.int (nI b)), some (.int (nI d)), u] [] := by
  intro r
  induction r with
  | zero => intro i b S u h1 h2; omega
  | succ r ih =>
    intro i b S u hin hfu hb hf0 hc hch0 hk0 hr
    have loopW : d + 1 < b → ∀ (f2 j : Nat) (S2 : Sx), i ≤ j → j ≤ n → n - j < f2 → S2 85 = f → S2 87 d = c → S2 86 d = nI j → kp S0 S2 d → rowV f (lowF all c) rc d c (n - j) j b = R → V F G S2 130 [some (ra G 80), some (.int (nI n)), some (.int all), some (.int (nI b)), some (.int (nI d)), some (.int (lowF all c))] [] := by
      intro hdb f2
      induction f2 with
      | zero => intro j S2 h1 h2 h3; omega
      | succ f2 ihw =>
        intro j S2 hij hjn hf3 hf hc hch hk hr
        refine V_aload_n X dX6_fewest_130 rfl ?_
        refine V_getr X flX6_25 (ltN (by decide) hN) rfl rfl dX6_fewest_131 ?_
        refine V_iload X dX6_fewest_134 rfl ?_
        refine V_ialdN X (ltN (by decide) hN) rfl (by omega) (by decide) dX6_fewest_136 ?_
        refine V_top (nI (j)) (hch) ?_
        refine V_iload_n X dX6_fewest_137 rfl ?_
        refine V_cN_ge X 173 (by omega) (by omega) dX6_fewest_138 (by decide) (fun h138 => ?_) (fun h138 => ?_)
        · refine V_aload_n X dX6_fewest_173 rfl ?_
          refine V_getr X flX6_25 (ltN (by decide) hN) rfl rfl dX6_fewest_174 ?_
          refine V_iload X dX6_fewest_177 rfl ?_
          refine V_ialdN X (ltN (by decide) hN) rfl (by omega) (by decide) dX6_fewest_179 ?_
          refine V_top (nI (j)) (hch) ?_
          refine V_iload_n X dX6_fewest_180 rfl ?_
          refine V_cN_lt X 190 (by omega) (by omega) dX6_fewest_181 (by decide) (fun h181 => ?_) (fun h181 => ?_)
          · refine V_aload_n X dX6_fewest_190 rfl ?_
            refine V_getr X flX6_28 (ltN (by decide) hN) rfl rfl dX6_fewest_191 ?_
            refine V_iload X dX6_fewest_194 rfl ?_
            refine V_iconst X (nI 1) dX6_fewest_196 (by decide) ?_
            refine V_addN X dX6_fewest_197 ?_
            refine V_aload_n X dX6_fewest_198 rfl ?_
            refine V_getr X flX6_28 (ltN (by decide) hN) rfl rfl dX6_fewest_199 ?_
            refine V_iload X dX6_fewest_202 rfl ?_
            refine V_ialdN X (ltN (by decide) hN) rfl (by omega) (by decide) dX6_fewest_204 ?_
            refine V_top (c) (hc) ?_
            refine V_aload_n X dX6_fewest_205 rfl ?_
            refine V_getr X flX6_22 (ltN (by decide) hN) rfl rfl dX6_fewest_206 ?_
            refine V_aload_n X dX6_fewest_209 rfl ?_
            refine V_getr X flX6_25 (ltN (by decide) hN) rfl rfl dX6_fewest_210 ?_
            refine V_iload X dX6_fewest_213 rfl ?_
            refine V_ialdN X (ltN (by decide) hN) rfl (by omega) (by decide) dX6_fewest_215 ?_
            refine V_top (nI (j)) (hch) ?_
            refine V_ialdN X (ltN (by decide) hN) rfl (by omega) (by decide) dX6_fewest_216 ?_
            refine V_ior X dX6_fewest_217 ?_
            refine V_iastN X (ltN (by decide) hN) rfl (by omega) (by decide) dX6_fewest_218 ?_
            refine V_iinc X (nI (_ + 1)) dX6_fewest_219 (by rw [hR.2]; decide) rfl (nI_add _ 1) ?_
            refine V_aload_n X dX6_fewest_222 rfl ?_
            refine V_getr X flX6_25 (ltN (by decide) hN) rfl rfl dX6_fewest_223 ?_
            refine V_iload X dX6_fewest_226 rfl ?_
            refine V_iconst X (-1) dX6_fewest_228 (by decide) ?_
            refine V_iastN X (ltN (by decide) hN) rfl (by omega) (by decide) dX6_fewest_229 ?_
            refine V_goto X 48 dX6_fewest_230 (by decide) ?_
            omega
          · refine V_iinc X (dv _) dX6_fewest_184 (by rw [hR.2]; decide) rfl (dv_m _) ?_
            refine V_goto X 48 dX6_fewest_187 (by decide) ?_
            rw [show n - j = 0 by omega, rowV] at hr
            rw [hr]
            exact kx _ _ hk
        · refine V_aload_n X dX6_fewest_141 rfl ?_
          refine V_getr X flX6_22 (ltN (by decide) hN) rfl rfl dX6_fewest_142 ?_
          refine V_aload_n X dX6_fewest_145 rfl ?_
          refine V_getr X flX6_25 (ltN (by decide) hN) rfl rfl dX6_fewest_146 ?_
          refine V_iload X dX6_fewest_149 rfl ?_
          refine V_ialdN X (ltN (by decide) hN) rfl (by omega) (by decide) dX6_fewest_151 ?_
          refine V_top (nI (j)) (hch) ?_
          refine V_ialdN X (ltN (by decide) hN) rfl (by omega) (by decide) dX6_fewest_152 ?_
          refine V_iload X dX6_fewest_153 rfl ?_
          refine V_iand X dX6_fewest_155 ?_
          refine V_if_ne X 173 dX6_fewest_156 (by decide) (fun h156 => ?_) (fun h156 => ?_)
          · have h156 : ¬ f j &&& lowF all c = 0 := by rw [← hf]; exact h156
            refine V_aload_n X dX6_fewest_173 rfl ?_
            refine V_getr X flX6_25 (ltN (by decide) hN) rfl rfl dX6_fewest_174 ?_
            refine V_iload X dX6_fewest_177 rfl ?_
            refine V_ialdN X (ltN (by decide) hN) rfl (by omega) (by decide) dX6_fewest_179 ?_
            refine V_top (nI (j)) (hch) ?_
            refine V_iload_n X dX6_fewest_180 rfl ?_
            refine V_cN_lt X 190 (by omega) (by omega) dX6_fewest_181 (by decide) (fun h181 => ?_) (fun h181 => ?_)
            · refine V_aload_n X dX6_fewest_190 rfl ?_
              refine V_getr X flX6_28 (ltN (by decide) hN) rfl rfl dX6_fewest_191 ?_
              refine V_iload X dX6_fewest_194 rfl ?_
              refine V_iconst X (nI 1) dX6_fewest_196 (by decide) ?_
              refine V_addN X dX6_fewest_197 ?_
              refine V_aload_n X dX6_fewest_198 rfl ?_
              refine V_getr X flX6_28 (ltN (by decide) hN) rfl rfl dX6_fewest_199 ?_
              refine V_iload X dX6_fewest_202 rfl ?_
              refine V_ialdN X (ltN (by decide) hN) rfl (by omega) (by decide) dX6_fewest_204 ?_
              refine V_top (c) (hc) ?_
              refine V_aload_n X dX6_fewest_205 rfl ?_
              refine V_getr X flX6_22 (ltN (by decide) hN) rfl rfl dX6_fewest_206 ?_
              refine V_aload_n X dX6_fewest_209 rfl ?_
              refine V_getr X flX6_25 (ltN (by decide) hN) rfl rfl dX6_fewest_210 ?_
              refine V_iload X dX6_fewest_213 rfl ?_
              refine V_ialdN X (ltN (by decide) hN) rfl (by omega) (by decide) dX6_fewest_215 ?_
              refine V_top (nI (j)) (hch) ?_
              refine V_ialdN X (ltN (by decide) hN) rfl (by omega) (by decide) dX6_fewest_216 ?_
              refine V_ior X dX6_fewest_217 ?_
              refine V_iastN X (ltN (by decide) hN) rfl (by omega) (by decide) dX6_fewest_218 ?_
              refine V_iinc X (nI (_ + 1)) dX6_fewest_219 (by rw [hR.2]; decide) rfl (nI_add _ 1) ?_
              refine V_aload_n X dX6_fewest_222 rfl ?_
              refine V_getr X flX6_25 (ltN (by decide) hN) rfl rfl dX6_fewest_223 ?_
              refine V_iload X dX6_fewest_226 rfl ?_
              refine V_iconst X (-1) dX6_fewest_228 (by decide) ?_
              refine V_iastN X (ltN (by decide) hN) rfl (by omega) (by decide) dX6_fewest_229 ?_
              refine V_goto X 48 dX6_fewest_230 (by decide) ?_
              refine hchild j b _ _ h138 hb (by rw [st_ne (by decide), st_ne (by decide)]; exact hf) (by rw [st_at, if_neg (by omega), st_at, if_pos ⟨rfl, rfl⟩, hf]) (by rw [st_at, if_pos ⟨rfl, rfl⟩]) h156 (fun S4 u4 hk4 => ?_)
              rw [dv_s]
              have h86 : S4 86 d = dv (j + 1) := by rw [(hk4.2 d (by omega)).1, st_at, if_neg (by omega), st_ne (by decide), dv_s]; exact hch
              have h87 : S4 87 d = c := by rw [(hk4.2 d (by omega)).2, st_ne (by decide), st_at, if_neg (by omega)]; exact hc
              have h85 : S4 85 = f := by rw [hk4.1 85 (by decide) (by decide), st_ne (by decide), st_ne (by decide)]; exact hf
              exact ih (j + 1) _ S4 _ (by omega) (by omega) (Nat.le_trans (hrc _ _) hb) h85 h87 h86 (kp_tr hk (kp_tr (kp_87 S2 _ (by omega)) (kp_tr (kp_86 _ _ (by omega)) (kp_dn hk4 (by omega))))) (by rw [show n - j = (n - (j + 1)) + 1 by omega, rowV, if_neg (by omega), if_neg h156] at hr; exact hr)
            · refine V_iinc X (dv _) dX6_fewest_184 (by rw [hR.2]; decide) rfl (dv_m _) ?_
              refine V_goto X 48 dX6_fewest_187 (by decide) ?_
              omega
          · have h156 : f j &&& lowF all c = 0 := by rw [← hf]; exact ts_nn h156
            refine V_aload_n X dX6_fewest_159 rfl ?_
            refine V_getr X flX6_25 (ltN (by decide) hN) rfl rfl dX6_fewest_160 ?_
            refine V_iload X dX6_fewest_163 rfl ?_
            refine V_dup2 X dX6_fewest_165 ?_
            refine V_ialdN X (ltN (by decide) hN) rfl (by omega) (by decide) dX6_fewest_166 ?_
            refine V_top (dv (j + 1)) (by rw [dv_s]; exact hch) ?_
            refine V_iconst X (nI 1) dX6_fewest_167 (by decide) ?_
            refine V_iadd X dX6_fewest_168 ?_
            refine V_top (nI (j + 1)) (dv_1 (j + 1)) ?_
            refine V_iastN X (ltN (by decide) hN) rfl (by omega) (by decide) dX6_fewest_169 ?_
            refine V_goto X 130 dX6_fewest_170 (by decide) ?_
            exact ihw (j + 1) _ (by omega) (by omega) (by omega) (by rw [st_ne (by decide)]; exact hf) (by rw [st_ne (by decide)]; exact hc) (by rw [st_at, if_pos ⟨rfl, rfl⟩]) (kp_tr hk (kp_86 S2 _ (Nat.le_refl d))) (by rw [show n - j = (n - (j + 1)) + 1 by omega, rowV, if_neg (by omega), if_pos h156] at hr; exact hr)
    refine V_iload X dX6_fewest_48 rfl ?_
    refine V_iN_lt X 233 (by omega) dX6_fewest_50 (by decide) ?_
    refine V_aload_n X dX6_fewest_53 rfl ?_
    refine V_getr X flX6_28 (ltN (by decide) hN) rfl rfl dX6_fewest_54 ?_
    refine V_iload X dX6_fewest_57 rfl ?_
    refine V_ialdN X (ltN (by decide) hN) rfl (by omega) (by decide) dX6_fewest_59 ?_
    refine V_top (c) (hc) ?_
    refine V_iload_n X dX6_fewest_60 rfl ?_
    refine V_icmp_ne X 73 dX6_fewest_61 (by decide) (fun h61 => ?_) (fun h61 => ?_)
    · refine V_aload_n X dX6_fewest_73 rfl ?_
      refine V_getr X flX6_28 (ltN (by decide) hN) rfl rfl dX6_fewest_74 ?_
      refine V_iload X dX6_fewest_77 rfl ?_
      refine V_ialdN X (ltN (by decide) hN) rfl (by omega) (by decide) dX6_fewest_79 ?_
      refine V_top (c) (hc) ?_
      refine V_iload_n X dX6_fewest_80 rfl ?_
      refine V_icmp_eq X 92 dX6_fewest_81 (by decide) (fun h81 => ?_) (fun h81 => ?_)
      · exact absurd h81 hca
      · refine V_iload X dX6_fewest_84 rfl ?_
        refine V_iconst X (nI 1) dX6_fewest_86 (by decide) ?_
        refine V_addN X dX6_fewest_87 ?_
        refine V_iload_n X dX6_fewest_88 rfl ?_
        refine V_cN_lt X 98 (by omega) (by omega) dX6_fewest_89 (by decide) (fun h89 => ?_) (fun h89 => ?_)
        · refine V_iload_n X dX6_fewest_98 rfl ?_
          refine V_aload_n X dX6_fewest_99 rfl ?_
          refine V_getr X flX6_28 (ltN (by decide) hN) rfl rfl dX6_fewest_100 ?_
          refine V_iload X dX6_fewest_103 rfl ?_
          refine V_ialdN X (ltN (by decide) hN) rfl (by omega) (by decide) dX6_fewest_105 ?_
          refine V_top (c) (hc) ?_
          refine V_iconst X (-1) dX6_fewest_106 (by decide) ?_
          refine V_ixor X dX6_fewest_107 ?_
          refine V_iand X dX6_fewest_108 ?_
          refine V_istore X dX6_fewest_109 (by rw [hR.2]; decide) ?_
          refine V_iload X dX6_fewest_111 rfl ?_
          refine V_iload X dX6_fewest_113 rfl ?_
          refine V_ineg X dX6_fewest_115 ?_
          refine V_iand X dX6_fewest_116 ?_
          refine V_istore X dX6_fewest_117 (by rw [hR.2]; decide) ?_
          refine V_aload_n X dX6_fewest_119 rfl ?_
          refine V_getr X flX6_25 (ltN (by decide) hN) rfl rfl dX6_fewest_120 ?_
          refine V_iload X dX6_fewest_123 rfl ?_
          refine V_dup2 X dX6_fewest_125 ?_
          refine V_ialdN X (ltN (by decide) hN) rfl (by omega) (by decide) dX6_fewest_126 ?_
          refine V_top (dv i) (hch0) ?_
          refine V_iconst X (nI 1) dX6_fewest_127 (by decide) ?_
          refine V_iadd X dX6_fewest_128 ?_
          refine V_top (nI (i)) (dv_1 i) ?_
          refine V_iastN X (ltN (by decide) hN) rfl (by omega) (by decide) dX6_fewest_129 ?_
          exact loopW h89 (n + 1) i _ (Nat.le_refl i) hin (by omega) (by rw [st_ne (by decide)]; exact hf0) (by rw [st_ne (by decide)]; exact hc) (by rw [st_at, if_pos ⟨rfl, rfl⟩]) (kp_tr hk0 (kp_86 S _ (Nat.le_refl d))) hr
        · refine V_iinc X (dv _) dX6_fewest_92 (by rw [hR.2]; decide) rfl (dv_m _) ?_
          refine V_goto X 48 dX6_fewest_95 (by decide) ?_
          rw [rowV_pop (by omega)] at hr
          rw [hr]
          exact kx _ _ hk0
    · exact absurd (ts_nn h61) hca

set_option maxRecDepth 100000 in
set_option maxHeartbeats 4000000 in
theorem dfs {G : Cx} {F : Fx} {n : Nat} {all : Int32} {f : Nat → Int32} (hN : 88 ≤ gN G) (X : CX F G cX6_fewest yX6_fewest.cls) (hR : fR F = rmD 7 ∧ fnL F = 6) (hn : n ≤ 36) {Ok : Nat → Int32 → Prop} (h0 : ∀ c, Ok 0 c → c = all) (hs : ∀ k c j, Ok (k + 1) c → ¬ c = all → j < n → ¬ f j &&& lowF all c = 0 → Ok k (c ||| f j)) : ∀ (k d : Nat) (c : Int32) (b : Nat) (S : Sx) (u : Option Value), d + k = 14 → b ≤ 36 → S 85 = f → S 87 d = c → S 86 d = -1 → Ok k c → (∀ (S' : Sx) (u : Option Value), kp S S' d → V F G S' 48 [some (ra G 80), some (.int (nI n)), some (.int all), some (.int (nI (vis f n all k d c b))), some (.int (dv d)), u] []) → V F G S 48 [some (ra G 80), some (.int (nI n)), some (.int all), some (.int (nI b)), some (.int (nI d)), u] [] := by
  intro k
  induction k with
  | zero =>
    intro d c b S u hd hb hf hc hch ok kx
    have e := h0 c ok
    rw [e] at hc kx
    exact dfs_all hN X hR (by omega) hb hc (by rw [vis, if_pos rfl] at kx; exact kx) u
  | succ k ih =>
    intro d c b S u hd hb hf hc hch ok kx
    by_cases e : c = all
    · rw [e] at hc kx
      exact dfs_all hN X hR (by omega) hb hc (by rw [vis, if_pos rfl] at kx; exact kx) u
    · rw [vis, if_neg e] at kx
      exact dfs_row (rc := fun c' b' => vis f n all k (d + 1) c' b') (S0 := S) hN X hR (by omega) hn e (fun c' b' => vis_le f n all k (d + 1) c' b') (fun j b2 S2 u2 hj hb2 hf2 h87 h86 hl kx2 => ih (d + 1) _ b2 S2 u2 (by omega) hb2 hf2 h87 h86 (hs k c j ok e hj hl) kx2) kx (n + 1) 0 b S u (by omega) (by omega) hb hf hc (by rw [hch]; decide) (kp_rf S d) rfl
def orA (f : Nat → Int32) : Nat → Int32
  | 0 => nI 0
  | k + 1 => orA f k ||| f k
set_option maxRecDepth 100000 in
set_option maxHeartbeats 4000000 in
theorem kX6_fewest {G : Cx} {S : Sx} (hN : 88 ≤ gN G) {n : Nat} (hn : S 80 0 = nI n) (hn14 : n ≤ 14) (hMR : MR S n) {Ok : Nat → Int32 → Prop} (h0 : ∀ c, Ok 0 c → c = orA (gtL ((rdL S n).1 85) (fun q => akF ((rdL S n).1 83) (qk q) (qa q) (rdL S n).2) (36)).1 (gtL ((rdL S n).1 85) (fun q => akF ((rdL S n).1 83) (qk q) (qa q) (rdL S n).2) (36)).2) (hs : ∀ k c j, Ok (k + 1) c → ¬ c = orA (gtL ((rdL S n).1 85) (fun q => akF ((rdL S n).1 83) (qk q) (qa q) (rdL S n).2) (36)).1 (gtL ((rdL S n).1 85) (fun q => akF ((rdL S n).1 83) (qk q) (qa q) (rdL S n).2) (36)).2 → j < (gtL ((rdL S n).1 85) (fun q => akF ((rdL S n).1 83) (qk q) (qa q) (rdL S n).2) (36)).2 → ¬ (gtL ((rdL S n).1 85) (fun q => akF ((rdL S n).1 83) (qk q) (qa q) (rdL S n).2) (36)).1 j &&& lowF (orA (gtL ((rdL S n).1 85) (fun q => akF ((rdL S n).1 83) (qk q) (qa q) (rdL S n).2) (36)).1 (gtL ((rdL S n).1 85) (fun q => akF ((rdL S n).1 83) (qk q) (qa q) (rdL S n).2) (36)).2) c = 0 → Ok k (c ||| (gtL ((rdL S n).1 85) (fun q => akF ((rdL S n).1 83) (qk q) (qa q) (rdL S n).2) (36)).1 j)) (hOk : Ok 14 (nI 0)) : CTp G 7 yX6_fewest cX6_fewest 6 (some .int) [ra G 80] S (fun r S' => r = nI (vis (gtL ((rdL S n).1 85) (fun q => akF ((rdL S n).1 83) (qk q) (qa q) (rdL S n).2) (36)).1 (gtL ((rdL S n).1 85) (fun q => akF ((rdL S n).1 83) (qk q) (qa q) (rdL S n).2) (36)).2 (orA (gtL ((rdL S n).1 85) (fun q => akF ((rdL S n).1 83) (qk q) (qa q) (rdL S n).2) (36)).1 (gtL ((rdL S n).1 85) (fun q => akF ((rdL S n).1 83) (qk q) (qa q) (rdL S n).2) (36)).2) 14 0 (nI 0) (gtL ((rdL S n).1 85) (fun q => akF ((rdL S n).1 83) (qk q) (qa q) (rdL S n).2) (36)).2) ∧ ∀ q, q ≠ 86 → q ≠ 87 → S' q = pce (rdL S n).1 (gtL ((rdL S n).1 85) (fun q => akF ((rdL S n).1 83) (qk q) (qa q) (rdL S n).2) (36)).1 q) := by
  have hz36 : (gtL ((rdL S n).1 85) (fun q => akF ((rdL S n).1 83) (qk q) (qa q) (rdL S n).2) (36)).2 ≤ 36 := gtL_le _ _ 36
  refine CTp_of (by decide) (Nat.le_of_ble_eq_true rfl) (by intro v hv; simp only [List.mem_cons, List.not_mem_nil, or_false] at hv; rcases hv with rfl <;> rfl) (fun F X E => ?_)
  have hR := RIp_R E
  have loop : (∀ (u : Option Value), V F G (pce (rdL S n).1 (gtL ((rdL S n).1 85) (fun q => akF ((rdL S n).1 83) (qk q) (qa q) (rdL S n).2) (36)).1) 29 [some (ra G 80), some (.int (nI (gtL ((rdL S n).1 85) (fun q => akF ((rdL S n).1 83) (qk q) (qa q) (rdL S n).2) (36)).2)), some (.int (orA (gtL ((rdL S n).1 85) (fun q => akF ((rdL S n).1 83) (qk q) (qa q) (rdL S n).2) (36)).1 (gtL ((rdL S n).1 85) (fun q => akF ((rdL S n).1 83) (qk q) (qa q) (rdL S n).2) (36)).2)), u, none, none] []) → ∀ (fu i : Nat) (a : Int32), i ≤ (gtL ((rdL S n).1 85) (fun q => akF ((rdL S n).1 83) (qk q) (qa q) (rdL S n).2) (36)).2 → (gtL ((rdL S n).1 85) (fun q => akF ((rdL S n).1 83) (qk q) (qa q) (rdL S n).2) (36)).2 - i < fu → a = orA (gtL ((rdL S n).1 85) (fun q => akF ((rdL S n).1 83) (qk q) (qa q) (rdL S n).2) (36)).1 i → V F G (pce (rdL S n).1 (gtL ((rdL S n).1 85) (fun q => akF ((rdL S n).1 83) (qk q) (qa q) (rdL S n).2) (36)).1) 9 [some (ra G 80), some (.int (nI (gtL ((rdL S n).1 85) (fun q => akF ((rdL S n).1 83) (qk q) (qa q) (rdL S n).2) (36)).2)), some (.int a), some (.int (nI i)), none, none] [] := by
    intro kx fu
    induction fu with
    | zero => intro i a h1 h2; omega
    | succ fu ih =>
      intro i a h1 h2 ha
      refine V_iload_n X dX6_fewest_9 rfl ?_
      refine V_iload_n X dX6_fewest_10 rfl ?_
      refine V_cN_ge X 29 (by omega) (by omega) dX6_fewest_11 (by decide) (fun h11 => ?_) (fun h11 => ?_)
      · rw [show i = (gtL ((rdL S n).1 85) (fun q => akF ((rdL S n).1 83) (qk q) (qa q) (rdL S n).2) (36)).2 by omega] at ha
        subst ha
        exact kx _
      · refine V_iload_n X dX6_fewest_14 rfl ?_
        refine V_aload_n X dX6_fewest_15 rfl ?_
        refine V_getr X flX6_22 (ltN (by decide) hN) rfl rfl dX6_fewest_16 ?_
        refine V_iload_n X dX6_fewest_19 rfl ?_
        refine V_ialdN X (ltN (by decide) hN) rfl (by omega) (by decide) dX6_fewest_20 ?_
        refine V_ior X dX6_fewest_21 ?_
        refine V_istore_n X dX6_fewest_22 (by rw [hR.2]; decide) ?_
        refine V_iinc X (nI (_ + 1)) dX6_fewest_23 (by rw [hR.2]; decide) rfl (nI_add _ 1) ?_
        refine V_goto X 9 dX6_fewest_26 (by decide) ?_
        exact ih (i + 1) _ (by omega) (by omega) (by rw [ha, pce_85]; rfl)
  refine V_aload_n X dX6_fewest_0 rfl ?_
  refine V_cvi X (ltN (by decide) hN) rfl rfl rfl (kX6_gathers hN hn hn14 hMR) cwX6_117 rfl (rm_ok hR (by decide) (by decide)) (Nat.le_of_ble_eq_true rfl) dX6_fewest_1 ?_
  refine V_istore_n X dX6_fewest_4 (by rw [hR.2]; decide) ?_
  refine V_iconst X (nI 0) dX6_fewest_5 (by decide) ?_
  refine V_istore_n X dX6_fewest_6 (by rw [hR.2]; decide) ?_
  refine V_iconst X (nI 0) dX6_fewest_7 (by decide) ?_
  refine V_istore_n X dX6_fewest_8 (by rw [hR.2]; decide) ?_
  refine loop (fun u => ?_) 37 0 _ (by omega) (by omega) rfl
  refine V_iload_n X dX6_fewest_29 rfl ?_
  refine V_istore_n X dX6_fewest_30 (by rw [hR.2]; decide) ?_
  refine V_iconst X (nI 0) dX6_fewest_31 (by decide) ?_
  refine V_istore X dX6_fewest_32 (by rw [hR.2]; decide) ?_
  refine V_aload_n X dX6_fewest_34 rfl ?_
  refine V_getr X flX6_28 (ltN (by decide) hN) rfl rfl dX6_fewest_35 ?_
  refine V_iconst X (nI 0) dX6_fewest_38 (by decide) ?_
  refine V_iconst X (nI 0) dX6_fewest_39 (by decide) ?_
  refine V_iastN X (ltN (by decide) hN) rfl (by omega) (by decide) dX6_fewest_40 ?_
  refine V_aload_n X dX6_fewest_41 rfl ?_
  refine V_getr X flX6_25 (ltN (by decide) hN) rfl rfl dX6_fewest_42 ?_
  refine V_iconst X (nI 0) dX6_fewest_45 (by decide) ?_
  refine V_iconst X (-1) dX6_fewest_46 (by decide) ?_
  refine V_iastN X (ltN (by decide) hN) rfl (by omega) (by decide) dX6_fewest_47 ?_
  refine dfs (f := (gtL ((rdL S n).1 85) (fun q => akF ((rdL S n).1 83) (qk q) (qa q) (rdL S n).2) (36)).1) hN X hR hz36 h0 hs 14 0 (nI 0) (gtL ((rdL S n).1 85) (fun q => akF ((rdL S n).1 83) (qk q) (qa q) (rdL S n).2) (36)).2 _ none rfl hz36 (by rw [st_ne (by decide), st_ne (by decide), pce_85]) (by rw [st_ne (by decide), st_at, if_pos ⟨rfl, rfl⟩]) (by rw [st_at, if_pos ⟨rfl, rfl⟩]) hOk (fun S2 u hk => ?_)
  refine V_iload X dX6_fewest_48 rfl ?_
  refine V_if_lt X 233 dX6_fewest_50 (by decide) (fun h50 => ?_) (fun h50 => ?_)
  · refine V_iload_n X dX6_fewest_233 rfl ?_
    exact V_iretp X E dX6_fewest_234 ⟨rfl, fun q a b => (hk.1 q a b).trans (by rw [st_ne a, st_ne b])⟩
  · exact absurd dv_0 h50

