def hc2 (f : Nat → Int32) (x : Nat) (y : Int32) : Nat → Nat
  | 0 => 0
  | k + 1 => hc2 f x y k + (if f (x + 16 + k) = y then 1 else 0)
def hb2 (f : Nat → Int32) (x : Nat) (y : Int32) : Nat → Int32
  | 0 => nI 0
  | k + 1 => hb2 f x y k ||| (if f (x + 16 + k) = y then f (x + 26 + k) else nI 0)
def tlP (f : Nat → Int32) (x a : Nat) : Int32 := if f (x + 16 + a) = -1 then (if f (x + 36 + a) = nI 1 then f (x + 46 + a) else -1) else f (x + 0 + (f (x + 16 + a)).toNatClampNeg)
def un (v : Int32) : Int32 := if v = -1 then -2 else v
def tlF (f : Nat → Int32) (x k a : Nat) : Int32 := if k = 0 then un (f (x + 0 + a)) else if k = 3 then nI (hc2 f x (nI a) 10) else if k = 2 then (if f (x + 16 + a) = -1 then (if f (x + 36 + a) = nI 1 then nI 9 else -2) else f (x + 16 + a)) else un (tlP f x a)
def okR (f : Nat → Int32) (x : Nat) : Prop := ∀ t, t < 10 → (f (x + 16 + t) = -1 ∨ ∃ p, p < 8 ∧ f (x + 16 + t) = nI p)
theorem un_t {v : Int32} (h : v = -1) : (-2 : Int32) = un v := (if_pos h).symm
theorem un_f {v : Int32} (h : ¬ v = -1) : v = un v := (if_neg h).symm
theorem hc2_le (f : Nat → Int32) (x : Nat) (y : Int32) : ∀ k, hc2 f x y k ≤ k
  | 0 => Nat.le_refl _
  | k + 1 => by have := hc2_le f x y k; unfold hc2; split <;> omega

set_option maxRecDepth 100000 in
set_option maxHeartbeats 4000000 in
theorem kX6_tells {G : Cx} {S : Sx} (hN : 88 ≤ gN G) {k a r : Nat} (hq : qOk k a) (hr : r < 256) (hR1 : okR (S 83) (104 * r)) : CT G (0) yX6_tells cX6_tells 8 (some .int) [ra G 80, .int (nI k), .int (nI a), .int (nI r)] S (tlF (S 83) (104 * r) k a) (S) := by
  have hq1 : a < 10 := (by have := hq; unfold qOk at this; omega)
  have hq2 : k < 4 := hq.1
  have hq3 : k = 0 → a < 8 := (by have := hq; unfold qOk at this; omega)
  refine CT_of (by decide) (Nat.le_of_ble_eq_true rfl) (by intro v hv; simp only [List.mem_cons, List.not_mem_nil, or_false] at hv; rcases hv with rfl | rfl | rfl | rfl <;> rfl) (fun F X E => ?_)
  have hR := RI_R E
  have loop : k = 3 → ∀ (f i z : Nat), i ≤ 10 → 10 - i < f → z = hc2 (S 83) (104 * r) (nI a) i → V F G S 53 [some (ra G 80), some (.int (nI k)), some (.int (nI a)), some (.int (nI r)), some (.int (nI (104 * r))), some (.int (nI z)), some (.int (nI i)), none] [] := by
    intro h44 f
    induction f with
    | zero => intro i z h1 h2; omega
    | succ f ih =>
      intro i z h1 h2 hz
      refine V_iload X dX6_tells_53 rfl ?_
      refine V_bipush X (nI 10) dX6_tells_55 (by decide) ?_
      refine V_cN_ge X 93 (by (have := hc2_le (S 83) (104 * r) (nI a) i; omega)) (by (have := hc2_le (S 83) (104 * r) (nI a) i; omega)) dX6_tells_57 (by decide) (fun h57 => ?_) (fun h57 => ?_)
      · refine V_iload X dX6_tells_93 rfl ?_
        exact V_iret X E dX6_tells_95 (by rw [hz, show i = 10 by omega, h44]; rfl) rfl
      · refine V_iload X dX6_tells_60 rfl ?_
        refine V_aload_n X dX6_tells_62 rfl ?_
        refine V_getr X flX6_16 (ltN (by decide) hN) rfl rfl dX6_tells_63 ?_
        refine V_iload X dX6_tells_66 rfl ?_
        refine V_bipush X (nI 16) dX6_tells_68 (by decide) ?_
        refine V_addN X dX6_tells_70 ?_
        refine V_iload X dX6_tells_71 rfl ?_
        refine V_addN X dX6_tells_73 ?_
        refine V_ialdN X (ltN (by decide) hN) rfl (by (have := hc2_le (S 83) (104 * r) (nI a) i; omega)) (by decide) dX6_tells_74 ?_
        refine V_iload_n X dX6_tells_75 rfl ?_
        refine V_icmp_ne X 83 dX6_tells_76 (by decide) (fun h76 => ?_) (fun h76 => ?_)
        · refine V_iconst X (nI 0) dX6_tells_83 (by decide) ?_
          refine V_addN X dX6_tells_84 ?_
          refine V_istore X dX6_tells_85 (by rw [hR.2]; decide) ?_
          refine V_iinc X (nI (_ + 1)) dX6_tells_87 (by rw [hR.2]; decide) rfl (nI_add _ 1) ?_
          refine V_goto X 53 dX6_tells_90 (by decide) ?_
          exact ih (i + 1) _ (by omega) (by omega) (by rw [hz, hc2]; first | rw [if_pos (ts_nn h76)] | rw [if_neg h76])
        · refine V_iconst X (nI 1) dX6_tells_79 (by decide) ?_
          refine V_goto X 84 dX6_tells_80 (by decide) ?_
          refine V_addN X dX6_tells_84 ?_
          refine V_istore X dX6_tells_85 (by rw [hR.2]; decide) ?_
          refine V_iinc X (nI (_ + 1)) dX6_tells_87 (by rw [hR.2]; decide) rfl (nI_add _ 1) ?_
          refine V_goto X 53 dX6_tells_90 (by decide) ?_
          exact ih (i + 1) _ (by omega) (by omega) (by rw [hz, hc2]; first | rw [if_pos (ts_nn h76)] | rw [if_neg h76])
  refine V_bipush X (nI 104) dX6_tells_0 (by decide) ?_
  refine V_iload_n X dX6_tells_2 rfl ?_
  refine V_mulN X dX6_tells_3 ?_
  refine V_istore X dX6_tells_4 (by rw [hR.2]; decide) ?_
  refine V_iload_n X dX6_tells_6 rfl ?_
  refine V_iN_ne X 42 (by omega) dX6_tells_7 (by decide) (fun h7 => ?_) (fun h7 => ?_)
  · refine V_iload_n X dX6_tells_42 rfl ?_
    refine V_iconst X (nI 3) dX6_tells_43 (by decide) ?_
    refine V_cN_ne X 96 (by omega) (by omega) dX6_tells_44 (by decide) (fun h44 => ?_) (fun h44 => ?_)
    · refine V_aload_n X dX6_tells_96 rfl ?_
      refine V_getr X flX6_16 (ltN (by decide) hN) rfl rfl dX6_tells_97 ?_
      refine V_iload X dX6_tells_100 rfl ?_
      refine V_bipush X (nI 16) dX6_tells_102 (by decide) ?_
      refine V_addN X dX6_tells_104 ?_
      refine V_iload_n X dX6_tells_105 rfl ?_
      refine V_addN X dX6_tells_106 ?_
      refine V_ialdN X (ltN (by decide) hN) rfl (by omega) (by decide) dX6_tells_107 ?_
      refine V_istore X dX6_tells_108 (by rw [hR.2]; decide) ?_
      refine V_aload_n X dX6_tells_110 rfl ?_
      refine V_getr X flX6_16 (ltN (by decide) hN) rfl rfl dX6_tells_111 ?_
      refine V_iload X dX6_tells_114 rfl ?_
      refine V_bipush X (nI 36) dX6_tells_116 (by decide) ?_
      refine V_addN X dX6_tells_118 ?_
      refine V_iload_n X dX6_tells_119 rfl ?_
      refine V_addN X dX6_tells_120 ?_
      refine V_ialdN X (ltN (by decide) hN) rfl (by omega) (by decide) dX6_tells_121 ?_
      refine V_iconst X (nI 1) dX6_tells_122 (by decide) ?_
      refine V_icmp_ne X 130 dX6_tells_123 (by decide) (fun h123 => ?_) (fun h123 => ?_)
      · refine V_iconst X (nI 0) dX6_tells_130 (by decide) ?_
        refine V_istore X dX6_tells_131 (by rw [hR.2]; decide) ?_
        refine V_iload_n X dX6_tells_133 rfl ?_
        refine V_iconst X (nI 2) dX6_tells_134 (by decide) ?_
        refine V_cN_ne X 162 (by omega) (by omega) dX6_tells_135 (by decide) (fun h135 => ?_) (fun h135 => ?_)
        · refine V_iload X dX6_tells_162 rfl ?_
          refine V_iconst X (-1) dX6_tells_164 (by decide) ?_
          refine V_icmp_eq X 183 dX6_tells_165 (by decide) (fun h165 => ?_) (fun h165 => ?_)
          · refine V_iload X dX6_tells_183 rfl ?_
            refine V_iN_eq X 203 (by omega) dX6_tells_185 (by decide) (fun h185 => ?_) (fun h185 => ?_)
            · refine V_iconst X (-1) dX6_tells_203 (by decide) ?_
              refine V_istore X dX6_tells_204 (by rw [hR.2]; decide) ?_
              refine V_iload X dX6_tells_206 rfl ?_
              refine V_iconst X (-1) dX6_tells_208 (by decide) ?_
              refine V_icmp_ne X 217 dX6_tells_209 (by decide) (fun h209 => ?_) (fun h209 => ?_)
              · refine V_iload X dX6_tells_217 rfl ?_
                exact V_iret X E dX6_tells_219 (by unfold tlF; rw [if_neg h7, if_neg h44, if_neg h135]; first | (rw [show tlP (S 83) (104 * r) a = S 83 (104 * r + 46 + a) by unfold tlP; rw [if_pos h165, if_pos (ts_nn h123)]]; first | exact un_t (ts_nn h209) | exact un_f h209) | (rw [show tlP (S 83) (104 * r) a = -1 by unfold tlP; rw [if_pos h165, if_neg h123]]; first | exact un_t (ts_nn h209) | exact un_f h209)) rfl
              · refine V_bipush X (-2) dX6_tells_212 (by decide) ?_
                refine V_goto X 219 dX6_tells_214 (by decide) ?_
                exact V_iret X E dX6_tells_219 (by unfold tlF; rw [if_neg h7, if_neg h44, if_neg h135]; first | (rw [show tlP (S 83) (104 * r) a = S 83 (104 * r + 46 + a) by unfold tlP; rw [if_pos h165, if_pos (ts_nn h123)]]; first | exact un_t (ts_nn h209) | exact un_f h209) | (rw [show tlP (S 83) (104 * r) a = -1 by unfold tlP; rw [if_pos h165, if_neg h123]]; first | exact un_t (ts_nn h209) | exact un_f h209)) rfl
            · exact absurd h185 (by decide)
          · rcases hR1 a hq1 with e16 | ⟨p, hp, ep⟩
            · exact absurd e16 h165
            rw [ep]
            refine V_aload_n X dX6_tells_168 rfl ?_
            refine V_getr X flX6_16 (ltN (by decide) hN) rfl rfl dX6_tells_169 ?_
            refine V_iload X dX6_tells_172 rfl ?_
            refine V_iconst X (nI 0) dX6_tells_174 (by decide) ?_
            refine V_addN X dX6_tells_175 ?_
            refine V_iload X dX6_tells_176 rfl ?_
            refine V_addN X dX6_tells_178 ?_
            refine V_ialdN X (ltN (by decide) hN) rfl (by omega) (by decide) dX6_tells_179 ?_
            refine V_goto X 204 dX6_tells_180 (by decide) ?_
            refine V_istore X dX6_tells_204 (by rw [hR.2]; decide) ?_
            refine V_iload X dX6_tells_206 rfl ?_
            refine V_iconst X (-1) dX6_tells_208 (by decide) ?_
            refine V_icmp_ne X 217 dX6_tells_209 (by decide) (fun h209 => ?_) (fun h209 => ?_)
            · refine V_iload X dX6_tells_217 rfl ?_
              exact V_iret X E dX6_tells_219 (by unfold tlF; rw [if_neg h7, if_neg h44, if_neg h135]; rw [show tlP (S 83) (104 * r) a = S 83 (104 * r + 0 + p) by unfold tlP; rw [if_neg h165, ep, nI_clamp (by omega)]]; first | exact un_t (ts_nn h209) | exact un_f h209) rfl
            · refine V_bipush X (-2) dX6_tells_212 (by decide) ?_
              refine V_goto X 219 dX6_tells_214 (by decide) ?_
              exact V_iret X E dX6_tells_219 (by unfold tlF; rw [if_neg h7, if_neg h44, if_neg h135]; rw [show tlP (S 83) (104 * r) a = S 83 (104 * r + 0 + p) by unfold tlP; rw [if_neg h165, ep, nI_clamp (by omega)]]; first | exact un_t (ts_nn h209) | exact un_f h209) rfl
        · refine V_iload X dX6_tells_138 rfl ?_
          refine V_iconst X (-1) dX6_tells_140 (by decide) ?_
          refine V_icmp_eq X 149 dX6_tells_141 (by decide) (fun h141 => ?_) (fun h141 => ?_)
          · refine V_iload X dX6_tells_149 rfl ?_
            refine V_iN_eq X 159 (by omega) dX6_tells_151 (by decide) (fun h151 => ?_) (fun h151 => ?_)
            · refine V_bipush X (-2) dX6_tells_159 (by decide) ?_
              exact V_iret X E dX6_tells_161 (by unfold tlF; rw [if_neg h7, if_neg h44, if_pos h135]; rw [if_pos h141]; first | exact (if_pos (ts_nn h123)).symm | exact (if_neg h123).symm) rfl
            · exact absurd h151 (by decide)
          · refine V_iload X dX6_tells_144 rfl ?_
            refine V_goto X 161 dX6_tells_146 (by decide) ?_
            exact V_iret X E dX6_tells_161 (by unfold tlF; rw [if_neg h7, if_neg h44, if_pos h135]; exact (if_neg h141).symm) rfl
      · refine V_iconst X (nI 1) dX6_tells_126 (by decide) ?_
        refine V_goto X 131 dX6_tells_127 (by decide) ?_
        refine V_istore X dX6_tells_131 (by rw [hR.2]; decide) ?_
        refine V_iload_n X dX6_tells_133 rfl ?_
        refine V_iconst X (nI 2) dX6_tells_134 (by decide) ?_
        refine V_cN_ne X 162 (by omega) (by omega) dX6_tells_135 (by decide) (fun h135 => ?_) (fun h135 => ?_)
        · refine V_iload X dX6_tells_162 rfl ?_
          refine V_iconst X (-1) dX6_tells_164 (by decide) ?_
          refine V_icmp_eq X 183 dX6_tells_165 (by decide) (fun h165 => ?_) (fun h165 => ?_)
          · refine V_iload X dX6_tells_183 rfl ?_
            refine V_iN_eq X 203 (by omega) dX6_tells_185 (by decide) (fun h185 => ?_) (fun h185 => ?_)
            · exact absurd h185 (by decide)
            · refine V_aload_n X dX6_tells_188 rfl ?_
              refine V_getr X flX6_16 (ltN (by decide) hN) rfl rfl dX6_tells_189 ?_
              refine V_iload X dX6_tells_192 rfl ?_
              refine V_bipush X (nI 46) dX6_tells_194 (by decide) ?_
              refine V_addN X dX6_tells_196 ?_
              refine V_iload_n X dX6_tells_197 rfl ?_
              refine V_addN X dX6_tells_198 ?_
              refine V_ialdN X (ltN (by decide) hN) rfl (by omega) (by decide) dX6_tells_199 ?_
              refine V_goto X 204 dX6_tells_200 (by decide) ?_
              refine V_istore X dX6_tells_204 (by rw [hR.2]; decide) ?_
              refine V_iload X dX6_tells_206 rfl ?_
              refine V_iconst X (-1) dX6_tells_208 (by decide) ?_
              refine V_icmp_ne X 217 dX6_tells_209 (by decide) (fun h209 => ?_) (fun h209 => ?_)
              · refine V_iload X dX6_tells_217 rfl ?_
                exact V_iret X E dX6_tells_219 (by unfold tlF; rw [if_neg h7, if_neg h44, if_neg h135]; first | (rw [show tlP (S 83) (104 * r) a = S 83 (104 * r + 46 + a) by unfold tlP; rw [if_pos h165, if_pos (ts_nn h123)]]; first | exact un_t (ts_nn h209) | exact un_f h209) | (rw [show tlP (S 83) (104 * r) a = -1 by unfold tlP; rw [if_pos h165, if_neg h123]]; first | exact un_t (ts_nn h209) | exact un_f h209)) rfl
              · refine V_bipush X (-2) dX6_tells_212 (by decide) ?_
                refine V_goto X 219 dX6_tells_214 (by decide) ?_
                exact V_iret X E dX6_tells_219 (by unfold tlF; rw [if_neg h7, if_neg h44, if_neg h135]; first | (rw [show tlP (S 83) (104 * r) a = S 83 (104 * r + 46 + a) by unfold tlP; rw [if_pos h165, if_pos (ts_nn h123)]]; first | exact un_t (ts_nn h209) | exact un_f h209) | (rw [show tlP (S 83) (104 * r) a = -1 by unfold tlP; rw [if_pos h165, if_neg h123]]; first | exact un_t (ts_nn h209) | exact un_f h209)) rfl
          · rcases hR1 a hq1 with e16 | ⟨p, hp, ep⟩
            · exact absurd e16 h165
            rw [ep]
            refine V_aload_n X dX6_tells_168 rfl ?_
            refine V_getr X flX6_16 (ltN (by decide) hN) rfl rfl dX6_tells_169 ?_
            refine V_iload X dX6_tells_172 rfl ?_
            refine V_iconst X (nI 0) dX6_tells_174 (by decide) ?_
            refine V_addN X dX6_tells_175 ?_
            refine V_iload X dX6_tells_176 rfl ?_
            refine V_addN X dX6_tells_178 ?_
            refine V_ialdN X (ltN (by decide) hN) rfl (by omega) (by decide) dX6_tells_179 ?_
            refine V_goto X 204 dX6_tells_180 (by decide) ?_
            refine V_istore X dX6_tells_204 (by rw [hR.2]; decide) ?_
            refine V_iload X dX6_tells_206 rfl ?_
            refine V_iconst X (-1) dX6_tells_208 (by decide) ?_
            refine V_icmp_ne X 217 dX6_tells_209 (by decide) (fun h209 => ?_) (fun h209 => ?_)
            · refine V_iload X dX6_tells_217 rfl ?_
              exact V_iret X E dX6_tells_219 (by unfold tlF; rw [if_neg h7, if_neg h44, if_neg h135]; rw [show tlP (S 83) (104 * r) a = S 83 (104 * r + 0 + p) by unfold tlP; rw [if_neg h165, ep, nI_clamp (by omega)]]; first | exact un_t (ts_nn h209) | exact un_f h209) rfl
            · refine V_bipush X (-2) dX6_tells_212 (by decide) ?_
              refine V_goto X 219 dX6_tells_214 (by decide) ?_
              exact V_iret X E dX6_tells_219 (by unfold tlF; rw [if_neg h7, if_neg h44, if_neg h135]; rw [show tlP (S 83) (104 * r) a = S 83 (104 * r + 0 + p) by unfold tlP; rw [if_neg h165, ep, nI_clamp (by omega)]]; first | exact un_t (ts_nn h209) | exact un_f h209) rfl
        · refine V_iload X dX6_tells_138 rfl ?_
          refine V_iconst X (-1) dX6_tells_140 (by decide) ?_
          refine V_icmp_eq X 149 dX6_tells_141 (by decide) (fun h141 => ?_) (fun h141 => ?_)
          · refine V_iload X dX6_tells_149 rfl ?_
            refine V_iN_eq X 159 (by omega) dX6_tells_151 (by decide) (fun h151 => ?_) (fun h151 => ?_)
            · exact absurd h151 (by decide)
            · refine V_bipush X (nI 9) dX6_tells_154 (by decide) ?_
              refine V_goto X 161 dX6_tells_156 (by decide) ?_
              exact V_iret X E dX6_tells_161 (by unfold tlF; rw [if_neg h7, if_neg h44, if_pos h135]; rw [if_pos h141]; first | exact (if_pos (ts_nn h123)).symm | exact (if_neg h123).symm) rfl
          · refine V_iload X dX6_tells_144 rfl ?_
            refine V_goto X 161 dX6_tells_146 (by decide) ?_
            exact V_iret X E dX6_tells_161 (by unfold tlF; rw [if_neg h7, if_neg h44, if_pos h135]; exact (if_neg h141).symm) rfl
    · refine V_iconst X (nI 0) dX6_tells_47 (by decide) ?_
      refine V_istore X dX6_tells_48 (by rw [hR.2]; decide) ?_
      refine V_iconst X (nI 0) dX6_tells_50 (by decide) ?_
      refine V_istore X dX6_tells_51 (by rw [hR.2]; decide) ?_
      exact loop h44 11 0 0 (by omega) (by omega) rfl
  · refine V_aload_n X dX6_tells_10 rfl ?_
    refine V_getr X flX6_16 (ltN (by decide) hN) rfl rfl dX6_tells_11 ?_
    refine V_iload X dX6_tells_14 rfl ?_
    refine V_iconst X (nI 0) dX6_tells_16 (by decide) ?_
    refine V_addN X dX6_tells_17 ?_
    refine V_iload_n X dX6_tells_18 rfl ?_
    refine V_addN X dX6_tells_19 ?_
    refine V_ialdN X (ltN (by decide) hN) rfl (by omega) (by decide) dX6_tells_20 ?_
    refine V_iconst X (-1) dX6_tells_21 (by decide) ?_
    refine V_icmp_ne X 30 dX6_tells_22 (by decide) (fun h22 => ?_) (fun h22 => ?_)
    · refine V_aload_n X dX6_tells_30 rfl ?_
      refine V_getr X flX6_16 (ltN (by decide) hN) rfl rfl dX6_tells_31 ?_
      refine V_iload X dX6_tells_34 rfl ?_
      refine V_iconst X (nI 0) dX6_tells_36 (by decide) ?_
      refine V_addN X dX6_tells_37 ?_
      refine V_iload_n X dX6_tells_38 rfl ?_
      refine V_addN X dX6_tells_39 ?_
      refine V_ialdN X (ltN (by decide) hN) rfl (by omega) (by decide) dX6_tells_40 ?_
      exact V_iret X E dX6_tells_41 (by unfold tlF; rw [if_pos h7]; first | exact un_t (ts_nn h22) | exact un_f h22) rfl
    · refine V_bipush X (-2) dX6_tells_25 (by decide) ?_
      refine V_goto X 41 dX6_tells_27 (by decide) ?_
      exact V_iret X E dX6_tells_41 (by unfold tlF; rw [if_pos h7]; first | exact un_t (ts_nn h22) | exact un_f h22) rfl

def byF (f : Nat → Int32) (x k a : Nat) : Int32 := if tlF f x k a = -2 then nI 0 else if k = 0 then f (x + 8 + a) else if k = 3 then hb2 f x (nI a) 10 else if f (x + 16 + a) = -1 then (if k = 2 then f (x + 94 + a) else f (x + 56 + a)) else (f (x + 26 + a) ||| (if k = 1 then f (x + 8 + (f (x + 16 + a)).toNatClampNeg) else nI 0))

set_option maxRecDepth 100000 in
set_option maxHeartbeats 4000000 in
theorem kX6_by {G : Cx} {S : Sx} (hN : 88 ≤ gN G) {k a r : Nat} (hq : qOk k a) (hr : r < 256) (hR1 : okR (S 83) (104 * r)) : CT G (1) yX6_by cX6_by 7 (some .int) [ra G 80, .int (nI k), .int (nI a), .int (nI r)] S (byF (S 83) (104 * r) k a) (S) := by
  have hq1 : a < 10 := (by have := hq; unfold qOk at this; omega)
  have hq2 : k < 4 := hq.1
  have hq3 : k = 0 → a < 8 := (by have := hq; unfold qOk at this; omega)
  refine CT_of (by decide) (Nat.le_of_ble_eq_true rfl) (by intro v hv; simp only [List.mem_cons, List.not_mem_nil, or_false] at hv; rcases hv with rfl | rfl | rfl | rfl <;> rfl) (fun F X E => ?_)
  have hR := RI_R E
  have loop : ¬ tlF (S 83) (104 * r) k a = -2 → k ≠ 0 → k = 3 → ∀ (f i : Nat) (z : Int32), i ≤ 10 → 10 - i < f → z = hb2 (S 83) (104 * r) (nI a) i → V F G S 48 [some (ra G 80), some (.int (nI k)), some (.int (nI a)), some (.int (nI r)), some (.int (nI (104 * r))), some (.int z), some (.int (nI i))] [] := by
    intro h15 h21 h39 f
    induction f with
    | zero => intro i z h1 h2; omega
    | succ f ih =>
      intro i z h1 h2 hz
      refine V_iload X dX6_by_48 rfl ?_
      refine V_bipush X (nI 10) dX6_by_50 (by decide) ?_
      refine V_cN_ge X 100 (by omega) (by omega) dX6_by_52 (by decide) (fun h52 => ?_) (fun h52 => ?_)
      · refine V_iload X dX6_by_100 rfl ?_
        exact V_iret X E dX6_by_102 (by unfold byF; rw [if_neg h15, if_neg h21, if_pos h39, hz, show i = 10 by omega]) rfl
      · refine V_iload X dX6_by_55 rfl ?_
        refine V_aload_n X dX6_by_57 rfl ?_
        refine V_getr X flX6_16 (ltN (by decide) hN) rfl rfl dX6_by_58 ?_
        refine V_iload X dX6_by_61 rfl ?_
        refine V_bipush X (nI 16) dX6_by_63 (by decide) ?_
        refine V_addN X dX6_by_65 ?_
        refine V_iload X dX6_by_66 rfl ?_
        refine V_addN X dX6_by_68 ?_
        refine V_ialdN X (ltN (by decide) hN) rfl (by omega) (by decide) dX6_by_69 ?_
        refine V_iload_n X dX6_by_70 rfl ?_
        refine V_icmp_ne X 90 dX6_by_71 (by decide) (fun h71 => ?_) (fun h71 => ?_)
        · refine V_iconst X (nI 0) dX6_by_90 (by decide) ?_
          refine V_ior X dX6_by_91 ?_
          refine V_istore X dX6_by_92 (by rw [hR.2]; decide) ?_
          refine V_iinc X (nI (_ + 1)) dX6_by_94 (by rw [hR.2]; decide) rfl (nI_add _ 1) ?_
          refine V_goto X 48 dX6_by_97 (by decide) ?_
          exact ih (i + 1) _ (by omega) (by omega) (by rw [hz, hb2]; first | rw [if_pos (ts_nn h71)] | rw [if_neg h71])
        · refine V_aload_n X dX6_by_74 rfl ?_
          refine V_getr X flX6_16 (ltN (by decide) hN) rfl rfl dX6_by_75 ?_
          refine V_iload X dX6_by_78 rfl ?_
          refine V_bipush X (nI 26) dX6_by_80 (by decide) ?_
          refine V_addN X dX6_by_82 ?_
          refine V_iload X dX6_by_83 rfl ?_
          refine V_addN X dX6_by_85 ?_
          refine V_ialdN X (ltN (by decide) hN) rfl (by omega) (by decide) dX6_by_86 ?_
          refine V_goto X 91 dX6_by_87 (by decide) ?_
          refine V_ior X dX6_by_91 ?_
          refine V_istore X dX6_by_92 (by rw [hR.2]; decide) ?_
          refine V_iinc X (nI (_ + 1)) dX6_by_94 (by rw [hR.2]; decide) rfl (nI_add _ 1) ?_
          refine V_goto X 48 dX6_by_97 (by decide) ?_
          exact ih (i + 1) _ (by omega) (by omega) (by rw [hz, hb2]; first | rw [if_pos (ts_nn h71)] | rw [if_neg h71])
  refine V_bipush X (nI 104) dX6_by_0 (by decide) ?_
  refine V_iload_n X dX6_by_2 rfl ?_
  refine V_mulN X dX6_by_3 ?_
  refine V_istore X dX6_by_4 (by rw [hR.2]; decide) ?_
  refine V_aload_n X dX6_by_6 rfl ?_
  refine V_iload_n X dX6_by_7 rfl ?_
  refine V_iload_n X dX6_by_8 rfl ?_
  refine V_iload_n X dX6_by_9 rfl ?_
  refine V_cvi X (ltN (by decide) hN) rfl rfl rfl (kX6_tells hN hq hr hR1) cwX6_91 rfl (rm_ok hR (by decide) (by decide)) (Nat.le_of_ble_eq_true rfl) dX6_by_10 ?_
  refine V_bipush X (-2) dX6_by_13 (by decide) ?_
  refine V_icmp_ne X 20 dX6_by_15 (by decide) (fun h15 => ?_) (fun h15 => ?_)
  · refine V_iload_n X dX6_by_20 rfl ?_
    refine V_iN_ne X 37 (by omega) dX6_by_21 (by decide) (fun h21 => ?_) (fun h21 => ?_)
    · refine V_iload_n X dX6_by_37 rfl ?_
      refine V_iconst X (nI 3) dX6_by_38 (by decide) ?_
      refine V_cN_ne X 103 (by omega) (by omega) dX6_by_39 (by decide) (fun h39 => ?_) (fun h39 => ?_)
      · refine V_aload_n X dX6_by_103 rfl ?_
        refine V_getr X flX6_16 (ltN (by decide) hN) rfl rfl dX6_by_104 ?_
        refine V_iload X dX6_by_107 rfl ?_
        refine V_bipush X (nI 16) dX6_by_109 (by decide) ?_
        refine V_addN X dX6_by_111 ?_
        refine V_iload_n X dX6_by_112 rfl ?_
        refine V_addN X dX6_by_113 ?_
        refine V_ialdN X (ltN (by decide) hN) rfl (by omega) (by decide) dX6_by_114 ?_
        refine V_istore X dX6_by_115 (by rw [hR.2]; decide) ?_
        refine V_iload X dX6_by_117 rfl ?_
        refine V_iconst X (-1) dX6_by_119 (by decide) ?_
        refine V_icmp_ne X 146 dX6_by_120 (by decide) (fun h120 => ?_) (fun h120 => ?_)
        · refine V_aload_n X dX6_by_146 rfl ?_
          refine V_getr X flX6_16 (ltN (by decide) hN) rfl rfl dX6_by_147 ?_
          refine V_iload X dX6_by_150 rfl ?_
          refine V_bipush X (nI 26) dX6_by_152 (by decide) ?_
          refine V_addN X dX6_by_154 ?_
          refine V_iload_n X dX6_by_155 rfl ?_
          refine V_addN X dX6_by_156 ?_
          refine V_ialdN X (ltN (by decide) hN) rfl (by omega) (by decide) dX6_by_157 ?_
          refine V_iload_n X dX6_by_158 rfl ?_
          refine V_iconst X (nI 1) dX6_by_159 (by decide) ?_
          refine V_cN_ne X 179 (by omega) (by omega) dX6_by_160 (by decide) (fun h160 => ?_) (fun h160 => ?_)
          · refine V_iconst X (nI 0) dX6_by_179 (by decide) ?_
            refine V_ior X dX6_by_180 ?_
            exact V_iret X E dX6_by_181 (by unfold byF; rw [if_neg h15, if_neg h21, if_neg h39, if_neg h120]; first | (rw [if_pos h160, ep, nI_clamp (by omega)]) | (rw [if_neg h160])) rfl
          · rcases hR1 a hq1 with e16 | ⟨p, hp, ep⟩
            · exact absurd e16 h120
            rw [ep]
            refine V_aload_n X dX6_by_163 rfl ?_
            refine V_getr X flX6_16 (ltN (by decide) hN) rfl rfl dX6_by_164 ?_
            refine V_iload X dX6_by_167 rfl ?_
            refine V_bipush X (nI 8) dX6_by_169 (by decide) ?_
            refine V_addN X dX6_by_171 ?_
            refine V_iload X dX6_by_172 rfl ?_
            refine V_addN X dX6_by_174 ?_
            refine V_ialdN X (ltN (by decide) hN) rfl (by omega) (by decide) dX6_by_175 ?_
            refine V_goto X 180 dX6_by_176 (by decide) ?_
            refine V_ior X dX6_by_180 ?_
            exact V_iret X E dX6_by_181 (by unfold byF; rw [if_neg h15, if_neg h21, if_neg h39, if_neg h120]; first | (rw [if_pos h160, ep, nI_clamp (by omega)]) | (rw [if_neg h160])) rfl
        · refine V_aload_n X dX6_by_123 rfl ?_
          refine V_getr X flX6_16 (ltN (by decide) hN) rfl rfl dX6_by_124 ?_
          refine V_iload X dX6_by_127 rfl ?_
          refine V_iload_n X dX6_by_129 rfl ?_
          refine V_iconst X (nI 2) dX6_by_130 (by decide) ?_
          refine V_cN_ne X 139 (by omega) (by omega) dX6_by_131 (by decide) (fun h131 => ?_) (fun h131 => ?_)
          · refine V_bipush X (nI 56) dX6_by_139 (by decide) ?_
            refine V_addN X dX6_by_141 ?_
            refine V_iload_n X dX6_by_142 rfl ?_
            refine V_addN X dX6_by_143 ?_
            refine V_ialdN X (ltN (by decide) hN) rfl (by omega) (by decide) dX6_by_144 ?_
            exact V_iret X E dX6_by_145 (by unfold byF; rw [if_neg h15, if_neg h21, if_neg h39, if_pos (ts_nn h120)]; first | exact (if_pos h131).symm | exact (if_neg h131).symm) rfl
          · refine V_bipush X (nI 94) dX6_by_134 (by decide) ?_
            refine V_goto X 141 dX6_by_136 (by decide) ?_
            refine V_addN X dX6_by_141 ?_
            refine V_iload_n X dX6_by_142 rfl ?_
            refine V_addN X dX6_by_143 ?_
            refine V_ialdN X (ltN (by decide) hN) rfl (by omega) (by decide) dX6_by_144 ?_
            exact V_iret X E dX6_by_145 (by unfold byF; rw [if_neg h15, if_neg h21, if_neg h39, if_pos (ts_nn h120)]; first | exact (if_pos h131).symm | exact (if_neg h131).symm) rfl
      · refine V_iconst X (nI 0) dX6_by_42 (by decide) ?_
        refine V_istore X dX6_by_43 (by rw [hR.2]; decide) ?_
        refine V_iconst X (nI 0) dX6_by_45 (by decide) ?_
        refine V_istore X dX6_by_46 (by rw [hR.2]; decide) ?_
        exact loop h15 h21 h39 11 0 _ (by omega) (by omega) rfl
    · refine V_aload_n X dX6_by_24 rfl ?_
      refine V_getr X flX6_16 (ltN (by decide) hN) rfl rfl dX6_by_25 ?_
      refine V_iload X dX6_by_28 rfl ?_
      refine V_bipush X (nI 8) dX6_by_30 (by decide) ?_
      refine V_addN X dX6_by_32 ?_
      refine V_iload_n X dX6_by_33 rfl ?_
      refine V_addN X dX6_by_34 ?_
      refine V_ialdN X (ltN (by decide) hN) rfl (by omega) (by decide) dX6_by_35 ?_
      exact V_iret X E dX6_by_36 (by unfold byF; rw [if_neg h15, if_pos h21]) rfl
  · refine V_iconst X (nI 0) dX6_by_18 (by decide) ?_
    exact V_iret X E dX6_by_19 (by unfold byF; rw [if_pos (ts_nn h15)]) rfl

def anA (f : Nat → Int32) (k a m : Nat) : Bool := (List.range m).all (fun r => decide (tlF f (104 * r) k a = tlF f (104 * 0) k a))
def anF (f : Nat → Int32) (k a m : Nat) : Int32 := if anA f k a m then tlF f (104 * 0) k a else -3
theorem anA_t {f : Nat → Int32} {k a m : Nat} (h : ∀ r, r < m → tlF f (104 * r) k a = tlF f (104 * 0) k a) : anA f k a m = true := List.all_eq_true.mpr (fun r hr => decide_eq_true (h r (List.mem_range.mp hr)))
theorem anA_f {f : Nat → Int32} {k a m r : Nat} (hr : r < m) (h : ¬ tlF f (104 * r) k a = tlF f (104 * 0) k a) : anA f k a m = false := by
  rw [← Bool.not_eq_true]; intro q
  exact h (of_decide_eq_true (List.all_eq_true.mp q r (List.mem_range.mpr hr)))
def akL (f : Nat → Int32) (k a : Nat) : Nat → Int32
  | 0 => byF f (104 * 0) k a
  | j + 1 => akL f k a j &&& byF f (104 * (j + 1)) k a
def akF (f : Nat → Int32) (k a m : Nat) : Int32 := if anF f k a m < 0 then nI 0 else akL f k a (m - 1)
def bsF (h : Int32) : Nat → Int32
  | 0 => nI 0
  | k + 1 => bsF h k + ((h >>> (nI k &&& 31)) &&& nI 1)
def lvF (f : Nat → Int32) (k a : Nat) : Nat → Int32
  | 0 => nI 0
  | r + 1 => mx (lvF f k a r) (bsF (byF f (104 * r) k a) 14)

set_option maxRecDepth 100000 in
set_option maxHeartbeats 4000000 in
theorem kX6_answers {G : Cx} {S : Sx} (hN : 88 ≤ gN G) {k a m : Nat} (hq : qOk k a) (hm : S 80 5 = nI m) (hm1 : 1 ≤ m) (hm64 : m ≤ 64) (hR1 : ∀ r, r < m → okR (S 83) (104 * r)) : CT G (1) yX6_answers cX6_answers 5 (some .int) [ra G 80, .int (nI k), .int (nI a)] S (anF (S 83) k a m) (S) := by
  refine CT_of (by decide) (Nat.le_of_ble_eq_true rfl) (by intro v hv; simp only [List.mem_cons, List.not_mem_nil, or_false] at hv; rcases hv with rfl | rfl | rfl <;> rfl) (fun F X E => ?_)
  have hR := RI_R E
  have loop : ∀ (f i : Nat), i ≤ m → m - i < f → (∀ j, j < i → tlF (S 83) (104 * j) k a = tlF (S 83) (104 * 0) k a) → V F G S 11 [some (ra G 80), some (.int (nI k)), some (.int (nI a)), some (.int (tlF (S 83) (104 * 0) k a)), some (.int (nI i))] [] := by
    intro f
    induction f with
    | zero => intro i h1 h2; omega
    | succ f ih =>
      intro i h1 h2 hall
      refine V_iload X dX6_answers_11 rfl ?_
      refine V_aload_n X dX6_answers_13 rfl ?_
      refine V_geti X flX6_54 (ltN (by decide) hN) rfl rfl dX6_answers_14 ?_
      refine V_top (nI (m)) (hm) ?_
      refine V_cN_ge X 41 (by omega) (by omega) dX6_answers_17 (by decide) (fun h17 => ?_) (fun h17 => ?_)
      · refine V_iload_n X dX6_answers_41 rfl ?_
        exact V_iret X E dX6_answers_42 (by unfold anF; rw [anA_t (fun j hj => hall j (by omega))]; rfl) rfl
      · refine V_aload_n X dX6_answers_20 rfl ?_
        refine V_iload_n X dX6_answers_21 rfl ?_
        refine V_iload_n X dX6_answers_22 rfl ?_
        refine V_iload X dX6_answers_23 rfl ?_
        refine V_cvi X (ltN (by decide) hN) rfl rfl rfl (kX6_tells hN hq (by omega) (hR1 i (by omega))) cwX6_91 rfl (rm_ok hR (by decide) (by decide)) (Nat.le_of_ble_eq_true rfl) dX6_answers_25 ?_
        refine V_iload_n X dX6_answers_28 rfl ?_
        refine V_icmp_eq X 35 dX6_answers_29 (by decide) (fun h29 => ?_) (fun h29 => ?_)
        · refine V_iinc X (nI (_ + 1)) dX6_answers_35 (by rw [hR.2]; decide) rfl (nI_add _ 1) ?_
          refine V_goto X 11 dX6_answers_38 (by decide) ?_
          exact ih (i + 1) (by omega) (by omega) (fun j hj => by rcases Nat.lt_succ_iff_lt_or_eq.mp hj with q | q; exact hall j q; subst q; exact h29)
        · refine V_bipush X (-3) dX6_answers_32 (by decide) ?_
          exact V_iret X E dX6_answers_34 (by unfold anF; rw [anA_f h17 h29]; rfl) rfl
  refine V_aload_n X dX6_answers_0 rfl ?_
  refine V_iload_n X dX6_answers_1 rfl ?_
  refine V_iload_n X dX6_answers_2 rfl ?_
  refine V_iconst X (nI 0) dX6_answers_3 (by decide) ?_
  refine V_cvi X (ltN (by decide) hN) rfl rfl rfl (kX6_tells hN hq (by omega) (hR1 0 (by omega))) cwX6_91 rfl (rm_ok hR (by decide) (by decide)) (Nat.le_of_ble_eq_true rfl) dX6_answers_4 ?_
  refine V_istore_n X dX6_answers_7 (by rw [hR.2]; decide) ?_
  refine V_iconst X (nI 1) dX6_answers_8 (by decide) ?_
  refine V_istore X dX6_answers_9 (by rw [hR.2]; decide) ?_
  exact loop (m + 1) 1 (by omega) (by omega) (fun j hj => by rw [show j = 0 by omega])

set_option maxRecDepth 100000 in
set_option maxHeartbeats 4000000 in
theorem kX6_asked {G : Cx} {S : Sx} (hN : 88 ≤ gN G) {k a m : Nat} (hq : qOk k a) (hm : S 80 5 = nI m) (hm1 : 1 ≤ m) (hm64 : m ≤ 64) (hR1 : ∀ r, r < m → okR (S 83) (104 * r)) : CT G (2) yX6_asked cX6_asked 5 (some .int) [ra G 80, .int (nI k), .int (nI a)] S (akF (S 83) k a m) (S) := by
  refine CT_of (by decide) (Nat.le_of_ble_eq_true rfl) (by intro v hv; simp only [List.mem_cons, List.not_mem_nil, or_false] at hv; rcases hv with rfl | rfl | rfl <;> rfl) (fun F X E => ?_)
  have hR := RI_R E
  have loop : 0 ≤ anF (S 83) k a m → ∀ (f j : Nat) (z : Int32), j + 1 ≤ m → m - (j + 1) < f → z = akL (S 83) k a j → V F G S 22 [some (ra G 80), some (.int (nI k)), some (.int (nI a)), some (.int z), some (.int (nI (j + 1)))] [] := by
    intro h6 f
    induction f with
    | zero => intro j z h1 h2; omega
    | succ f ih =>
      intro j z h1 h2 hz
      refine V_iload X dX6_asked_22 rfl ?_
      refine V_aload_n X dX6_asked_24 rfl ?_
      refine V_geti X flX6_54 (ltN (by decide) hN) rfl rfl dX6_asked_25 ?_
      refine V_top (nI (m)) (hm) ?_
      refine V_cN_ge X 48 (by omega) (by omega) dX6_asked_28 (by decide) (fun h28 => ?_) (fun h28 => ?_)
      · refine V_iload_n X dX6_asked_48 rfl ?_
        exact V_iret X E dX6_asked_49 (by unfold akF; rw [if_neg (Int32.not_lt.mpr h6), hz, show m - 1 = j by omega]) rfl
      · refine V_iload_n X dX6_asked_31 rfl ?_
        refine V_aload_n X dX6_asked_32 rfl ?_
        refine V_iload_n X dX6_asked_33 rfl ?_
        refine V_iload_n X dX6_asked_34 rfl ?_
        refine V_iload X dX6_asked_35 rfl ?_
        refine V_cvi X (ltN (by decide) hN) rfl rfl rfl (kX6_by hN hq (by omega) (hR1 (j + 1) (by omega))) cwX6_101 rfl (rm_ok hR (by decide) (by decide)) (Nat.le_of_ble_eq_true rfl) dX6_asked_37 ?_
        refine V_iand X dX6_asked_40 ?_
        refine V_istore_n X dX6_asked_41 (by rw [hR.2]; decide) ?_
        refine V_iinc X (nI (_ + 1)) dX6_asked_42 (by rw [hR.2]; decide) rfl (nI_add _ 1) ?_
        refine V_goto X 22 dX6_asked_45 (by decide) ?_
        exact ih (j + 1) _ (by omega) (by omega) (by rw [hz]; rfl)
  refine V_aload_n X dX6_asked_0 rfl ?_
  refine V_iload_n X dX6_asked_1 rfl ?_
  refine V_iload_n X dX6_asked_2 rfl ?_
  refine V_cvi X (ltN (by decide) hN) rfl rfl rfl (kX6_answers hN hq hm hm1 hm64 hR1) cwX6_98 rfl (rm_ok hR (by decide) (by decide)) (Nat.le_of_ble_eq_true rfl) dX6_asked_3 ?_
  refine V_if_ge X 11 dX6_asked_6 (by decide) (fun h6 => ?_) (fun h6 => ?_)
  · refine V_aload_n X dX6_asked_11 rfl ?_
    refine V_iload_n X dX6_asked_12 rfl ?_
    refine V_iload_n X dX6_asked_13 rfl ?_
    refine V_iconst X (nI 0) dX6_asked_14 (by decide) ?_
    refine V_cvi X (ltN (by decide) hN) rfl rfl rfl (kX6_by hN hq (by omega) (hR1 0 (by omega))) cwX6_101 rfl (rm_ok hR (by decide) (by decide)) (Nat.le_of_ble_eq_true rfl) dX6_asked_15 ?_
    refine V_istore_n X dX6_asked_18 (by rw [hR.2]; decide) ?_
    refine V_iconst X (nI 1) dX6_asked_19 (by decide) ?_
    refine V_istore X dX6_asked_20 (by rw [hR.2]; decide) ?_
    exact loop h6 (m + 1) 0 _ (by omega) (by omega) rfl
  · refine V_iconst X (nI 0) dX6_asked_9 (by decide) ?_
    exact V_iret X E dX6_asked_10 (by unfold akF; rw [if_pos (Int32.not_le.mp h6)]) rfl

set_option maxRecDepth 100000 in
set_option maxHeartbeats 4000000 in
theorem kX6_bits {G : Cx} {S : Sx}  {x : Int32} : CT G (0) yX6_bits cX6_bits 3 (some .int) [.int x] S (bsF x 14) (S) := by
  refine CT_of (by decide) (Nat.le_of_ble_eq_true rfl) (by intro v hv; simp only [List.mem_cons, List.not_mem_nil, or_false] at hv; rcases hv with rfl <;> rfl) (fun F X E => ?_)
  have hR := RI_R E
  have loop : ∀ (f i : Nat) (z : Int32), i ≤ 14 → 14 - i < f → z = bsF x i → V F G S 4 [some (.int x), some (.int z), some (.int (nI i))] [] := by
    intro f
    induction f with
    | zero => intro i z h1 h2; omega
    | succ f ih =>
      intro i z h1 h2 hz
      refine V_iload_n X dX6_bits_4 rfl ?_
      refine V_bipush X (nI 14) dX6_bits_5 (by decide) ?_
      refine V_cN_ge X 24 (by omega) (by omega) dX6_bits_7 (by decide) (fun h7 => ?_) (fun h7 => ?_)
      · refine V_iload_n X dX6_bits_24 rfl ?_
        exact V_iret X E dX6_bits_25 (by rw [hz, show i = 14 by omega]) rfl
      · refine V_iload_n X dX6_bits_10 rfl ?_
        refine V_iload_n X dX6_bits_11 rfl ?_
        refine V_iload_n X dX6_bits_12 rfl ?_
        refine V_ishr X dX6_bits_13 ?_
        refine V_iconst X (nI 1) dX6_bits_14 (by decide) ?_
        refine V_iand X dX6_bits_15 ?_
        refine V_iadd X dX6_bits_16 ?_
        refine V_istore_n X dX6_bits_17 (by rw [hR.2]; decide) ?_
        refine V_iinc X (nI (_ + 1)) dX6_bits_18 (by rw [hR.2]; decide) rfl (nI_add _ 1) ?_
        refine V_goto X 4 dX6_bits_21 (by decide) ?_
        exact ih (i + 1) _ (by omega) (by omega) (by rw [hz]; rfl)
  refine V_iconst X (nI 0) dX6_bits_0 (by decide) ?_
  refine V_istore_n X dX6_bits_1 (by rw [hR.2]; decide) ?_
  refine V_iconst X (nI 0) dX6_bits_2 (by decide) ?_
  refine V_istore_n X dX6_bits_3 (by rw [hR.2]; decide) ?_
  exact loop 15 0 _ (by omega) (by omega) rfl

theorem in_n {a b : Nat} {x : Int32} (ha : a < 1000) (hb : b < 1000) : inP x (nI a) (nI b) ↔ ((a : Int) ≤ x.toInt ∧ x.toInt ≤ b) := by
  unfold inP; rw [i_le, i_le, t_k a (by omega), t_k b (by omega)]
theorem acN_03 {x : Int32} (h : x = 0 ∨ x = nI 3) : acN x.toNatClampNeg = 8 := by rcases h with rfl | rfl <;> decide
theorem acN_12 {x : Int32} (h0 : 0 ≤ x.toInt) (h3 : x.toInt ≤ 3) (h1 : ¬ x = 0) (h2 : ¬ x = nI 3) : acN x.toNatClampNeg = 10 := by
  have := Int32.toNat_toInt x
  rw [i_eq, t_0] at h1
  rw [i_eq, t_k 3 (by decide)] at h2
  unfold acN; rw [if_pos (by omega)]
theorem okQ_in {x y : Int32} (b : Nat) (hb : b < 100) (hac : 0 ≤ x.toInt → x.toInt ≤ 3 → acN x.toNatClampNeg = b + 1) : okQ x y ↔ (inP x (nI 0) (nI 3) ∧ inP y (nI 0) (nI b)) := by
  rw [in_n (by decide) (by decide), in_n (by decide) (by omega)]
  unfold okQ
  constructor
  · rintro ⟨h1, h2, h3, h4⟩; rw [hac h1 (by omega)] at h4; refine ⟨⟨by omega, by omega⟩, by omega, by omega⟩
  · rintro ⟨⟨h1, h2⟩, h3, h4⟩; rw [hac (by omega) (by omega)]; refine ⟨by omega, by omega, by omega, by omega⟩

set_option maxRecDepth 100000 in
set_option maxHeartbeats 4000000 in
theorem kX6_isQuestion {G : Cx} {S : Sx}  {x y : Int32} : CT G (1) yX6_isQuestion cX6_isQuestion 2 (some .boolean) [.int x, .int y] S (bi (okQ x y)) (S) := by
  refine CT_of (by decide) (Nat.le_of_ble_eq_true rfl) (by intro v hv; simp only [List.mem_cons, List.not_mem_nil, or_false] at hv; rcases hv with rfl | rfl <;> rfl) (fun F X E => ?_)
  have hR := RI_R E
  refine V_iload_n X dX6_isQuestion_0 rfl ?_
  refine V_iconst X (nI 0) dX6_isQuestion_1 (by decide) ?_
  refine V_iconst X (nI 3) dX6_isQuestion_2 (by decide) ?_
  refine V_csi X (kX6_in ) cwX6_31 rfl (rm_ok hR (by decide) (by decide)) (Nat.le_of_ble_eq_true rfl) dX6_isQuestion_3 ?_
  refine V_if_eq X 37 dX6_isQuestion_6 (by decide) (fun h6 => ?_) (fun h6 => ?_)
  · refine V_iconst X (nI 0) dX6_isQuestion_37 (by decide) ?_
    exact V_zret X E dX6_isQuestion_38 (by first | exact Or.inl rfl | exact Or.inr rfl | exact bi_01 _) (bi_f (fun q => bi_eq.mp h6 ((in_n (by decide) (by decide)).mpr ⟨by have := q.1; omega, by have := q.2.1; omega⟩))) rfl
  · refine V_iload_n X dX6_isQuestion_9 rfl ?_
    refine V_iconst X (nI 0) dX6_isQuestion_10 (by decide) ?_
    refine V_iload_n X dX6_isQuestion_11 rfl ?_
    refine V_if_eq X 20 dX6_isQuestion_12 (by decide) (fun h12 => ?_) (fun h12 => ?_)
    · refine V_bipush X (nI 7) dX6_isQuestion_20 (by decide) ?_
      refine V_goto X 27 dX6_isQuestion_22 (by decide) ?_
      refine V_csi X (kX6_in ) cwX6_31 rfl (rm_ok hR (by decide) (by decide)) (Nat.le_of_ble_eq_true rfl) dX6_isQuestion_27 ?_
      refine V_if_eq X 37 dX6_isQuestion_30 (by decide) (fun h30 => ?_) (fun h30 => ?_)
      · refine V_iconst X (nI 0) dX6_isQuestion_37 (by decide) ?_
        exact V_zret X E dX6_isQuestion_38 (by first | exact Or.inl rfl | exact Or.inr rfl | exact bi_01 _) (by first | exact bi_t ((okQ_in 7 (by decide) (fun _ _ => acN_03 (Or.inl h12))).mpr ⟨Classical.byContradiction (fun z => h6 (bi_eq.mpr z)), Classical.byContradiction (fun z => h30 (bi_eq.mpr z))⟩) | exact bi_f (fun q => bi_eq.mp h30 ((okQ_in 7 (by decide) (fun _ _ => acN_03 (Or.inl h12))).mp q).2)) rfl
      · refine V_iconst X (nI 1) dX6_isQuestion_33 (by decide) ?_
        refine V_goto X 38 dX6_isQuestion_34 (by decide) ?_
        exact V_zret X E dX6_isQuestion_38 (by first | exact Or.inl rfl | exact Or.inr rfl | exact bi_01 _) (by first | exact bi_t ((okQ_in 7 (by decide) (fun _ _ => acN_03 (Or.inl h12))).mpr ⟨Classical.byContradiction (fun z => h6 (bi_eq.mpr z)), Classical.byContradiction (fun z => h30 (bi_eq.mpr z))⟩) | exact bi_f (fun q => bi_eq.mp h30 ((okQ_in 7 (by decide) (fun _ _ => acN_03 (Or.inl h12))).mp q).2)) rfl
    · refine V_iload_n X dX6_isQuestion_15 rfl ?_
      refine V_iconst X (nI 3) dX6_isQuestion_16 (by decide) ?_
      refine V_icmp_ne X 25 dX6_isQuestion_17 (by decide) (fun h17 => ?_) (fun h17 => ?_)
      · refine V_bipush X (nI 9) dX6_isQuestion_25 (by decide) ?_
        refine V_csi X (kX6_in ) cwX6_31 rfl (rm_ok hR (by decide) (by decide)) (Nat.le_of_ble_eq_true rfl) dX6_isQuestion_27 ?_
        refine V_if_eq X 37 dX6_isQuestion_30 (by decide) (fun h30 => ?_) (fun h30 => ?_)
        · refine V_iconst X (nI 0) dX6_isQuestion_37 (by decide) ?_
          exact V_zret X E dX6_isQuestion_38 (by first | exact Or.inl rfl | exact Or.inr rfl | exact bi_01 _) (by first | exact bi_t ((okQ_in 9 (by decide) (fun q1 q2 => acN_12 q1 q2 h12 h17)).mpr ⟨Classical.byContradiction (fun z => h6 (bi_eq.mpr z)), Classical.byContradiction (fun z => h30 (bi_eq.mpr z))⟩) | exact bi_f (fun q => bi_eq.mp h30 ((okQ_in 9 (by decide) (fun q1 q2 => acN_12 q1 q2 h12 h17)).mp q).2) | exact bi_t ((okQ_in 7 (by decide) (fun _ _ => acN_03 (Or.inr (ts_nn h17)))).mpr ⟨Classical.byContradiction (fun z => h6 (bi_eq.mpr z)), Classical.byContradiction (fun z => h30 (bi_eq.mpr z))⟩) | exact bi_f (fun q => bi_eq.mp h30 ((okQ_in 7 (by decide) (fun _ _ => acN_03 (Or.inr (ts_nn h17)))).mp q).2)) rfl
        · refine V_iconst X (nI 1) dX6_isQuestion_33 (by decide) ?_
          refine V_goto X 38 dX6_isQuestion_34 (by decide) ?_
          exact V_zret X E dX6_isQuestion_38 (by first | exact Or.inl rfl | exact Or.inr rfl | exact bi_01 _) (by first | exact bi_t ((okQ_in 9 (by decide) (fun q1 q2 => acN_12 q1 q2 h12 h17)).mpr ⟨Classical.byContradiction (fun z => h6 (bi_eq.mpr z)), Classical.byContradiction (fun z => h30 (bi_eq.mpr z))⟩) | exact bi_f (fun q => bi_eq.mp h30 ((okQ_in 9 (by decide) (fun q1 q2 => acN_12 q1 q2 h12 h17)).mp q).2) | exact bi_t ((okQ_in 7 (by decide) (fun _ _ => acN_03 (Or.inr (ts_nn h17)))).mpr ⟨Classical.byContradiction (fun z => h6 (bi_eq.mpr z)), Classical.byContradiction (fun z => h30 (bi_eq.mpr z))⟩) | exact bi_f (fun q => bi_eq.mp h30 ((okQ_in 7 (by decide) (fun _ _ => acN_03 (Or.inr (ts_nn h17)))).mp q).2)) rfl
      · refine V_bipush X (nI 7) dX6_isQuestion_20 (by decide) ?_
        refine V_goto X 27 dX6_isQuestion_22 (by decide) ?_
        refine V_csi X (kX6_in ) cwX6_31 rfl (rm_ok hR (by decide) (by decide)) (Nat.le_of_ble_eq_true rfl) dX6_isQuestion_27 ?_
        refine V_if_eq X 37 dX6_isQuestion_30 (by decide) (fun h30 => ?_) (fun h30 => ?_)
        · refine V_iconst X (nI 0) dX6_isQuestion_37 (by decide) ?_
          exact V_zret X E dX6_isQuestion_38 (by first | exact Or.inl rfl | exact Or.inr rfl | exact bi_01 _) (by first | exact bi_t ((okQ_in 9 (by decide) (fun q1 q2 => acN_12 q1 q2 h12 h17)).mpr ⟨Classical.byContradiction (fun z => h6 (bi_eq.mpr z)), Classical.byContradiction (fun z => h30 (bi_eq.mpr z))⟩) | exact bi_f (fun q => bi_eq.mp h30 ((okQ_in 9 (by decide) (fun q1 q2 => acN_12 q1 q2 h12 h17)).mp q).2) | exact bi_t ((okQ_in 7 (by decide) (fun _ _ => acN_03 (Or.inr (ts_nn h17)))).mpr ⟨Classical.byContradiction (fun z => h6 (bi_eq.mpr z)), Classical.byContradiction (fun z => h30 (bi_eq.mpr z))⟩) | exact bi_f (fun q => bi_eq.mp h30 ((okQ_in 7 (by decide) (fun _ _ => acN_03 (Or.inr (ts_nn h17)))).mp q).2)) rfl
        · refine V_iconst X (nI 1) dX6_isQuestion_33 (by decide) ?_
          refine V_goto X 38 dX6_isQuestion_34 (by decide) ?_
          exact V_zret X E dX6_isQuestion_38 (by first | exact Or.inl rfl | exact Or.inr rfl | exact bi_01 _) (by first | exact bi_t ((okQ_in 9 (by decide) (fun q1 q2 => acN_12 q1 q2 h12 h17)).mpr ⟨Classical.byContradiction (fun z => h6 (bi_eq.mpr z)), Classical.byContradiction (fun z => h30 (bi_eq.mpr z))⟩) | exact bi_f (fun q => bi_eq.mp h30 ((okQ_in 9 (by decide) (fun q1 q2 => acN_12 q1 q2 h12 h17)).mp q).2) | exact bi_t ((okQ_in 7 (by decide) (fun _ _ => acN_03 (Or.inr (ts_nn h17)))).mpr ⟨Classical.byContradiction (fun z => h6 (bi_eq.mpr z)), Classical.byContradiction (fun z => h30 (bi_eq.mpr z))⟩) | exact bi_f (fun q => bi_eq.mp h30 ((okQ_in 7 (by decide) (fun _ _ => acN_03 (Or.inr (ts_nn h17)))).mp q).2)) rfl

