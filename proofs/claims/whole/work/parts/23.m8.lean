/-- contracts whose end is told by a predicate -/
def CTp (G : Cx) (d : Nat) (y : MethodName) (cc : ByteArray) (nL : Nat) (ret : Option FieldType) (as : List Value) (S : Sx) (P : Int32 → Sx → Prop) : Prop :=
  Met (gl G) y (mw y cc nL ret) (rmD d) (va_Pc as (Wd G S)) (va_Qi P (fun S0 t => Wd G S0 t) (gA G)) 0 0 (gA G)
def QIp (below : List Frame) (G : Cx) (args : Array Value) (s : State) (P : Int32 → Sx → Prop) : State → Prop := MQ below (va_Qi P (fun S0 t => Wd G S0 t) (gA G)) args s 0 0 (gA G)
def RIp (F : Fx) (G : Cx) (d : Nat) (ret : Option FieldType) (nL : Nat) (P : Int32 → Sx → Prop) : Prop := match F with
  | (p, e, R, s, m, args, below, meth, c, nL', kc, ks, Q) => meth.sig.returnType = ret ∧ R = rmD d ∧ nL' = nL ∧ kc = 0 ∧ ks = 0 ∧ Q = QIp below G args s P
theorem CTp_of {G : Cx} {d nL : Nat} {y : MethodName} {cc : ByteArray} {ret : Option FieldType} {as : List Value} {S : Sx} {P : Int32 → Sx → Prop} (hy : plainName y.cls = true) (hn : as.length ≤ nL) (hc : ∀ v ∈ as, v.category = 1)
    (h : ∀ F : Fx, CX F G cc y.cls → RIp F G d ret nL P → V F G S 0 (as.map some ++ List.replicate (nL - as.length) none) []) : CTp G d y cc nL ret as S P := by
  refine Met.ofW (cc := cc) (maxL := nL) (ret := ret) hy rfl ?_
  intro p e s m args below meth c s₁ B hml hv
  obtain ⟨rfl, hP, hK, hD, hN⟩ := hv
  have hts := atoms_spec (ws := mw y cc nL ret) B.pre
  have hown : s.vm.findClass y.cls = some m.cls := findClass_of_methodNamed B.named
  have X : CX (p, e, rmD d, s, m, as.toArray, below, meth, c, nL, 0, 0, QIp below G as.toArray s P) G cc y.cls :=
    ⟨B.exec, B.bytes, hml, hown, fun w hw => hts w (List.mem_cons_of_mem _ hw), hK, hN, B.notSynchronized, Nat.zero_le _, Nat.zero_le _⟩
  have k := h _ X ⟨B.returns, rfl, rfl, rfl, rfl, rfl⟩
  rw [lg_entry_eq]
  exact k s.heap [] _ hP hD va_S.rf (lh_entry hn hc)
theorem V_iretp {F : Fx} {G : Cx} {cc : ByteArray} {own : String} {S : Sx} {P : Int32 → Sx → Prop} {pc d nL0 : Nat} {L : List (Option Value)} {v : Int32} (X : CX F G cc own) (E : RIp F G d (some .int) nL0 P) (hd : decode cc pc = .ok (.ireturn, 1)) (hv : P v S) : V F G S pc L [.int v] := by
  obtain ⟨p, e, R, s, m, args, below, meth, c, nL, kc, ks, Q⟩ := F
  obtain ⟨hx, hb, hml, hown, hts, hK, hN, hlk, hkc, hks⟩ := X
  intro H locs ls hP hD hS hl
  obtain ⟨hr, -, -, rfl, rfl, rfl⟩ := E
  exact W.iret (v := v) hx hb hr (fun t ht hW => ⟨⟨v, S, rfl, hv, by rw [ht]; exact hP, va_K.moved hW.alike hK, hD, nw_warm hW hN⟩, hS.F ht⟩) hS.2.2 hd
theorem RIp_R {F : Fx} {G : Cx} {d nL : Nat} {ret : Option FieldType} {P : Int32 → Sx → Prop} (h : RIp F G d ret nL P) : fR F = rmD d ∧ fnL F = nL := by
  obtain ⟨p, e, R, s, m, args, below, meth, c, nL2, kc, ks, Q⟩ := F
  exact ⟨h.2.1, h.2.2.1⟩
theorem CT_p {G : Cx} {d : Nat} {y : MethodName} {cc : ByteArray} {nL : Nat} {ret : Option FieldType} {as : List Value} {S S' : Sx} {r : Int32} (h : CT G d y cc nL ret as S r S') : CTp G d y cc nL ret as S (fun r0 S0 => r0 = r ∧ S0 = S') := h
/-- the masks -/
def pce (S : Sx) (f : Nat → Int32) : Sx := fun q => if q = 85 then f else S q
theorem pce_85 (S : Sx) (f : Nat → Int32) : pce S f 85 = f := if_pos rfl
theorem pce_ne {S : Sx} {f : Nat → Int32} {q : Nat} (h : q ≠ 85) : pce S f q = S q := if_neg h
theorem pce_st (S : Sx) (f : Nat → Int32) (i : Nat) (x : Int32) : st (pce S f) 85 i x = pce S (upd f i x) := by
  funext q; by_cases h : q = 85
  · subst h; rw [st_eq, pce_85, pce_85]
  · rw [st_ne h, pce_ne h, pce_ne h]
theorem pce_self (S : Sx) : pce S (S 85) = S := by
  funext q; by_cases h : q = 85
  · subst h; rw [pce_85]
  · rw [pce_ne h]
def ofA (f : Nat → Int32) (x : Int32) : Nat → (Nat → Int32) × Nat
  | 0 => (f, 0)
  | i + 1 => if (ofA f x i).1 i &&& (x ^^^ -1) = 0 then ofA f x i else (upd (ofA f x i).1 (ofA f x i).2 ((ofA f x i).1 i), (ofA f x i).2 + 1)
theorem ofA_le (f : Nat → Int32) (x : Int32) : ∀ i, (ofA f x i).2 ≤ i
  | 0 => Nat.le_refl _
  | i + 1 => by have := ofA_le f x i; unfold ofA; split <;> simp <;> omega
def isK (f : Nat → Int32) (x : Int32) (k : Nat) : Bool := !decide (x = 0) && !ofB f x k
theorem ofB_s (f : Nat → Int32) (x : Int32) (k : Nat) : ofB f x (k + 1) = (ofB f x k || decide (x &&& (f k ^^^ -1) = 0)) := by
  unfold ofB; rw [List.range_succ, List.any_append]; simp
theorem isK_s (f : Nat → Int32) (x : Int32) (k : Nat) : isK f x (k + 1) = (isK f x k && !decide (x &&& (f k ^^^ -1) = 0)) := by
  unfold isK; rw [ofB_s]
  cases ofB f x k <;> cases decide (x &&& (f k ^^^ -1) = 0) <;> cases decide (x = 0) <;> rfl
theorem isK_0 (f : Nat → Int32) (x : Int32) : isK f x 0 = !decide (x = 0) := by
  unfold isK ofB; simp
def gtS (p : (Nat → Int32) × Nat) (x : Int32) : (Nat → Int32) × Nat := if isK p.1 x p.2 then (upd (ofA p.1 x p.2).1 (ofA p.1 x p.2).2 x, (ofA p.1 x p.2).2 + 1) else p
theorem gtS_le (p : (Nat → Int32) × Nat) (x : Int32) : (gtS p x).2 ≤ p.2 + 1 := by
  have := ofA_le p.1 x p.2
  unfold gtS; split <;> simp <;> omega
def gtL (f : Nat → Int32) (mk : Nat → Int32) : Nat → (Nat → Int32) × Nat
  | 0 => (f, 0)
  | q + 1 => gtS (gtL f mk q) (mk q)
theorem gtL_le (f mk : Nat → Int32) : ∀ q, (gtL f mk q).2 ≤ q
  | 0 => Nat.le_refl _
  | q + 1 => by have := gtS_le (gtL f mk q) (mk q); have := gtL_le f mk q; unfold gtL; omega

set_option maxRecDepth 100000 in
set_option maxHeartbeats 4000000 in
theorem gath_loops {G : Cx} {F : Fx} (hN : 88 ≤ gN G) (X : CX F G cX6_gathers yX6_gathers.cls) (hR : fR F = rmD 6 ∧ fnL F = 8) : (∀ {z kd a : Nat} {x : Int32} {f : Nat → Int32} {S0 : Sx}, z ≤ 36 → (∀ w : Option Value, V F G (pce S0 f) 89 [some (ra G 80), some (.int (nI z)), some (.int (nI kd)), some (.int (nI a)), some (.int x), some (.int (bb (isK f x z))), some (.int (nI z)), w] []) → ∀ (fu i : Nat) , i ≤ z → z - i < fu → ∀ {w : Option Value}, V F G (pce S0 f) 50 [some (ra G 80), some (.int (nI z)), some (.int (nI kd)), some (.int (nI a)), some (.int x), some (.int (bb (isK f x i))), some (.int (nI i)), w] []) ∧ (∀ {z kd a : Nat} {x : Int32} {f : Nat → Int32} {S0 : Sx} {u : Option Value}, z ≤ 36 → (∀ (S1 : Sx) (at_ : Nat), S1 = pce S0 (ofA f x z).1 → at_ = (ofA f x z).2 → V F G S1 150 [some (ra G 80), some (.int (nI z)), some (.int (nI kd)), some (.int (nI a)), some (.int x), u, some (.int (nI at_)), some (.int (nI z))] []) → ∀ (fu i : Nat) (at_ : Nat) (S1 : Sx), i ≤ z → z - i < fu → S1 = pce S0 (ofA f x i).1 → at_ = (ofA f x i).2 → V F G S1 103 [some (ra G 80), some (.int (nI z)), some (.int (nI kd)), some (.int (nI a)), some (.int x), u, some (.int (nI at_)), some (.int (nI i))] []) := by
  have loop50 : ∀ {z kd a : Nat} {x : Int32} {f : Nat → Int32} {S0 : Sx}, z ≤ 36 → (∀ w : Option Value, V F G (pce S0 f) 89 [some (ra G 80), some (.int (nI z)), some (.int (nI kd)), some (.int (nI a)), some (.int x), some (.int (bb (isK f x z))), some (.int (nI z)), w] []) → ∀ (fu i : Nat) , i ≤ z → z - i < fu → ∀ {w : Option Value}, V F G (pce S0 f) 50 [some (ra G 80), some (.int (nI z)), some (.int (nI kd)), some (.int (nI a)), some (.int x), some (.int (bb (isK f x i))), some (.int (nI i)), w] [] := by
    intro z kd a x f S0 hz kx fu
    induction fu with
    | zero => intro i h1 h2; omega
    | succ fu ih =>
      intro i h1 h2 w
      refine V_iload X dX6_gathers_50 rfl ?_
      refine V_iload_n X dX6_gathers_52 rfl ?_
      refine V_cN_ge X 89 (by omega) (by omega) dX6_gathers_53 (by decide) (fun h53 => ?_) (fun h53 => ?_)
      · rw [show i = z by omega]
        exact kx _
      · refine V_iload X dX6_gathers_56 rfl ?_
        refine V_if_eq X 80 dX6_gathers_58 (by decide) (fun h58 => ?_) (fun h58 => ?_)
        · refine V_iconst X (nI 0) dX6_gathers_80 (by decide) ?_
          refine V_top (bb (isK f x (i + 1))) (by rw [isK_s, bb_0.mp h58]; rfl) ?_
          refine V_istore X dX6_gathers_81 (by rw [hR.2]; decide) ?_
          refine V_iinc X (nI (_ + 1)) dX6_gathers_83 (by rw [hR.2]; decide) rfl (nI_add _ 1) ?_
          refine V_goto X 50 dX6_gathers_86 (by decide) ?_
          exact ih (i + 1) (by omega) (by omega)
        · refine V_iload X dX6_gathers_61 rfl ?_
          refine V_aload_n X dX6_gathers_63 rfl ?_
          refine V_getr X flX6_22 (ltN (by decide) hN) rfl rfl dX6_gathers_64 ?_
          refine V_iload X dX6_gathers_67 rfl ?_
          refine V_ialdN X (ltN (by decide) hN) rfl (by omega) (by decide) dX6_gathers_69 ?_
          refine V_iconst X (-1) dX6_gathers_70 (by decide) ?_
          refine V_ixor X dX6_gathers_71 ?_
          refine V_iand X dX6_gathers_72 ?_
          refine V_if_eq X 80 dX6_gathers_73 (by decide) (fun h73 => ?_) (fun h73 => ?_)
          · refine V_iconst X (nI 0) dX6_gathers_80 (by decide) ?_
            refine V_top (bb (isK f x (i + 1))) (by rw [isK_s, decide_eq_true (show x &&& (f i ^^^ -1) = 0 from h73), Bool.not_true, Bool.and_false]; rfl) ?_
            refine V_istore X dX6_gathers_81 (by rw [hR.2]; decide) ?_
            refine V_iinc X (nI (_ + 1)) dX6_gathers_83 (by rw [hR.2]; decide) rfl (nI_add _ 1) ?_
            refine V_goto X 50 dX6_gathers_86 (by decide) ?_
            exact ih (i + 1) (by omega) (by omega)
          · refine V_iconst X (nI 1) dX6_gathers_76 (by decide) ?_
            refine V_top (bb (isK f x (i + 1))) (by rw [isK_s, bb_n.mp h58, decide_eq_false (show ¬ x &&& (f i ^^^ -1) = 0 from h73)]; rfl) ?_
            refine V_goto X 81 dX6_gathers_77 (by decide) ?_
            refine V_istore X dX6_gathers_81 (by rw [hR.2]; decide) ?_
            refine V_iinc X (nI (_ + 1)) dX6_gathers_83 (by rw [hR.2]; decide) rfl (nI_add _ 1) ?_
            refine V_goto X 50 dX6_gathers_86 (by decide) ?_
            exact ih (i + 1) (by omega) (by omega)
  have loop103 : ∀ {z kd a : Nat} {x : Int32} {f : Nat → Int32} {S0 : Sx} {u : Option Value}, z ≤ 36 → (∀ (S1 : Sx) (at_ : Nat), S1 = pce S0 (ofA f x z).1 → at_ = (ofA f x z).2 → V F G S1 150 [some (ra G 80), some (.int (nI z)), some (.int (nI kd)), some (.int (nI a)), some (.int x), u, some (.int (nI at_)), some (.int (nI z))] []) → ∀ (fu i : Nat) (at_ : Nat) (S1 : Sx), i ≤ z → z - i < fu → S1 = pce S0 (ofA f x i).1 → at_ = (ofA f x i).2 → V F G S1 103 [some (ra G 80), some (.int (nI z)), some (.int (nI kd)), some (.int (nI a)), some (.int x), u, some (.int (nI at_)), some (.int (nI i))] [] := by
    intro z kd a x f S0 u hz kx fu
    induction fu with
    | zero => intro i at_ S1 h1 h2; omega
    | succ fu ih =>
      intro i at_ S1 h1 h2 hs ha
      refine V_iload X dX6_gathers_103 rfl ?_
      refine V_iload_n X dX6_gathers_105 rfl ?_
      refine V_cN_ge X 150 (by (have := ofA_le f x i; omega)) (by (have := ofA_le f x i; omega)) dX6_gathers_106 (by decide) (fun h106 => ?_) (fun h106 => ?_)
      · have hiz : i = z := by omega
        rw [hiz] at hs ha ⊢
        exact kx _ _ hs ha
      · refine V_aload_n X dX6_gathers_109 rfl ?_
        refine V_getr X flX6_22 (ltN (by decide) hN) rfl rfl dX6_gathers_110 ?_
        refine V_iload X dX6_gathers_113 rfl ?_
        refine V_ialdN X (ltN (by decide) hN) rfl (by (have := ofA_le f x i; omega)) (by decide) dX6_gathers_115 ?_
        refine V_iload X dX6_gathers_116 rfl ?_
        refine V_iconst X (-1) dX6_gathers_118 (by decide) ?_
        refine V_ixor X dX6_gathers_119 ?_
        refine V_iand X dX6_gathers_120 ?_
        refine V_if_ne X 127 dX6_gathers_121 (by decide) (fun h121 => ?_) (fun h121 => ?_)
        · have h121 : ¬ (ofA f x i).1 i &&& (x ^^^ -1) = 0 := by rw [hs, pce_85] at h121; exact h121
          refine V_aload_n X dX6_gathers_127 rfl ?_
          refine V_getr X flX6_22 (ltN (by decide) hN) rfl rfl dX6_gathers_128 ?_
          refine V_iload X dX6_gathers_131 rfl ?_
          refine V_aload_n X dX6_gathers_133 rfl ?_
          refine V_getr X flX6_22 (ltN (by decide) hN) rfl rfl dX6_gathers_134 ?_
          refine V_iload X dX6_gathers_137 rfl ?_
          refine V_ialdN X (ltN (by decide) hN) rfl (by (have := ofA_le f x i; omega)) (by decide) dX6_gathers_139 ?_
          refine V_iastN X (ltN (by decide) hN) rfl (by (have := ofA_le f x i; omega)) (by decide) dX6_gathers_140 ?_
          refine V_iinc X (nI (_ + 1)) dX6_gathers_141 (by rw [hR.2]; decide) rfl (nI_add _ 1) ?_
          refine V_iinc X (nI (_ + 1)) dX6_gathers_144 (by rw [hR.2]; decide) rfl (nI_add _ 1) ?_
          refine V_goto X 103 dX6_gathers_147 (by decide) ?_
          exact ih (i + 1) _ _ (by omega) (by omega) (by rw [hs, pce_st, pce_85, ofA, if_neg h121, ← ha]) (by rw [ofA, if_neg h121, ← ha])
        · have h121 : (ofA f x i).1 i &&& (x ^^^ -1) = 0 := by rw [hs, pce_85] at h121; exact ts_nn h121
          refine V_goto X 144 dX6_gathers_124 (by decide) ?_
          refine V_iinc X (nI (_ + 1)) dX6_gathers_144 (by rw [hR.2]; decide) rfl (nI_add _ 1) ?_
          refine V_goto X 103 dX6_gathers_147 (by decide) ?_
          exact ih (i + 1) _ _ (by omega) (by omega) (by rw [hs, ofA, if_pos h121]) (by rw [ofA, if_pos h121]; exact ha)
  exact ⟨loop50, loop103⟩

