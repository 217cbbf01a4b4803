/-- contracts whose end is told by a predicate -/
def CTp (G : Cx) (d : Nat) (y : MethodName) (cc : ByteArray) (nL : Nat) (ret : Option FieldType) (as : List Value) (S : Sx) (P : Int32 → Sx → Prop) : Prop :=
  Met (gl G) y (mw y cc nL ret) (rmD d) (va_Pc as (Wd G S)) (va_Qi P (fun S0 t => Wd G S0 t) (gA G)) 0 0 (gA G)
def QIp (below : List Frame) (G : Cx) (args : Array Value) (s : State) (P : Int32 → Sx → Prop) : State → Prop := MQ below (va_Qi P (fun S0 t => Wd G S0 t) (gA G)) args s 0 0 (gA G)
def RIp (F : Fx) (G : Cx) (d : Nat) (ret : Option FieldType) (nL : Nat) (P : Int32 → Sx → Prop) : Prop := match F with
  | (p, e, R, s, m, args, below, meth, c, nL', kc, ks, Q) => meth.sig.returnType = ret ∧ R = rmD d ∧ nL' = nL ∧ kc = 0 ∧ ks = 0 ∧ Q = QIp below G args s P
theorem CTp_of {G : Cx} {d nL : Nat} {y : MethodName} {cc : ByteArray} {ret : Option FieldType} {as : List Value} {S : Sx} {P : Int32 → Sx → Prop} (hy : plainName y.cls = true) (hn : as.length ≤ nL) (hc : ∀ v ∈ as, v.category = 1)
    (h : ∀ F : Fx, CX F G cc y.cls → RIp F G d ret nL P → V F G S 0 (as.map some ++ List.replicate (nL - as.length) none) []) : CTp G d y cc nL ret as S P := by
  refine Met.ofW (cc := cc) (maxL := nL) (ret := ret) hy rfl ?_
  intro p e s m args below meth c s₁ B hml hv
  obtain ⟨rfl, hP, hK, hD, hN⟩ := hv
  have hts := atoms_spec (ws := mw y cc nL ret) B.pre
  have hown : s.vm.findClass y.cls = some m.cls := findClass_of_methodNamed B.named
  have X : CX (p, e, rmD d, s, m, as.toArray, below, meth, c, nL, 0, 0, QIp below G as.toArray s P) G cc y.cls :=
    ⟨B.exec, B.bytes, hml, hown, fun w hw => hts w (List.mem_cons_of_mem _ hw), hK, hN, B.notSynchronized, Nat.zero_le _, Nat.zero_le _⟩
  have k := h _ X ⟨B.returns, rfl, rfl, rfl, rfl, rfl⟩
  rw [lg_entry_eq]
  exact k s.heap [] _ hP hD va_S.rf (lh_entry hn hc)
theorem V_iretp {F : Fx} {G : Cx} {cc : ByteArray} {own : String} {S : Sx} {P : Int32 → Sx → Prop} {pc d nL0 : Nat} {L : List (Option Value)} {v : Int32} (X : CX F G cc own) (E : RIp F G d (some .int) nL0 P) (hd : decode cc pc = .ok (.ireturn, 1)) (hv : P v S) : V F G S pc L [.int v] := by
  obtain ⟨p, e, R, s, m, args, below, meth, c, nL, kc, ks, Q⟩ := F
  obtain ⟨hx, hb, hml, hown, hts, hK, hN, hlk, hkc, hks⟩ := X
  intro H locs ls hP hD hS hl
  obtain ⟨hr, -, -, rfl, rfl, rfl⟩ := E
  exact W.iret (v := v) hx hb hr (fun t ht hW => ⟨⟨v, S, rfl, hv, by rw [ht]; exact hP, va_K.moved hW.alike hK, hD, nw_warm hW hN⟩, hS.F ht⟩) hS.2.2 hd
theorem RIp_R {F : Fx} {G : Cx} {d nL : Nat} {ret : Option FieldType} {P : Int32 → Sx → Prop} (h : RIp F G d ret nL P) : fR F = rmD d ∧ fnL F = nL := by
  obtain ⟨p, e, R, s, m, args, below, meth, c, nL2, kc, ks, Q⟩ := F
  exact ⟨h.2.1, h.2.2.1⟩
theorem CT_p {G : Cx} {d : Nat} {y : MethodName} {cc : ByteArray} {nL : Nat} {ret : Option FieldType} {as : List Value} {S S' : Sx} {r : Int32} (h : CT G d y cc nL ret as S r S') : CTp G d y cc nL ret as S (fun r0 S0 => r0 = r ∧ S0 = S') := h
/-- the masks -/
def pce (S : Sx) (f : Nat → Int32) : Sx := fun q => if q = 85 then f else S q
theorem pce_85 (S : Sx) (f : Nat → Int32) : pce S f 85 = f := if_pos rfl
theorem pce_ne {S : Sx} {f : Nat → Int32} {q : Nat} (h : q ≠ 85) : pce S f q = S q := if_neg h
theorem pce_st (S : Sx) (f : Nat → Int32) (i : Nat) (x : Int32) : st (pce S f) 85 i x = pce S (upd f i x) := by
  funext q; by_cases h : q = 85
  · subst h; rw [st_eq, pce_85, pce_85]
  · rw [st_ne h, pce_ne h, pce_ne h]
theorem pce_self (S : Sx) : pce S (S 85) = S := by
  funext q; by_cases h : q = 85
  · subst h; rw [pce_85]
  · rw [pce_ne h]
def ofA (f : Nat → Int32) (x : Int32) : Nat → (Nat → Int32) × Nat
  | 0 => (f, 0)
  | i + 1 => if (ofA f x i).1 i &&& (x ^^^ -1) = 0 then ofA f x i else (upd (ofA f x i).1 (ofA f x i).2 ((ofA f x i).1 i), (ofA f x i).2 + 1)
theorem ofA_le (f : Nat → Int32) (x : Int32) : ∀ i, (ofA f x i).2 ≤ i
  | 0 => Nat.le_refl _
  | i + 1 => by have := ofA_le f x i; unfold ofA; split <;> simp <;> omega
def isK (f : Nat → Int32) (x : Int32) (k : Nat) : Bool := !decide (x = 0) && !ofB f x k
theorem ofB_s (f : Nat → Int32) (x : Int32) (k : Nat) : ofB f x (k + 1) = (ofB f x k || decide (x &&& (f k ^^^ -1) = 0)) := by
  unfold ofB; rw [List.range_succ, List.any_append]; simp
theorem isK_s (f : Nat → Int32) (x : Int32) (k : Nat) : isK f x (k + 1) = (isK f x k && !decide (x &&& (f k ^^^ -1) = 0)) := by
  unfold isK; rw [ofB_s]
  cases ofB f x k <;> cases decide (x &&& (f k ^^^ -1) = 0) <;> cases decide (x = 0) <;> rfl
theorem isK_0 (f : Nat → Int32) (x : Int32) : isK f x 0 = !decide (x = 0) := by
  unfold isK ofB; simp
def gtS (p : (Nat → Int32) × Nat) (x : Int32) : (Nat → Int32) × Nat := if isK p.1 x p.2 then (upd (ofA p.1 x p.2).1 (ofA p.1 x p.2).2 x, (ofA p.1 x p.2).2 + 1) else p
theorem gtS_le (p : (Nat → Int32) × Nat) (x : Int32) : (gtS p x).2 ≤ p.2 + 1 := by
  have := ofA_le p.1 x p.2
  unfold gtS; split <;> simp <;> omega
def gtL (f : Nat → Int32) (mk : Nat → Int32) : Nat → (Nat → Int32) × Nat
  | 0 => (f, 0)
  | q + 1 => gtS (gtL f mk q) (mk q)
theorem gtL_le (f mk : Nat → Int32) : ∀ q, (gtL f mk q).2 ≤ q
  | 0 => Nat.le_refl _
  | q + 1 => by have := gtS_le (gtL f mk q) (mk q); have := gtL_le f mk q; unfold gtL; omega

set_option maxRecDepth 100000 in
set_option maxHeartbeats 4000000 in
theorem gath_loops {G : Cx} {F : Fx} (hN : 88 ≤ gN G) (X : CX F G cX6_gathers yX6_gathers.cls) (hR : fR F = rmD 6 ∧ fnL F = 8) : (∀ {z kd a : Nat} {x : Int32} {f : Nat → Int32} {S0 : Sx}, z ≤ 36 → (∀ w : Option Value, V F G (pce S0 f) 89 [some (ra G 80), some (.int (nI z)), some (.int (nI kd)), some (.int (nI a)), some (.int x), some (.int (bb (isK f x z))), some (.int (nI z)), w] []) → ∀ (fu i : Nat) , i ≤ z → z - i < fu → ∀ {w : Option Value}, V F G (pce S0 f) 50 [some (ra G 80), some (.int (nI z)), some (.int (nI kd)), some (.int (nI a)), some (.int x), some (.int (bb (isK f x i))), some (.int (nI i)), w] []) ∧ (∀ {z kd a : Nat} {x : Int32} {f : Nat → Int32} {S0 : Sx} {u : Option Value}, z ≤ 36 → (∀ (S1 : Sx) (at_ : Nat), S1 = pce S0 (ofA f x z).1 → at_ = (ofA f x z).2 → V F G S1 150 [some (ra G 80), some (.int (nI z)), some (.int (nI kd)), some (.int (nI a)), some (.int x), u, some (.int (nI at_)), some (.int (nI z))] []) → ∀ (fu i : Nat) (at_ : Nat) (S1 : Sx), i ≤ z → z - i < fu → S1 = pce S0 (ofA f x i).1 → at_ = (ofA f x i).2 → V F G S1 103 [some (ra G 80), some (.int (nI z)), some (.int (nI kd)), some (.int (nI a)), some (.int x), u, some (.int (nI at_)), some (.int (nI i))] []) := by
  have loop50 : ∀ {z kd a : Nat} {x : Int32} {f : Nat → Int32} {S0 : Sx}, z ≤ 36 → (∀ w : Option Value, V F G (pce S0 f) 89 [some (ra G 80), some (.int (nI z)), some (.int (nI kd)), some (.int (nI a)), some (.int x), some (.int (bb (isK f x z))), some (.int (nI z)), w] []) → ∀ (fu i : Nat) , i ≤ z → z - i < fu → ∀ {w : Option Value}, V F G (pce S0 f) 50 [some (ra G 80), some (.int (nI z)), some (.int (nI kd)), some (.int (nI a)), some (.int x), some (.int (bb (isK f x i))), some (.int (nI i)), w] [] := by
    intro z kd a x f S0 hz kx fu
    induction fu with
    | zero => intro i h1 h2; omega
    | succ fu ih =>
      intro i h1 h2 w
      refine V_iload X dX6_gathers_50 rfl ?_
      refine V_iload_n X dX6_gathers_52 rfl ?_
      refine V_cN_ge X 89 (by omega) (by omega) dX6_gathers_53 (by decide) (fun h53 => ?_) (fun h53 => ?_)
      · rw [show i = z by omega]
        exact kx _
      · refine V_iload X dX6_gathers_56 rfl ?_
        refine V_if_eq X 80 dX6_gathers_58 (by decide) (fun h58 => ?_) (fun h58 => ?_)
        · refine V_iconst X (nI 0) dX6_gathers_80 (by decide) ?_
          refine V_top (bb (isK f x (i + 1))) (by rw [isK_s, bb_0.mp h58]; rfl) ?_
          refine V_istore X dX6_gathers_81 (by rw [hR.2]; decide) ?_
          refine V_iinc X (nI (_ + 1)) dX6_gathers_83 (by rw [hR.2]; decide) rfl (nI_add _ 1) ?_
          refine V_goto X 50 dX6_gathers_86 (by decide) ?_
          exact ih (i + 1) (by omega) (by omega)
        · refine V_iload X dX6_gathers_61 rfl ?_
          refine V_aload_n X dX6_gathers_63 rfl ?_
          refine V_getr X flX6_22 (ltN (by decide) hN) rfl rfl dX6_gathers_64 ?_
          refine V_iload X dX6_gathers_67 rfl ?_
          refine V_ialdN X (ltN (by decide) hN) rfl (by omega) (by decide) dX6_gathers_69 ?_
          refine V_iconst X (-1) dX6_gathers_70 (by decide) ?_
          refine V_ixor X dX6_gathers_71 ?_
          refine V_iand X dX6_gathers_72 ?_
          refine V_if_eq X 80 dX6_gathers_73 (by decide) (fun h73 => ?_) (fun h73 => ?_)
          · refine V_iconst X (nI 0) dX6_gathers_80 (by decide) ?_
            refine V_top (bb (isK f x (i + 1))) (by rw [isK_s, decide_eq_true (show x &&& (f i ^^^ -1) = 0 from h73), Bool.not_true, Bool.and_false]; rfl) ?_
            refine V_istore X dX6_gathers_81 (by rw [hR.2]; decide) ?_
            refine V_iinc X (nI (_ + 1)) dX6_gathers_83 (by rw [hR.2]; decide) rfl (nI_add _ 1) ?_
            refine V_goto X 50 dX6_gathers_86 (by decide) ?_
            exact ih (i + 1) (by omega) (by omega)
          · refine V_iconst X (nI 1) dX6_gathers_76 (by decide) ?_
            refine V_top (bb (isK f x (i + 1))) (by rw [isK_s, bb_n.mp h58, decide_eq_false (show ¬ x &&& (f i ^^^ -1) = 0 from h73)]; rfl) ?_
            refine V_goto X 81 dX6_gathers_77 (by decide) ?_
            refine V_istore X dX6_gathers_81 (by rw [hR.2]; decide) ?_
            refine V_iinc X (nI (_ + 1)) dX6_gathers_83 (by rw [hR.2]; decide) rfl (nI_add _ 1) ?_
            refine V_goto X 50 dX6_gathers_86 (by decide) ?_
            exact ih (i + 1) (by omega) (by omega)
  have loop103 : ∀ {z kd a : Nat} {x : Int32} {f : Nat → Int32} {S0 : Sx} {u : Option Value}, z ≤ 36 → (∀ (S1 : Sx) (at_ : Nat), S1 = pce S0 (ofA f x z).1 → at_ = (ofA f x z).2 → V F G S1 150 [some (ra G 80), some (.int (nI z)), some (.int (nI kd)), some (.int (nI a)), some (.int x), u, some (.int (nI at_)), some (.int (nI z))] []) → ∀ (fu i : Nat) (at_ : Nat) (S1 : Sx), i ≤ z → z - i < fu → S1 = pce S0 (ofA f x i).1 → at_ = (ofA f x i).2 → V F G S1 103 [some (ra G 80), some (.int (nI z)), some (.int (nI kd)), some (.int (nI a)), some (.int x), u, some (.int (nI at_)), some (.int (nI i))] [] := by
    intro z kd a x f S0 u hz kx fu
    induction fu with
    | zero => intro i at_ S1 h1 h2; omega
    | succ fu ih =>
      intro i at_ S1 h1 h2 hs ha
      refine V_iload X dX6_gathers_103 rfl ?_
      refine V_iload_n X dX6_gathers_105 rfl ?_
      refine V_cN_ge X 150 (by (have := ofA_le f x i; omega)) (by (have := ofA_le f x i; omega)) dX6_gathers_106 (by decide) (fun h106 => ?_) (fun h106 => ?_)
      · have hiz : i = z := by omega
        rw [hiz] at hs ha ⊢
        exact kx _ _ hs ha
      · refine V_aload_n X dX6_gathers_109 rfl ?_
        refine V_getr X flX6_22 (ltN (by decide) hN) rfl rfl dX6_gathers_110 ?_
        refine V_iload X dX6_gathers_113 rfl ?_
        refine V_ialdN X (ltN (by decide) hN) rfl (by (have := ofA_le f x i; omega)) (by decide) dX6_gathers_115 ?_
        refine V_iload X dX6_gathers_116 rfl ?_
        refine V_iconst X (-1) dX6_gathers_118 (by decide) ?_
        refine V_ixor X dX6_gathers_119 ?_
        refine V_iand X dX6_gathers_120 ?_
        refine V_if_ne X 127 dX6_gathers_121 (by decide) (fun h121 => ?_) (fun h121 => ?_)
        · have h121 : ¬ (ofA f x i).1 i &&& (x ^^^ -1) = 0 := by rw [hs, pce_85] at h121; exact h121
          refine V_aload_n X dX6_gathers_127 rfl ?_
          refine V_getr X flX6_22 (ltN (by decide) hN) rfl rfl dX6_gathers_128 ?_
          refine V_iload X dX6_gathers_131 rfl ?_
          refine V_aload_n X dX6_gathers_133 rfl ?_
          refine V_getr X flX6_22 (ltN (by decide) hN) rfl rfl dX6_gathers_134 ?_
          refine V_iload X dX6_gathers_137 rfl ?_
          refine V_ialdN X (ltN (by decide) hN) rfl (by (have := ofA_le f x i; omega)) (by decide) dX6_gathers_139 ?_
          refine V_iastN X (ltN (by decide) hN) rfl (by (have := ofA_le f x i; omega)) (by decide) dX6_gathers_140 ?_
          refine V_iinc X (nI (_ + 1)) dX6_gathers_141 (by rw [hR.2]; decide) rfl (nI_add _ 1) ?_
          refine V_iinc X (nI (_ + 1)) dX6_gathers_144 (by rw [hR.2]; decide) rfl (nI_add _ 1) ?_
          refine V_goto X 103 dX6_gathers_147 (by decide) ?_
          exact ih (i + 1) _ _ (by omega) (by omega) (by rw [hs, pce_st, pce_85, ofA, if_neg h121, ← ha]) (by rw [ofA, if_neg h121, ← ha])
        · have h121 : (ofA f x i).1 i &&& (x ^^^ -1) = 0 := by rw [hs, pce_85] at h121; exact ts_nn h121
          refine V_goto X 144 dX6_gathers_124 (by decide) ?_
          refine V_iinc X (nI (_ + 1)) dX6_gathers_144 (by rw [hR.2]; decide) rfl (nI_add _ 1) ?_
          refine V_goto X 103 dX6_gathers_147 (by decide) ?_
          exact ih (i + 1) _ _ (by omega) (by omega) (by rw [hs, ofA, if_pos h121]) (by rw [ofA, if_pos h121]; exact ha)
  exact ⟨loop50, loop103⟩

set_option maxRecDepth 100000 in
set_option maxHeartbeats 4000000 in
theorem kX6_gathers {G : Cx} {S : Sx} (hN : 88 ≤ gN G) {n : Nat} (hn : S 80 0 = nI n) (hn14 : n ≤ 14) (hMR : MR S n) : CT G (6) yX6_gathers cX6_gathers 8 (some .int) [ra G 80] S (nI (gtL ((rdL S n).1 85) (fun q => akF ((rdL S n).1 83) (qk q) (qa q) (rdL S n).2) (36)).2) (pce (rdL S n).1 (gtL ((rdL S n).1 85) (fun q => akF ((rdL S n).1 83) (qk q) (qa q) (rdL S n).2) (36)).1) := by
  refine CT_of (by decide) (Nat.le_of_ble_eq_true rfl) (by intro v hv; simp only [List.mem_cons, List.not_mem_nil, or_false] at hv; rcases hv with rfl <;> rfl) (fun F X E => ?_)
  have hR := RI_R E
  have loopA : ∀ (kd : Nat), kd < 4 → (∀ (z : Nat) (S1 : Sx) (u3 u4 u5 u6 u7 : Option Value), S1 = pce (rdL S n).1 (gtL ((rdL S n).1 85) (fun q => akF ((rdL S n).1 83) (qk q) (qa q) (rdL S n).2) (qb kd + acN kd)).1 → z = (gtL ((rdL S n).1 85) (fun q => akF ((rdL S n).1 83) (qk q) (qa q) (rdL S n).2) (qb kd + acN kd)).2 → V F G S1 170 [some (ra G 80), some (.int (nI z)), some (.int (nI kd)), u3, u4, u5, u6, u7] []) → ∀ (fu a z : Nat) (S1 : Sx) (u4 u5 u6 u7 : Option Value), a ≤ acN kd → acN kd - a < fu → S1 = pce (rdL S n).1 (gtL ((rdL S n).1 85) (fun q => akF ((rdL S n).1 83) (qk q) (qa q) (rdL S n).2) (qb kd + a)).1 → z = (gtL ((rdL S n).1 85) (fun q => akF ((rdL S n).1 83) (qk q) (qa q) (rdL S n).2) (qb kd + a)).2 → V F G S1 19 [some (ra G 80), some (.int (nI z)), some (.int (nI kd)), some (.int (nI a)), u4, u5, u6, u7] [] := by
    intro kd hkd kx fu
    induction fu with
    | zero => intro a z S1 u4 u5 u6 u7 h1 h2; omega
    | succ fu ih =>
      intro a z S1 u4 u5 u6 u7 h1 h2 hs hz
      have hac : acN kd ≤ 10 := by unfold acN; split <;> omega
      refine V_iload_n X dX6_gathers_19 rfl ?_
      refine V_iload_n X dX6_gathers_20 rfl ?_
      refine V_csi X (kX6_isQuestion ) cwX6_95 rfl (rm_ok hR (by decide) (by decide)) (Nat.le_of_ble_eq_true rfl) dX6_gathers_21 ?_
      refine V_if_eq X 170 dX6_gathers_24 (by decide) (fun h24 => ?_) (fun h24 => ?_)
      · have hge : acN kd ≤ a := Nat.le_of_not_lt (fun z => (bi_eq.mp h24) ((okQ_n (by omega) (by omega)).mpr ⟨hkd, z⟩))
        rw [show a = acN kd by omega] at hs hz
        exact kx _ _ _ _ _ _ _ hs hz
      · have hq : qOk kd a := okQ_q.mp ((okQ_n (by omega) (by omega)).mp (Classical.byContradiction (fun z => h24 (bi_eq.mpr z))))
        have hqk := qk_b hq
        have hqa := (okQ_q.mpr hq).2
        have hqb : qb kd + a < 36 := by rw [← qix_b hkd]; exact qix_36 hq
        have hzl := gtL_le ((rdL S n).1 85) (fun q => akF ((rdL S n).1 83) (qk q) (qa q) (rdL S n).2) (qb kd + a)
        have hxq : akF ((rdL S n).1 83) (qk (qb kd + a)) (qa (qb kd + a)) (rdL S n).2 = akF ((rdL S n).1 83) kd a (rdL S n).2 := by rw [hqk.1, hqk.2]
        generalize hx0 : akF ((rdL S n).1 83) kd a (rdL S n).2 = x0 at hxq
        generalize hff : (gtL ((rdL S n).1 85) (fun q => akF ((rdL S n).1 83) (qk q) (qa q) (rdL S n).2) (qb kd + a)).1 = f at hs
        refine V_aload_n X dX6_gathers_27 rfl ?_
        refine V_iload_n X dX6_gathers_28 rfl ?_
        refine V_iload_n X dX6_gathers_29 rfl ?_
        refine V_cvi X (ltN (by decide) hN) rfl rfl rfl (kX6_asked hN hq (by rw [hs, pce_ne (by decide)]; exact (rdL_I S n).2.1) hMR.2.2.2.1 hMR.2.2.2.2.1 (by rw [hs, pce_ne (by decide)]; exact hMR.2.2.2.2.2)) cwX6_114 rfl (rm_ok hR (by decide) (by decide)) (Nat.le_of_ble_eq_true rfl) dX6_gathers_30 ?_
        refine V_top (x0) (by rw [hs, pce_ne (by decide)]; exact hx0) ?_
        refine V_istore X dX6_gathers_33 (by rw [hR.2]; decide) ?_
        refine V_iload X dX6_gathers_35 rfl ?_
        refine V_if_eq X 44 dX6_gathers_37 (by decide) (fun h37 => ?_) (fun h37 => ?_)
        · refine V_iconst X (nI 0) dX6_gathers_44 (by decide) ?_
          refine V_top (bb (isK f x0 0)) (by rw [isK_0, decide_eq_true h37]; rfl) ?_
          refine V_istore X dX6_gathers_45 (by rw [hR.2]; decide) ?_
          refine V_iconst X (nI 0) dX6_gathers_47 (by decide) ?_
          refine V_istore X dX6_gathers_48 (by rw [hR.2]; decide) ?_
          rw [hs]
          refine (gath_loops hN X hR).1 (by omega) (fun w2 => ?_) (z + 1) 0 (by omega) (by omega)
          refine V_iload X dX6_gathers_89 rfl ?_
          refine V_if_ne X 97 dX6_gathers_91 (by decide) (fun h91 => ?_) (fun h91 => ?_)
          · refine V_iconst X (nI 0) dX6_gathers_97 (by decide) ?_
            refine V_istore X dX6_gathers_98 (by rw [hR.2]; decide) ?_
            refine V_iconst X (nI 0) dX6_gathers_100 (by decide) ?_
            refine V_istore X dX6_gathers_101 (by rw [hR.2]; decide) ?_
            refine (gath_loops hN X hR).2 (f := f) (S0 := (rdL S n).1) (by omega) (fun S2 at_ e2 e3 => ?_) (z + 1) 0 0 _ (by omega) (by omega) rfl rfl
            refine V_aload_n X dX6_gathers_150 rfl ?_
            refine V_getr X flX6_22 (ltN (by decide) hN) rfl rfl dX6_gathers_151 ?_
            refine V_iload X dX6_gathers_154 rfl ?_
            refine V_iload X dX6_gathers_156 rfl ?_
            refine V_iastN X (ltN (by decide) hN) rfl (by (have := ofA_le f x0 z; omega)) (by decide) dX6_gathers_158 ?_
            refine V_iload X dX6_gathers_159 rfl ?_
            refine V_iconst X (nI 1) dX6_gathers_161 (by decide) ?_
            refine V_addN X dX6_gathers_162 ?_
            refine V_istore_n X dX6_gathers_163 (by rw [hR.2]; decide) ?_
            refine V_iinc X (nI (_ + 1)) dX6_gathers_164 (by rw [hR.2]; decide) rfl (nI_add _ 1) ?_
            refine V_goto X 19 dX6_gathers_167 (by decide) ?_
            exact ih (a + 1) _ _ _ _ _ _ (by omega) (by omega) (by rw [e2, pce_st, e3, show qb kd + (a + 1) = qb kd + a + 1 by omega, gtL, hxq, gtS, hff, ← hz, if_pos (bb_n.mp h91)]) (by rw [e3, show qb kd + (a + 1) = qb kd + a + 1 by omega, gtL, hxq, gtS, hff, ← hz, if_pos (bb_n.mp h91)])
          · refine V_goto X 164 dX6_gathers_94 (by decide) ?_
            refine V_iinc X (nI (_ + 1)) dX6_gathers_164 (by rw [hR.2]; decide) rfl (nI_add _ 1) ?_
            refine V_goto X 19 dX6_gathers_167 (by decide) ?_
            exact ih (a + 1) _ _ _ _ _ _ (by omega) (by omega) (by rw [show qb kd + (a + 1) = qb kd + a + 1 by omega, gtL, hxq, gtS, if_neg (by rw [hff, ← hz, bb_0.mp (ts_nn h91)]; decide), hff]) (by rw [show qb kd + (a + 1) = qb kd + a + 1 by omega, gtL, hxq, gtS, if_neg (by rw [hff, ← hz, bb_0.mp (ts_nn h91)]; decide)]; exact hz)
        · refine V_iconst X (nI 1) dX6_gathers_40 (by decide) ?_
          refine V_top (bb (isK f x0 0)) (by rw [isK_0, decide_eq_false h37]; rfl) ?_
          refine V_goto X 45 dX6_gathers_41 (by decide) ?_
          refine V_istore X dX6_gathers_45 (by rw [hR.2]; decide) ?_
          refine V_iconst X (nI 0) dX6_gathers_47 (by decide) ?_
          refine V_istore X dX6_gathers_48 (by rw [hR.2]; decide) ?_
          rw [hs]
          refine (gath_loops hN X hR).1 (by omega) (fun w2 => ?_) (z + 1) 0 (by omega) (by omega)
          refine V_iload X dX6_gathers_89 rfl ?_
          refine V_if_ne X 97 dX6_gathers_91 (by decide) (fun h91 => ?_) (fun h91 => ?_)
          · refine V_iconst X (nI 0) dX6_gathers_97 (by decide) ?_
            refine V_istore X dX6_gathers_98 (by rw [hR.2]; decide) ?_
            refine V_iconst X (nI 0) dX6_gathers_100 (by decide) ?_
            refine V_istore X dX6_gathers_101 (by rw [hR.2]; decide) ?_
            refine (gath_loops hN X hR).2 (f := f) (S0 := (rdL S n).1) (by omega) (fun S2 at_ e2 e3 => ?_) (z + 1) 0 0 _ (by omega) (by omega) rfl rfl
            refine V_aload_n X dX6_gathers_150 rfl ?_
            refine V_getr X flX6_22 (ltN (by decide) hN) rfl rfl dX6_gathers_151 ?_
            refine V_iload X dX6_gathers_154 rfl ?_
            refine V_iload X dX6_gathers_156 rfl ?_
            refine V_iastN X (ltN (by decide) hN) rfl (by (have := ofA_le f x0 z; omega)) (by decide) dX6_gathers_158 ?_
            refine V_iload X dX6_gathers_159 rfl ?_
            refine V_iconst X (nI 1) dX6_gathers_161 (by decide) ?_
            refine V_addN X dX6_gathers_162 ?_
            refine V_istore_n X dX6_gathers_163 (by rw [hR.2]; decide) ?_
            refine V_iinc X (nI (_ + 1)) dX6_gathers_164 (by rw [hR.2]; decide) rfl (nI_add _ 1) ?_
            refine V_goto X 19 dX6_gathers_167 (by decide) ?_
            exact ih (a + 1) _ _ _ _ _ _ (by omega) (by omega) (by rw [e2, pce_st, e3, show qb kd + (a + 1) = qb kd + a + 1 by omega, gtL, hxq, gtS, hff, ← hz, if_pos (bb_n.mp h91)]) (by rw [e3, show qb kd + (a + 1) = qb kd + a + 1 by omega, gtL, hxq, gtS, hff, ← hz, if_pos (bb_n.mp h91)])
          · refine V_goto X 164 dX6_gathers_94 (by decide) ?_
            refine V_iinc X (nI (_ + 1)) dX6_gathers_164 (by rw [hR.2]; decide) rfl (nI_add _ 1) ?_
            refine V_goto X 19 dX6_gathers_167 (by decide) ?_
            exact ih (a + 1) _ _ _ _ _ _ (by omega) (by omega) (by rw [show qb kd + (a + 1) = qb kd + a + 1 by omega, gtL, hxq, gtS, if_neg (by rw [hff, ← hz, bb_0.mp (ts_nn h91)]; decide), hff]) (by rw [show qb kd + (a + 1) = qb kd + a + 1 by omega, gtL, hxq, gtS, if_neg (by rw [hff, ← hz, bb_0.mp (ts_nn h91)]; decide)]; exact hz)
  have loopB : ∀ (fu kd z : Nat) (S1 : Sx) (u3 u4 u5 u6 u7 : Option Value), kd ≤ 4 → 4 - kd < fu → S1 = pce (rdL S n).1 (gtL ((rdL S n).1 85) (fun q => akF ((rdL S n).1 83) (qk q) (qa q) (rdL S n).2) (qb kd)).1 → z = (gtL ((rdL S n).1 85) (fun q => akF ((rdL S n).1 83) (qk q) (qa q) (rdL S n).2) (qb kd)).2 → V F G S1 12 [some (ra G 80), some (.int (nI z)), some (.int (nI kd)), u3, u4, u5, u6, u7] [] := by
    intro fu
    induction fu with
    | zero => intro kd z S1 u3 u4 u5 u6 u7 h1 h2; omega
    | succ fu ih =>
      intro kd z S1 u3 u4 u5 u6 u7 h1 h2 hs hz
      have hac : acN kd ≤ 10 := by unfold acN; split <;> omega
      refine V_iload_n X dX6_gathers_12 rfl ?_
      refine V_iconst X (nI 4) dX6_gathers_13 (by decide) ?_
      refine V_cN_ge X 176 (by omega) (by omega) dX6_gathers_14 (by decide) (fun h14 => ?_) (fun h14 => ?_)
      · refine V_iload_n X dX6_gathers_176 rfl ?_
        exact V_iret X E dX6_gathers_177 (by rw [hz, show kd = 4 by omega]; rfl) (by rw [hs, show kd = 4 by omega]; rfl)
      · refine V_iconst X (nI 0) dX6_gathers_17 (by decide) ?_
        refine V_istore_n X dX6_gathers_18 (by rw [hR.2]; decide) ?_
        refine loopA kd h14 (fun z2 S2 u3 u4 u5 u6 u7 e2 e3 => ?_) 11 0 z S1 _ _ _ _ (by omega) (by omega) hs hz
        refine V_iinc X (nI (_ + 1)) dX6_gathers_170 (by rw [hR.2]; decide) rfl (nI_add _ 1) ?_
        refine V_goto X 12 dX6_gathers_173 (by decide) ?_
        rw [← qb_s h14] at e2 e3
        exact ih (kd + 1) _ _ _ _ _ _ _ (by omega) (by omega) e2 e3
  refine V_aload_n X dX6_gathers_0 rfl ?_
  refine V_aload_n X dX6_gathers_1 rfl ?_
  refine V_geti X flX6_35 (ltN (by decide) hN) rfl rfl dX6_gathers_2 ?_
  refine V_top (nI (n)) (hn) ?_
  refine V_cvv X (ltN (by decide) hN) rfl rfl rfl (kX6_reads hN hMR.1 hMR.2.1 hMR.2.2.1) cwX6_50 rfl (rm_ok hR (by decide) (by decide)) (Nat.le_of_ble_eq_true rfl) dX6_gathers_5 ?_
  refine V_iconst X (nI 0) dX6_gathers_8 (by decide) ?_
  refine V_istore_n X dX6_gathers_9 (by rw [hR.2]; decide) ?_
  refine V_iconst X (nI 0) dX6_gathers_10 (by decide) ?_
  refine V_istore_n X dX6_gathers_11 (by rw [hR.2]; decide) ?_
  exact loopB 5 0 0 _ none none none none none (by omega) (by omega) (pce_self _).symm rfl

