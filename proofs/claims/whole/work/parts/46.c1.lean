/-! ===== constructors: a world that grows, as a list ===== -/
def UC (F : Fx) (G : Cx) (ws : va_W) (k n pc : Nat) (L : List (Option Value)) (sk : List Value) : Prop := match F with
  | (p, e, R, s, m, args, below, meth, c, nL, kc, ks, Q) => ∀ (H : Heap) (locs : List Loc) (ls : Array Slot), va_P (gD G) vwCl ws H → va_D (gA G) ws → va_S (gA G) s.heap H locs → lh ls nL L → W p (gl G) e R s m args below meth c H locs k n Q (F0 m pc ls sk)
def aoW (U : State) : Prop := (Cond.arrayOver (.array .int)).before #[] U = true
theorem aoW_al {u U : State} (h : u.vm.Alike U.vm) (q : aoW u) : aoW U := Jvm.Stand.arrayOver_alikeB h q
def CA (F : Fx) (G : Cx) : Prop := match F with
  | (p, e, R, s, m, args, below, meth, c, nL, kc, ks, Q) => (∀ q, s.heap.size ≤ q → gA G q) ∧ aoW s
def CM (F : Fx) : Prop := match F with
  | (p, e, R, s, m, args, below, meth, c, nL, kc, ks, Q) => meth.name = "<init>"
def gset (G : Cx) (A : Nat → Prop) : Cx := (gl G, gD G, gad G, gI G, gO G, A, gN G)
abbrev zI (G : Cx) (n : Nat) : va_E := .inl (gI G, n, .inl (fun _ => 0))
def IP (G : Cx) (h0 sz ci : Nat) (fs : List Value) (U : State) : Prop := U.heap.size = sz ∧ va_P (gD G) vwCl [(h0, .inr (ci, fs))] U.heap ∧ va_K (gD G) vwCl (tyz G) U ∧ (∀ w ∈ nw, va_Nw w U) ∧ aoW U
def rmC (d mc ms : Nat) : Room := { frames := d, cells := mc, slots := ms, locals := 40 * d }
def vA (h0 sz ci : Nat) (fs : List Value) : Nat → Prop := va_A [(h0, .inr (ci, fs))] sz
def IC (G : Cx) (d mc ms : Nat) (y : MethodName) (cc : ByteArray) (h0 sz ci : Nat) (fs : List Value) (post : va_W → Prop) : Prop :=
  Met (gl G) y (mw y cc 1 none) (rmC d mc ms) (va_Pc [.ref h0] (IP G h0 sz ci fs)) (va_Qv post (fun ws t => va_P (gD G) vwCl ws t.heap ∧ va_D (vA h0 sz ci fs) ws) (vA h0 sz ci fs)) mc ms (vA h0 sz ci fs)
def RC (F : Fx) (G : Cx) (d mc ms : Nat) (post : va_W → Prop) : Prop := match F with
  | (p, e, R, s, m, args, below, meth, c, nL, kc, ks, Q) => meth.sig.returnType = none ∧ R = rmC d mc ms ∧ nL = 1 ∧ Q = MQ below (va_Qv post (fun ws t => va_P (gD G) vwCl ws t.heap ∧ va_D (gA G) ws) (gA G)) args s mc ms (gA G)
theorem IP_blind {G : Cx} {h0 sz ci : Nat} {fs : List Value} {as : List Value} : FrameBlind (va_Pc as (IP G h0 sz ci fs)) := fun a U g mk q => by
  obtain ⟨q0, q1, qP, qK, qN, qO⟩ := q
  exact ⟨q0, q1, qP, va_K.moved (u := U) (U := U.calling g mk a) (Vm.Alike.refl U.vm) qK, nw_same (s := U) (U := U.calling g mk a) rfl qN, aoW_al (u := U) (U := U.calling g mk a) (Vm.Alike.refl U.vm) qO⟩
theorem IC_of {G : Cx} {d mc ms : Nat} {y : MethodName} {cc : ByteArray} {h0 sz ci : Nat} {fs : List Value} {post : va_W → Prop} (hy : plainName y.cls = true) (hyn : y.name = "<init>")
    (h : ∀ F : Fx, CX F (gset G (vA h0 sz ci fs)) cc y.cls → CA F (gset G (vA h0 sz ci fs)) → CM F → RC F (gset G (vA h0 sz ci fs)) d mc ms post → UC F (gset G (vA h0 sz ci fs)) [(h0, .inr (ci, fs))] 0 0 0 [some (.ref h0)] []) : IC G d mc ms y cc h0 sz ci fs post := by
  refine Met.ofW (cc := cc) (maxL := 1) (ret := none) hy rfl ?_
  intro p e s m args below meth c s₁ B hml hv
  obtain ⟨rfl, hsz, hP, hK, hN, hO⟩ := hv
  subst hsz
  have hts := atoms_spec (ws := mw y cc 1 none) B.pre
  have hown : s.vm.findClass y.cls = some m.cls := findClass_of_methodNamed B.named
  have hin : meth.name = "<init>" := by rw [(name_of_methodNamed B.named B.method).1]; exact hyn
  have X : CX (p, e, rmC d mc ms, s, m, [Value.ref h0].toArray, below, meth, c, 1, 0, 0, MQ below (va_Qv post (fun ws t => va_P (gD G) vwCl ws t.heap ∧ va_D (vA h0 s.heap.size ci fs) ws) (vA h0 s.heap.size ci fs)) [Value.ref h0].toArray s mc ms (vA h0 s.heap.size ci fs)) (gset G (vA h0 s.heap.size ci fs)) cc y.cls :=
    ⟨B.exec, B.bytes, hml, hown, fun w hw => hts w (List.mem_cons_of_mem _ hw), hK, hN, B.notSynchronized, Nat.zero_le _, Nat.zero_le _⟩
  have k := h _ X ⟨fun q hq => Or.inr hq, hO⟩ hin ⟨B.returns, rfl, rfl, rfl⟩
  rw [lg_entry_eq]
  refine k s.heap [] _ hP ⟨fun i j x y hi hj _ => ?_, fun k9 x hx => ?_⟩ va_S.rf (lh_entry (as := [Value.ref h0]) (n := 1) (Nat.le_refl 1) (by intro v hv; rw [List.mem_singleton.mp hv]; rfl))
  · have h1 := (List.getElem?_eq_some_iff.mp hi).1
    have h2 := (List.getElem?_eq_some_iff.mp hj).1
    simp at h1 h2; omega
  · have h1 := (List.getElem?_eq_some_iff.mp hx).1
    have : k9 = 0 := by simp at h1; exact h1
    subst this
    cases hx
    exact Or.inl ⟨0, _, rfl⟩
theorem U_aload_n {F : Fx} {G : Cx} {cc : ByteArray} {own : String} {ws : va_W} {k1 n1 pc : Nat} {L : List (Option Value)} {sk : List Value} (X : CX F G cc own) {n : Fin 4} {a : Nat} (hd : decode cc pc = .ok (.aload_n n, 1)) (hq : L[(n : Nat)]? = some (some (.ref a))) (k : UC F G ws k1 n1 (pc + 1) L (.ref a :: sk)) : UC F G ws k1 n1 pc L sk := by
  obtain ⟨p, e, R, s, m, args, below, meth, c, nL, kc, ks, Q⟩ := F
  obtain ⟨hx, hb, hml, hown, hts, hK, hN, hlk, hkc, hks⟩ := X
  intro H locs ls hP hD hS hl
  exact lv_aload_n hx hb hd rfl (hl.2.2 _ _ hq).1 (k H locs ls hP hD hS hl)
theorem U_astore_n {F : Fx} {G : Cx} {cc : ByteArray} {own : String} {ws : va_W} {k1 n1 pc : Nat} {L : List (Option Value)} {sk : List Value} (X : CX F G cc own) {n : Fin 4} {a : Nat} (hd : decode cc pc = .ok (.astore_n n, 1)) (hn : (n : Nat) < fnL F) (k : UC F G ws k1 n1 (pc + 1) (L.set (n : Nat) (some (.ref a))) sk) : UC F G ws k1 n1 pc L (.ref a :: sk) := by
  obtain ⟨p, e, R, s, m, args, below, meth, c, nL, kc, ks, Q⟩ := F
  obtain ⟨hx, hb, hml, hown, hts, hK, hN, hlk, hkc, hks⟩ := X
  intro H locs ls hP hD hS hl
  exact lv_astore_n hx hb hd rfl (lh_has hl) hn rfl (fun ls2 h2 => k H locs ls2 hP hD hS (lh_set hl rfl h2))
theorem U_iconst {F : Fx} {G : Cx} {cc : ByteArray} {own : String} {ws : va_W} {k1 n1 pc : Nat} {L : List (Option Value)} {sk : List Value} (X : CX F G cc own) {n : Int} (v : Int32) (hd : decode cc pc = .ok (.iconst n, 1)) (hv : Int32.ofInt n = v) (k : UC F G ws k1 n1 (pc + 1) L (.int v :: sk)) : UC F G ws k1 n1 pc L sk := by
  obtain ⟨p, e, R, s, m, args, below, meth, c, nL, kc, ks, Q⟩ := F
  obtain ⟨hx, hb, hml, hown, hts, hK, hN, hlk, hkc, hks⟩ := X
  intro H locs ls hP hD hS hl
  exact lv_iconst hx hb hd hv (k H locs ls hP hD hS hl)
theorem U_bipush {F : Fx} {G : Cx} {cc : ByteArray} {own : String} {ws : va_W} {k1 n1 pc : Nat} {L : List (Option Value)} {sk : List Value} (X : CX F G cc own) {n : Int} (v : Int32) (hd : decode cc pc = .ok (.bipush n, 2)) (hv : (Int8.ofInt n).toInt32 = v) (k : UC F G ws k1 n1 (pc + 2) L (.int v :: sk)) : UC F G ws k1 n1 pc L sk := by
  obtain ⟨p, e, R, s, m, args, below, meth, c, nL, kc, ks, Q⟩ := F
  obtain ⟨hx, hb, hml, hown, hts, hK, hN, hlk, hkc, hks⟩ := X
  intro H locs ls hP hD hS hl
  exact lv_bipush hx hb hd hv (k H locs ls hP hD hS hl)
theorem U_sipush {F : Fx} {G : Cx} {cc : ByteArray} {own : String} {ws : va_W} {k1 n1 pc : Nat} {L : List (Option Value)} {sk : List Value} (X : CX F G cc own) {n : Int} (v : Int32) (hd : decode cc pc = .ok (.sipush n, 3)) (hv : (Int16.ofInt n).toInt32 = v) (k : UC F G ws k1 n1 (pc + 3) L (.int v :: sk)) : UC F G ws k1 n1 pc L sk := by
  obtain ⟨p, e, R, s, m, args, below, meth, c, nL, kc, ks, Q⟩ := F
  obtain ⟨hx, hb, hml, hown, hts, hK, hN, hlk, hkc, hks⟩ := X
  intro H locs ls hP hD hS hl
  exact lv_sipush hx hb hd hv (k H locs ls hP hD hS hl)
theorem U_dup {F : Fx} {G : Cx} {cc : ByteArray} {own : String} {ws : va_W} {k1 n1 pc : Nat} {L : List (Option Value)} {sk : List Value} (X : CX F G cc own) {a : Nat} (hd : decode cc pc = .ok (.dup, 1)) (k : UC F G ws k1 n1 (pc + 1) L (.ref a :: .ref a :: sk)) : UC F G ws k1 n1 pc L (.ref a :: sk) := by
  obtain ⟨p, e, R, s, m, args, below, meth, c, nL, kc, ks, Q⟩ := F
  obtain ⟨hx, hb, hml, hown, hts, hK, hN, hlk, hkc, hks⟩ := X
  intro H locs ls hP hD hS hl
  exact lv_dup hx hb hd rfl (k H locs ls hP hD hS hl)
theorem oi_i : Cond.instanceMethod Lib.objectInit ∈ gw := gw_mem (tb_in 16 (by decide +kernel)) rfl
theorem oi_c : Cond.code Lib.objectInit ⟨#[0xb1]⟩ 1 none ∈ gw := gw_mem (tb_in 17 (by decide +kernel)) rfl
theorem U_obj {F : Fx} {G : Cx} {cc : ByteArray} {own : String} {ws : va_W} {k1 n1 pc idx : Nat} {L : List (Option Value)} (X : CX F G cc own) {a : Nat} (hw : Cond.methodLink own idx Lib.objectInit ∈ gw) (h1 : 1 ≤ (fR F).frames) (h2 : 12 ≤ (fR F).locals) (hd : decode cc pc = .ok (.invokespecial idx, 3)) (k : UC F G ws k1 n1 (pc + 3) L []) : UC F G ws k1 n1 pc L [.ref a] := by
  obtain ⟨p, e, R, s, m, args, below, meth, c, nL, kc, ks, Q⟩ := F
  obtain ⟨hx, hb, hml, hown, hts, hK, hN, hlk, hkc, hks⟩ := X
  intro H locs ls hP hD hS hl
  exact W.objInit hx hb hown (hts _ hw) (hts _ oi_i) (hts _ oi_c) rfl (by rw [hml]; exact hl.1) rfl hd h1 (by show 2 * 0 + 0 + 12 ≤ _; exact h2) (k H locs ls hP hD hS hl)
theorem ac_w : Cond.arrayClass .int ∈ gw := gw_mem (tb_in 39 (by decide +kernel)) rfl
theorem U_newI {F : Fx} {G : Cx} {cc : ByteArray} {own : String} {ws : va_W} {k1 n1 pc : Nat} {L : List (Option Value)} {sk : List Value} (X : CX F G cc own) (hA : CA F G) {N : Nat} (hN1 : N < 100000) (hc : k1 + 1 ≤ (fR F).cells) (hs : n1 + N ≤ (fR F).slots) (hd : decode cc pc = .ok (.newarray .int, 2)) (k : ∀ q, UC F G (ws ++ [(q, zI G N)]) (k1 + 1) (n1 + N) (pc + 2) L (.ref q :: sk)) : UC F G ws k1 n1 pc L (.int (nI N) :: sk) := by
  obtain ⟨p, e, R, s, m, args, below, meth, c, nL, kc, ks, Q⟩ := F
  obtain ⟨hx, hb, hml, hown, hts, hK, hN, hlk, hkc, hks⟩ := X
  intro H locs ls hP hD hS hl
  refine va_newa (atype := .int) (a0 := (N, .inl (fun _ => 0))) hx hb (hts _ ac_w) rfl hK hP hD hS hA.1 (fun cA => rfl) (by rw [i_lt, t_k N (by omega), t_0]; omega) (nI_clamp (by omega)) (by show N * 4 ≤ _; omega) hc hs hd (fun q cA H1 hK1 hP1 hD1 hS1 => ?_)
  have e1 : cA = gI G := by
    have h1 := (hK1.2 2 _ rfl).2
    have h2 := (hK.2 0 _ rfl).2
    exact Option.some.inj (Eq.trans (Eq.symm h1) h2)
  subst e1
  exact k q H1 locs ls hP1 hD1 hS1 hl
theorem U_mul {F : Fx} {G : Cx} {cc : ByteArray} {own : String} {ws : va_W} {k1 n1 pc idx : Nat} {L : List (Option Value)} {sk : List Value} (X : CX F G cc own) (hA : CA F G) {K : Nat} (hK1 : K ≤ 1000) (hw : Cond.classLink own idx "[[I" ∈ gw) (hc : k1 + 16 ≤ (fR F).cells) (hs : n1 + (15 + 15 * K) ≤ (fR F).slots) (hd : decode cc pc = .ok (.multianewarray idx 2, 4)) (k : ∀ a, UC F G (ws ++ mrow (gI G) (gO G) a K) (k1 + 1 + 15) (n1 + 15 + 15 * K) (pc + 4) L (.ref a :: sk)) : UC F G ws k1 n1 pc L (.int (nI K) :: .int (nI 15) :: sk) := by
  obtain ⟨p, e, R, s, m, args, below, meth, c, nL, kc, ks, Q⟩ := F
  obtain ⟨hx, hb, hml, hown, hts, hK, hN, hlk, hkc, hks⟩ := X
  intro H locs ls hP hD hS hl
  exact mn_row hx hb hown (hts _ hw) hA.2 (hts _ ac_w) (hK.2 0 _ rfl).2 (hK.2 1 _ rfl).2 hP hD hS hA.1 hK1 hc hs hd (fun H1 a hP1 hD1 hS1 => k a H1 locs ls hP1 hD1 hS1 hl)
/-- the words of a final field that a constructor sets -/
def FF (own : String) (idx ci k : Nat) : Prop := ∃ (C : String) (T : u_T) (N : Nat) (ty : Nat → FieldType) (t0 : FieldType), vwCl[ci]? = some (C, T, N) ∧ k < N ∧ (∀ w ∈ u_ws C T N, w ∈ gw) ∧ Cond.fieldLink own idx (T k).1 (T k).2.1 (T k).2.2.1 ∈ gw ∧ (∀ j, j < N → parseFieldDescriptor (T j).2.2.1 = some (ty j)) ∧ (∀ a, a < N → ∀ b, b < N → a ≠ b → (T a).2.1 ≠ (T b).2.1) ∧ (T k).2.2.2 = true ∧ (T k).1 = own ∧ parseFieldDescriptor (T k).2.2.1 = some t0 ∧ ∀ a : Nat, narrow t0 (.ref a) = .ref a ∧ fits t0 (.ref a) = true
theorem U_putF {F : Fx} {G : Cx} {cc : ByteArray} {own : String} {tl : va_W} {k1 n1 pc idx ci j h0 : Nat} {fs : List Value} {L : List (Option Value)} {sk : List Value} (X : CX F G cc own) (hM : CM F) {a : Nat} (hf : FF own idx ci j) (hl9 : j < fs.length) (hd : decode cc pc = .ok (.putfield idx, 3)) (k : UC F G ((h0, .inr (ci, fs.set j (.ref a))) :: tl) k1 n1 (pc + 3) L sk) : UC F G ((h0, .inr (ci, fs)) :: tl) k1 n1 pc L (.ref a :: .ref h0 :: sk) := by
  obtain ⟨p, e, R, s, m, args, below, meth, c, nL, kc, ks, Q⟩ := F
  obtain ⟨hx, hb, hml, hown, hts, hK, hN, hlk, hkc, hks⟩ := X
  intro H locs ls hP hD hS hl
  obtain ⟨C, T, N, ty, t0, f1, f2, f3, f4, f5, f6, f7, f8, f9, f10⟩ := hf
  exact va_putF hx hb hts f3 ty f5 f6 hown hK hP hD hS 0 rfl f1 j f2 (hts _ f4) (fun _ h9 => h9) f7 hM f8 f9 (f10 a).1 (f10 a).2 hl9 hd (fun H1 locs1 hP1 hD1 hS1 => k H1 locs1 ls hP1 hD1 hS1 hl)
/-- the words of a new object -/
def NW (own : String) (idx ci : Nat) (fs : List Value) (N0 : Nat) : Prop := ∃ (C : String) (T : u_T) (ty : Nat → FieldType), vwCl[ci]? = some (C, T, N0) ∧ (∀ w ∈ u_ws C T N0, w ∈ gw) ∧ (∀ j, j < N0 → parseFieldDescriptor (T j).2.2.1 = some (ty j)) ∧ Cond.classLink own idx C ∈ gw ∧ Cond.instantiable C N0 ∈ gw ∧ Cond.initialized C ∈ gw ∧ ∀ j, j < N0 → defaultValue (ty j) = vp_V fs j
theorem U_new {F : Fx} {G : Cx} {cc : ByteArray} {own : String} {ws : va_W} {k1 n1 pc idx ci N0 : Nat} {fs : List Value} {L : List (Option Value)} {sk : List Value} (X : CX F G cc own) (hA : CA F G) (hw : NW own idx ci fs N0) (hc : k1 + 1 ≤ (fR F).cells) (hs : n1 + N0 ≤ (fR F).slots) (hd : decode cc pc = .ok (.new idx, 3)) (k : ∀ q, UC F G (ws ++ [(q, .inr (ci, fs))]) (k1 + 1) (n1 + N0) (pc + 3) L (.ref q :: sk)) : UC F G ws k1 n1 pc L sk := by
  obtain ⟨p, e, R, s, m, args, below, meth, c, nL, kc, ks, Q⟩ := F
  obtain ⟨hx, hb, hml, hown, hts, hK, hN, hlk, hkc, hks⟩ := X
  intro H locs ls hP hD hS hl
  obtain ⟨C, T, ty, f1, f2, f3, f4, f5, f6, f7⟩ := hw
  exact va_new hx hb hts f2 ty f3 hown (hts _ f4) (hts _ f5) (hts _ f6) hK hP hD hS hA.1 f1 f7 hc hs hd (fun q H1 hP1 hD1 hS1 => k q H1 locs ls hP1 hD1 hS1 hl)
theorem joinA {D : va_G} {cl : List vw_C} {A0 : Nat → Prop} {ws w1 : va_W} {x : Nat × va_E} {H H1 : Heap} (hP : va_P D cl (ws ++ [x]) H) (hD : va_D A0 (ws ++ [x])) (hk : ∀ q : Nat, q < H.size → ¬ va_A [x] H.size q → H1[q]? = H[q]?) (hF : ∀ q, va_A [x] H.size q → A0 q) (hP1 : va_P D cl w1 H1) (hD1 : va_D (va_A [x] H.size) w1) : va_P D cl (ws ++ w1) H1 ∧ va_D A0 (ws ++ w1) := by
  have hx : (ws ++ [x])[ws.length]? = some x := by rw [List.getElem?_append_right (Nat.le_refl _), Nat.sub_self]; rfl
  have hl : ∀ (k : Nat) (q : Nat × va_E), ws[k]? = some q → (ws ++ [x])[k]? = some q := fun k q hq => by rw [List.getElem?_append_left (List.getElem?_eq_some_iff.mp hq).1]; exact hq
  have ap : ∀ (k : Nat) (q : Nat × va_E), ws[k]? = some q → q.1 < H.size ∧ ¬ va_A [x] H.size q.1 := fun k q hq => by
    have h1 := (hP k q (hl k q hq)).lt
    refine ⟨h1, fun z => ?_⟩
    rcases z with ⟨i, e, hi⟩ | z
    · have h2 := (List.getElem?_eq_some_iff.mp hi).1
      have : i = 0 := by simp at h2; exact h2
      subst this
      cases hi
      have := hD.1 k ws.length q _ (hl k q hq) hx rfl
      have := (List.getElem?_eq_some_iff.mp hq).1
      omega
    · omega
  have hPw : va_P D cl ws H := fun k q hq => hP k q (hl k q hq)
  have hDw : va_D A0 ws := ⟨fun i j p q hi hj => hD.1 i j p q (hl i p hi) (hl j q hj), fun k q hq => hD.2 k q (hl k q hq)⟩
  refine ⟨(hPw.kept (fun k q hq => hk q.1 (ap k q hq).1 (ap k q hq).2)).app hP1, hDw.app (hD1.weaken (fun k q hq z => hF q.1 z)) (fun i j p q hi hj e => ?_)⟩
  have := hD1.2 j q hj
  rw [← e] at this
  exact (ap i p hi).2 this
/-- the words of a constructor's call: of a nest mate, or not -/
def CWi (own : String) (idx : Nat) (y : MethodName) (cc : ByteArray) : Prop := Cond.methodLink own idx y ∈ gw ∧ Cond.instanceMethod y ∈ gw ∧ Cond.initialized y.cls ∈ gw ∧ Cond.code y cc 1 none ∈ gw ∧ (y.cls ≠ "java/lang/invoke/MethodHandle" ∧ y.cls ≠ "java/lang/invoke/VarHandle" ∧ (parseMethodDescriptor y.desc).map (fun d => d.parameters.length) = some 0)
def CWn (own : String) (idx : Nat) (y : MethodName) (cc : ByteArray) : Prop := (∃ host : String, Cond.methodLinkNest own idx y host ∈ nw) ∧ Cond.instanceMethod y ∈ gw ∧ Cond.initialized y.cls ∈ gw ∧ Cond.code y cc 1 none ∈ gw ∧ (y.cls ≠ "java/lang/invoke/MethodHandle" ∧ y.cls ≠ "java/lang/invoke/VarHandle" ∧ (parseMethodDescriptor y.desc).map (fun d => d.parameters.length) = some 0)
theorem U_pre {G : Cx} {s : State} {H : Heap} {ws : va_W} {q ci : Nat} {fs : List Value} (hP : va_P (gD G) vwCl (ws ++ [(q, .inr (ci, fs))]) H) (hK : va_K (gD G) vwCl (tyz G) s) (hN : ∀ w ∈ nw, va_Nw w s) (hO : aoW s) : ∀ U : State, U.heap = H → s.WarmedH U.vm → va_Pc [Value.ref q] (IP G q H.size ci fs) [Value.ref q].toArray U :=
  fun U hU hW => ⟨rfl, by rw [hU], by
    rw [hU]
    intro k9 x hx
    have h1 := (List.getElem?_eq_some_iff.mp hx).1
    have : k9 = 0 := by simp at h1; exact h1
    subst this
    cases hx
    exact hP ws.length _ (by rw [List.getElem?_append_right (Nat.le_refl _), Nat.sub_self]; rfl), va_K.moved hW.alike hK, nw_warm hW hN, aoW_al hW.alike hO⟩
theorem U_free {G : Cx} {s : State} {H : Heap} {locs : List Loc} {ws : va_W} {x : Nat × va_E} (hD : va_D (gA G) (ws ++ [x])) (hS : va_S (gA G) s.heap H locs) (hA : ∀ q, s.heap.size ≤ q → gA G q) : ∀ q, va_A [x] H.size q → gA G q := fun q z => by
  rcases z with ⟨i, e, hi⟩ | z
  · have h2 := (List.getElem?_eq_some_iff.mp hi).1
    have : i = 0 := by simp at h2; exact h2
    subst this
    cases hi
    exact hD.2 ws.length _ (by rw [List.getElem?_append_right (Nat.le_refl _), Nat.sub_self]; rfl)
  · exact hA q (by have := hS.1; omega)
theorem U_call {F : Fx} {G : Cx} {cc bytes : ByteArray} {own : String} {ws : va_W} {k1 n1 pc idx ci q d mc ms : Nat} {fs : List Value} {L : List (Option Value)} {rest : List Value} {y : MethodName} {post : va_W → Prop} (X : CX F G cc own) (hA : CA F G) (hyn : y.name = "<init>") (hc : ∀ sz, IC G d mc ms y bytes q sz ci fs post) (hw : CWi own idx y bytes) (hf : d + 1 ≤ (fR F).frames) (hlo : 20 + 40 * d ≤ (fR F).locals) (hr8 : csum rest ≤ 8) (hcc : k1 + mc ≤ (fR F).cells) (hss : n1 + ms ≤ (fR F).slots) (hd : decode cc pc = .ok (.invokespecial idx, 3)) (k : ∀ w1, post w1 → UC F G (ws ++ w1) (k1 + mc) (n1 + ms) (pc + 3) L rest) : UC F G (ws ++ [(q, .inr (ci, fs))]) k1 n1 pc L (.ref q :: rest) := by
  obtain ⟨p, e, R, s, m, args, below, meth, c, nL, kc, ks, Q⟩ := F
  obtain ⟨hx, hb, hml, hown, hts, hK, hN, hlk, hkc, hks⟩ := X
  intro H locs ls hP hD hS hl
  obtain ⟨w1, w2, w4, w5, w6⟩ := hw
  have hFc := U_free hD hS hA.1
  refine va_callv (va_runI (As := []) (rest := rest) ⟨hx, hb, hml, hown, hts⟩ (hc H.size) ⟨callB_of 0 hts (mw_good w5) rfl rfl rfl (hts _ w4) (hts _ w1) w6 ⟨hf, by show 8 + (1 + 11) + 40 * d ≤ _; exact hlo⟩, hyn, hts _ w2⟩ ⟨IP_blind, U_pre hP hK hN hA.2⟩ rfl rfl hl.1 rfl (lv_room hr8) hd ⟨hcc, hss⟩) hS (fun q _ h => hFc q h) hFc (fun u t H1 locs1 ht hvm hw1 hB hz1 hk1 hS1 => ?_)
  obtain ⟨hP1, hD1⟩ := hB
  rw [ht] at hP1
  obtain ⟨hP2, hD2⟩ := joinA hP hD hk1 hFc hP1 hD1
  exact k u hw1 H1 locs1 ls hP2 hD2 hS1 hl
theorem U_callN {F : Fx} {G : Cx} {cc bytes : ByteArray} {own : String} {ws : va_W} {k1 n1 pc idx ci q d mc ms : Nat} {fs : List Value} {L : List (Option Value)} {rest : List Value} {y : MethodName} {post : va_W → Prop} (X : CX F G cc own) (hA : CA F G) (hyn : y.name = "<init>") (hc : ∀ sz, IC G d mc ms y bytes q sz ci fs post) (hw : CWn own idx y bytes) (hf : d + 1 ≤ (fR F).frames) (hlo : 20 + 40 * d ≤ (fR F).locals) (hr8 : csum rest ≤ 8) (hcc : k1 + mc ≤ (fR F).cells) (hss : n1 + ms ≤ (fR F).slots) (hd : decode cc pc = .ok (.invokespecial idx, 3)) (k : ∀ w1, post w1 → UC F G (ws ++ w1) (k1 + mc) (n1 + ms) (pc + 3) L rest) : UC F G (ws ++ [(q, .inr (ci, fs))]) k1 n1 pc L (.ref q :: rest) := by
  obtain ⟨p, e, R, s, m, args, below, meth, c, nL, kc, ks, Q⟩ := F
  obtain ⟨hx, hb, hml, hown, hts, hK, hN, hlk, hkc, hks⟩ := X
  intro H locs ls hP hD hS hl
  obtain ⟨⟨host, w1⟩, w2, w4, w5, w6⟩ := hw
  have hFc := U_free hD hS hA.1
  refine va_callv (va_runIN (As := []) (rest := rest) ⟨hx, hb, hml, hown, hts⟩ (hc H.size) ⟨va_cnB 0 hts (mw_good w5) rfl rfl rfl (hN _ w1) (hts _ w4) w6 ⟨hf, by show 8 + (1 + 11) + 40 * d ≤ _; exact hlo⟩, hyn, hts _ w2⟩ ⟨IP_blind, U_pre hP hK hN hA.2⟩ rfl rfl hl.1 rfl (lv_room hr8) hd ⟨hcc, hss⟩) hS (fun q _ h => hFc q h) hFc (fun u t H1 locs1 ht hvm hw1 hB hz1 hk1 hS1 => ?_)
  obtain ⟨hP1, hD1⟩ := hB
  rw [ht] at hP1
  obtain ⟨hP2, hD2⟩ := joinA hP hD hk1 hFc hP1 hD1
  exact k u hw1 H1 locs1 ls hP2 hD2 hS1 hl
theorem U_ret {F : Fx} {G : Cx} {cc : ByteArray} {own : String} {ws : va_W} {d mc ms pc : Nat} {L : List (Option Value)} {post : va_W → Prop} (X : CX F G cc own) (E : RC F G d mc ms post) (hd : decode cc pc = .ok (.return_, 1)) (hp : post ws) : UC F G ws mc ms pc L [] := by
  obtain ⟨p, e, R, s, m, args, below, meth, c, nL, kc, ks, Q⟩ := F
  obtain ⟨hx, hb, hml, hown, hts, hK, hN, hlk, hkc, hks⟩ := X
  intro H locs ls hP hD hS hl
  obtain ⟨hr, -, -, rfl⟩ := E
  exact W.vret hx hb hr (fun t ht hW => ⟨⟨ws, rfl, hp, by rw [ht]; exact hP, hD⟩, hS.F ht⟩) hS.2.2 hd
theorem RC_R {F : Fx} {G : Cx} {d mc ms : Nat} {post : va_W → Prop} (h : RC F G d mc ms post) : fR F = rmC d mc ms ∧ fnL F = 1 := by
  obtain ⟨p, e, R, s, m, args, below, meth, c, nL, kc, ks, Q⟩ := F
  exact ⟨h.2.1, h.2.2.1⟩
theorem U_ws {F : Fx} {G : Cx} {ws ws' : va_W} {k1 n1 pc : Nat} {L : List (Option Value)} {sk : List Value} (h : ws = ws') (k : UC F G ws' k1 n1 pc L sk) : UC F G ws k1 n1 pc L sk := h ▸ k
theorem U_kn {F : Fx} {G : Cx} {ws : va_W} {k1 n1 k2 n2 pc : Nat} {L : List (Option Value)} {sk : List Value} (h1 : k1 = k2) (h2 : n1 = n2) (k : UC F G ws k2 n2 pc L sk) : UC F G ws k1 n1 pc L sk := h1 ▸ h2 ▸ k
/-- a field that is read, a place of an array that is written -/
theorem U_get {F : Fx} {G : Cx} {cc : ByteArray} {own : String} {ws : va_W} {k1 n1 pc idx ci j h0 q0 : Nat} {fs : List Value} {L : List (Option Value)} {sk : List Value} (X : CX F G cc own) {v : Value} (hf : FL own idx ci j) (he : ws[q0]? = some (h0, .inr (ci, fs))) (hv : fs[j]? = some v) (hd : decode cc pc = .ok (.getfield idx, 3)) (k : UC F G ws k1 n1 (pc + 3) L (v :: sk)) : UC F G ws k1 n1 pc L (.ref h0 :: sk) := by
  obtain ⟨p, e, R, s, m, args, below, meth, c, nL, kc, ks, Q⟩ := F
  obtain ⟨hx, hb, hml, hown, hts, hK, hN, hlk, hkc, hks⟩ := X
  intro H locs ls hP hD hS hl
  obtain ⟨C, T, N, f1, f2, f3, f4⟩ := hf
  exact va_get hx hb hts f3 hown hK hP q0 he f1 j f2 (hts _ f4) (fun _ h9 => h9) hv hd (k H locs ls hP hD hS hl)
theorem U_iast {F : Fx} {G : Cx} {cc : ByteArray} {own : String} {ws : va_W} {k1 n1 pc a q0 N i : Nat} {f : Nat → Int32} {x : Int32} {L : List (Option Value)} {sk : List Value} (X : CX F G cc own) (he : ws[q0]? = some (a, .inl (gI G, N, .inl f))) (hi : i < N) (hi2 : N < 2147483648) (hd : decode cc pc = .ok (.iastore, 1)) (k : UC F G (ws.set q0 (a, .inl (gI G, N, .inl (upd f i x)))) k1 n1 (pc + 1) L sk) : UC F G ws k1 n1 pc L (.int x :: .int (nI i) :: .ref a :: sk) := by
  obtain ⟨p, e, R, s, m, args, below, meth, c, nL, kc, ks, Q⟩ := F
  obtain ⟨hx, hb, hml, hown, hts, hK, hN, hlk, hkc, hks⟩ := X
  intro H locs ls hP hD hS hl
  refine va_iast hx hb hK hP hD hS q0 0 he rfl (vp_in_nI hi hi2) hd (fun H1 locs1 hP1 hD1 hS1 => ?_)
  rw [nI_clamp (show i < 2 ^ 31 by omega)] at hP1 hD1
  exact k H1 locs1 ls hP1 hD1 hS1 hl
