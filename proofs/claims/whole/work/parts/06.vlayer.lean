/-! ===== V: a method's walk over one fixed world of cells, in pure words ===== -/
/-- the tables' words that every method may be given -/
def gw : List Cond := lw_tbl.filter goodWord
theorem gw_mem {w : Cond} (h : w ∈ lw_tbl) (g : goodWord w = true) : w ∈ gw := List.mem_filter.mpr ⟨h, g⟩
theorem gw_in {w : Cond} (h : w ∈ gw) : w ∈ lw_tbl := (List.mem_filter.mp h).1
theorem gw_good {w : Cond} (h : w ∈ gw) : goodWord w = true := (List.mem_filter.mp h).2
def mw (y : MethodName) (cc : ByteArray) (n : Nat) (ret : Option FieldType) : List Cond := .code y cc n ret :: gw
theorem mw_good {y : MethodName} {cc : ByteArray} {n : Nat} {ret : Option FieldType} (h : Cond.code y cc n ret ∈ gw) : GoodIn gw (mw y cc n ret) := by
  intro w hw
  rcases List.mem_cons.mp hw with rfl | hw
  · exact ⟨h, good_of_word (gw_good h)⟩
  · exact ⟨hw, good_of_word (gw_good hw)⟩
/-- the links between nest mates -/
def isNest : Cond → Bool
  | .methodLinkNest _ _ _ _ => true
  | .fieldLinkNest _ _ _ _ _ _ => true
  | _ => false
def nw : List Cond := lw_tbl.filter isNest
theorem nw_mem {w : Cond} (h : w ∈ lw_tbl) (g : isNest w = true) : w ∈ nw := List.mem_filter.mpr ⟨h, g⟩
theorem nw_warm {s U : State} (hW : s.WarmedH U.vm) (h : ∀ w ∈ nw, va_Nw w s) : ∀ w ∈ nw, va_Nw w U := by
  intro w hw
  have h1 := h w hw
  have h2 := (List.mem_filter.mp hw).2
  cases w <;> first | exact va_Nw.warmM hW h1 | exact va_Nw.warmF hW h1 | exact absurd h2 Bool.false_ne_true
theorem nw_same {s U : State} (hv : s.vm = U.vm) (h : ∀ w ∈ nw, va_Nw w s) : ∀ w ∈ nw, va_Nw w U := by
  intro w hw
  have h1 := h w hw
  have h2 := (List.mem_filter.mp hw).2
  cases w <;> first | exact absurd h2 Bool.false_ne_true | exact va_Nw.same rfl hv h1
abbrev Cx : Type := Launch × va_G × (Nat → Nat) × ClassId × ClassId × (Nat → Prop) × Nat
abbrev Sx : Type := Nat → Nat → Int32
def gl (G : Cx) : Launch := G.1
def gD (G : Cx) : va_G := G.2.1
def gad (G : Cx) : Nat → Nat := G.2.2.1
def gI (G : Cx) : ClassId := G.2.2.2.1
def gO (G : Cx) : ClassId := G.2.2.2.2.1
def gA (G : Cx) : Nat → Prop := G.2.2.2.2.2.1
def gN (G : Cx) : Nat := G.2.2.2.2.2.2
def ra (G : Cx) (c : Nat) : Value := .ref (gad G c)
/-- the cells: an int array of a length; an object of a class, its fields (a reference to a cell, or an int); fifteen rows from a cell on -/
abbrev Ds : Type := Nat ⊕ (Nat × List (Option Nat)) ⊕ Nat
def ds (c : Nat) : Ds :=
  if c < 20 then (match c with
    | 0 => .inr (.inl (5, [some 1, some 4, some 7, some 14, some 18]))
    | 1 => .inr (.inl (2, [some 2, some 3, none, none]))
    | 2 => .inl 70
    | 3 => .inl 28
    | 4 => .inr (.inl (3, [some 5, some 6]))
    | 5 => .inr (.inr 20)
    | 6 => .inl 15
    | 7 => .inr (.inl (4, [some 8, some 9, some 10, some 11, some 12, some 13]))
    | 8 => .inl 8
    | 9 => .inl 8
    | 10 => .inl 10
    | 11 => .inl 10
    | 12 => .inl 10
    | 13 => .inl 10
    | 14 => .inr (.inl (1, [some 15, some 16, some 17]))
    | 15 => .inr (.inr 35)
    | 16 => .inr (.inr 50)
    | 17 => .inr (.inr 65)
    | 18 => .inr (.inl (0, [some 19, none, none]))
    | _ => .inl 36)
  else if c < 35 then .inl 64
  else if c < 80 then .inl 36
  else (match c with
    | 80 => .inr (.inl (6, [none, some 81, some 82, some 83, some 84, none, some 85, some 86, some 87]))
    | 81 => .inl 75
    | 82 => .inl 15
    | 83 => .inl 26624
    | 84 => .inl 26624
    | 85 => .inl 36
    | 86 => .inl 15
    | _ => .inl 15)
theorem ds_way {j : Nat} (h : j < 15) : ds (20 + j) = .inl 64 := by
  unfold ds; rw [if_neg (by omega), if_pos (by omega)]
theorem ds_fnd {c : Nat} (h : 35 ≤ c) (h2 : c < 80) : ds c = .inl 36 := by
  unfold ds; rw [if_neg (by omega), if_neg (by omega), if_pos h2]
def fv (G : Cx) (S : Sx) (c k : Nat) (f : Option Nat) : Value := match f with
  | some q => ra G q
  | none => .int (S c k)
def ce (G : Cx) (S : Sx) (c : Nat) : va_E := match ds c with
  | .inl n => .inl (gI G, n, .inl (S c))
  | .inr (.inl o) => .inr (o.1, o.2.mapIdx (fun k f => fv G S c k f))
  | .inr (.inr b) => .inl (gO G, 15, .inr (.inr (.inr (.inr (fun i => some (gad G (b + i)))))))
def cw (G : Cx) (S : Sx) : va_W := (List.range (gN G)).map (fun c => (gad G c, ce G S c))
def st (S : Sx) (c i : Nat) (x : Int32) : Sx := fun q => if q = c then upd (S c) i x else S q
theorem st_ne {S : Sx} {c i q : Nat} {x : Int32} (h : q ≠ c) : st S c i x q = S q := if_neg h
theorem st_eq {S : Sx} {c i : Nat} {x : Int32} : st S c i x c = upd (S c) i x := if_pos rfl
theorem cw_at {G : Cx} {S : Sx} {c : Nat} (h : c < gN G) : (cw G S)[c]? = some (gad G c, ce G S c) := by
  unfold cw; rw [List.getElem?_map, List.getElem?_range h]; rfl
theorem cw_set {G : Cx} {S S' : Sx} {c : Nat} (hc : c < gN G) (h : ∀ q, q ≠ c → S' q = S q) : (cw G S).set c (gad G c, ce G S' c) = cw G S' := by
  apply List.ext_getElem?
  intro k
  by_cases hk : k = c
  · subst hk
    rw [List.getElem?_set_self (by unfold cw; simpa using hc), cw_at hc]
  · rw [List.getElem?_set_ne (Ne.symm hk)]
    by_cases hn : k < gN G
    · rw [cw_at hn, cw_at hn]
      have e : ce G S k = ce G S' k := by
        unfold ce
        rw [h k hk]
        cases ds k with
        | inl n => rfl
        | inr r =>
          cases r with
          | inl o => 
            show Sum.inr (o.1, _) = Sum.inr (o.1, _)
            congr 3
            funext i f
            cases f with
            | none => show Value.int _ = Value.int _; rw [h k hk]
            | some q => rfl
          | inr b => rfl
      rw [e]
    · rw [List.getElem?_eq_none (by unfold cw; simpa using hn), List.getElem?_eq_none (by unfold cw; simpa using hn)]
theorem ce_arr {G : Cx} {S : Sx} {c n : Nat} (h : ds c = .inl n) : ce G S c = .inl (gI G, n, .inl (S c)) := by unfold ce; rw [h]
theorem ce_obj {G : Cx} {S : Sx} {c : Nat} {o : Nat × List (Option Nat)} (h : ds c = .inr (.inl o)) : ce G S c = .inr (o.1, o.2.mapIdx (fun k f => fv G S c k f)) := by unfold ce; rw [h]
theorem ce_row {G : Cx} {S : Sx} {c b : Nat} (h : ds c = .inr (.inr b)) : ce G S c = .inl (gO G, 15, .inr (.inr (.inr (.inr (fun i => some (gad G (b + i))))))) := by unfold ce; rw [h]
theorem cw_st_arr {G : Cx} {S : Sx} {c n i : Nat} {x : Int32} (hc : c < gN G) (h : ds c = .inl n) : (cw G S).set c (gad G c, .inl (gI G, n, .inl (upd (S c) i x))) = cw G (st S c i x) := by
  rw [← cw_set hc (S' := st S c i x) (fun q hq => st_ne hq), ce_arr h, st_eq]
theorem cw_st_fld {G : Cx} {S : Sx} {c k : Nat} {o : Nat × List (Option Nat)} {x : Int32} (hc : c < gN G) (h : ds c = .inr (.inl o)) (hk : o.2[k]? = some none) : (cw G S).set c (gad G c, .inr (o.1, (o.2.mapIdx (fun k f => fv G S c k f)).set k (.int x))) = cw G (st S c k x) := by
  rw [← cw_set hc (S' := st S c k x) (fun q hq => st_ne hq), ce_obj h]
  congr 4
  apply List.ext_getElem?
  intro j
  have hkl : k < o.2.length := (List.getElem?_eq_some_iff.mp hk).1
  by_cases hj : j = k
  · subst hj
    rw [List.getElem?_set_self (by simpa using hkl), List.getElem?_mapIdx, hk]
    simp [fv, st_eq, upd]
  · rw [List.getElem?_set_ne (Ne.symm hj), List.getElem?_mapIdx, List.getElem?_mapIdx]
    cases o.2[j]? with
    | none => rfl
    | some f =>
      cases f with
      | some q => rfl
      | none => simp [fv, st_eq, upd, hj]
/-- the locals, by their places -/
def lh (ls : Array Slot) (nL : Nat) (L : List (Option Value)) : Prop := ls.size = nL ∧ lv_wf ls ∧ ∀ (i : Nat) (v : Value), L[i]? = some (some v) → ls[i]? = some (.val v) ∧ v.category = 1
def al (L : List (Option Value)) : List (Nat × Value) := (List.range L.length).filterMap (fun i => (L[i]?).bind (fun o => o.map (fun v => (i, v))))
theorem al_mem {L : List (Option Value)} {i : Nat} {v : Value} : (i, v) ∈ al L ↔ L[i]? = some (some v) := by
  unfold al
  rw [List.mem_filterMap]
  constructor
  · rintro ⟨j, -, hj⟩
    cases hL : L[j]? with
    | none => rw [hL] at hj; cases hj
    | some o =>
      rw [hL] at hj
      cases o with
      | none => cases hj
      | some w => cases hj; exact hL
  · intro h
    refine ⟨i, List.mem_range.mpr (List.getElem?_eq_some_iff.mp h).1, ?_⟩
    rw [h]; rfl
theorem lh_has {ls : Array Slot} {nL : Nat} {L : List (Option Value)} (h : lh ls nL L) : lv_has ls nL (al L) := ⟨h.1, h.2.1, fun q hq => (h.2.2 q.1 q.2 (al_mem.mp hq)).1⟩
theorem lh_set {ls ls' : Array Slot} {nL i : Nat} {L : List (Option Value)} {v : Value} (h : lh ls nL L) (hv : v.category = 1) (h' : lv_has ls' nL ((i, v) :: (al L).filter (fun q => !(q.1 == i) && !(q.1 + 1 == i && q.2.category == 2)))) : lh ls' nL (L.set i (some v)) := by
  refine ⟨h'.1, h'.2.1, fun j w hj => ?_⟩
  by_cases e : j = i
  · subst e
    have hl : j < L.length := by
      have := (List.getElem?_eq_some_iff.mp hj).1
      simpa using this
    rw [List.getElem?_set_self hl] at hj
    cases hj
    exact ⟨h'.2.2 (j, v) List.mem_cons_self, hv⟩
  · rw [List.getElem?_set_ne (Ne.symm e)] at hj
    have hc := (h.2.2 j w hj).2
    refine ⟨h'.2.2 (j, w) (List.mem_cons_of_mem _ (List.mem_filter.mpr ⟨al_mem.mpr hj, ?_⟩)), hc⟩
    simp [e, hc]
abbrev Fx : Type := Program × Env × Room × State × MethodId × Array Value × List Frame × Method × Code × Nat × Nat × Nat × (State → Prop)
def tyz (G : Cx) : List (ClassId × FieldType) := [(gI G, .int), (gO G, .array .int)]
def V (F : Fx) (G : Cx) (S : Sx) (pc : Nat) (L : List (Option Value)) (sk : List Value) : Prop := match F with
  | (p, e, R, s, m, args, below, meth, c, nL, kc, ks, Q) => ∀ (H : Heap) (locs : List Loc) (ls : Array Slot), va_P (gD G) vwCl (cw G S) H → va_D (gA G) (cw G S) → va_S (gA G) s.heap H locs → lh ls nL L → W p (gl G) e R s m args below meth c H locs kc ks Q (F0 m pc ls sk)
def CX (F : Fx) (G : Cx) (cc : ByteArray) (own : String) : Prop := match F with
  | (p, e, R, s, m, args, below, meth, c, nL, kc, ks, Q) => p.tables.exec = Jvm.exec ∧ c.code = cc ∧ c.maxLocals = nL ∧ s.vm.findClass own = some m.cls ∧ (∀ w ∈ gw, w.before args s = true) ∧ va_K (gD G) vwCl (tyz G) s ∧ (∀ w ∈ nw, va_Nw w s) ∧ meth.locks = false ∧ kc ≤ R.cells ∧ ks ≤ R.slots
def fR (F : Fx) : Room := F.2.2.1
def fnL (F : Fx) : Nat := F.2.2.2.2.2.2.2.2.2.1
def rmD (d : Nat) : Room := { frames := d, cells := 0, slots := 0, locals := 40 * d }
def Wd (G : Cx) (S : Sx) (U : State) : Prop := va_P (gD G) vwCl (cw G S) U.heap ∧ va_K (gD G) vwCl (tyz G) U ∧ va_D (gA G) (cw G S) ∧ ∀ w ∈ nw, va_Nw w U
theorem Wd_blind {G : Cx} {S : Sx} {as : List Value} : FrameBlind (va_Pc as (Wd G S)) := fun a U g mk q => by
  obtain ⟨q0, qP, qK, qD, qN⟩ := q
  exact ⟨q0, qP, va_K.moved (u := U) (U := U.calling g mk a) (Vm.Alike.refl U.vm) qK, qD, nw_same (s := U) (U := U.calling g mk a) rfl qN⟩
/-- a method's contract: from the state S it answers r and leaves S' -/
def CT (G : Cx) (d : Nat) (y : MethodName) (cc : ByteArray) (nL : Nat) (ret : Option FieldType) (as : List Value) (S : Sx) (r : Int32) (S' : Sx) : Prop :=
  Met (gl G) y (mw y cc nL ret) (rmD d) (va_Pc as (Wd G S)) (va_Qi (fun r0 S0 => r0 = r ∧ S0 = S') (fun S0 t => Wd G S0 t) (gA G)) 0 0 (gA G)
def CV (G : Cx) (d : Nat) (y : MethodName) (cc : ByteArray) (nL : Nat) (as : List Value) (S : Sx) (S' : Sx) : Prop :=
  Met (gl G) y (mw y cc nL none) (rmD d) (va_Pc as (Wd G S)) (va_Qv (fun S0 => S0 = S') (fun S0 t => Wd G S0 t) (gA G)) 0 0 (gA G)

theorem lh_entry {as : List Value} {n : Nat} (h1 : as.length ≤ n) (h2 : ∀ v ∈ as, v.category = 1) : lh ((lg_sl as ++ List.replicate (n - (lg_sl as).length) Slot.unset).toArray) n (as.map some ++ List.replicate (n - as.length) none) := by
  have hsl : ∀ (l : List Value), (∀ v ∈ l, v.category = 1) → (lg_sl l).length = l.length := by
    intro l
    induction l with
    | nil => intro _; rfl
    | cons v l ih =>
      intro h
      have hv := h v List.mem_cons_self
      have := ih (fun w hw => h w (List.mem_cons_of_mem _ hw))
      cases v <;> first | (simp [Value.category] at hv; done) | (simpa [lg_sl, Value.category] using this)
  have hla : ∀ (l : List Value) (k : Nat), (∀ v ∈ l, v.category = 1) → ∀ (i : Nat) (v : Value), l[i]? = some v → (k + i, v) ∈ lv_args k l := by
    intro l
    induction l with
    | nil => intro k _ i v h; simp at h
    | cons w l ih =>
      intro k h i v hi
      have hw := h w List.mem_cons_self
      cases i with
      | zero => 
        rw [List.getElem?_cons_zero] at hi
        cases hi
        cases w <;> first | (simp [Value.category] at hw; done) | simp [lv_args]
      | succ i =>
        rw [List.getElem?_cons_succ] at hi
        have := ih (k + 1) (fun w hw => h w (List.mem_cons_of_mem _ hw)) i v hi
        rw [show k + (i + 1) = k + 1 + i by omega]
        cases w <;> first | (simp [Value.category] at hw; done) | (simp only [lv_args, Value.category]; exact List.mem_cons_of_mem _ this) | (simp [lv_args, Value.category]; right; exact this)
  have hl := lv_entry as (n := n) (by rw [hsl as h2]; exact h1)
  refine ⟨hl.1, hl.2.1, fun i v hi => ?_⟩
  by_cases hlt : i < as.length
  · rw [List.getElem?_append_left (by simpa using hlt), List.getElem?_map] at hi
    cases ha : as[i]? with
    | none => rw [ha] at hi; cases hi
    | some w =>
      rw [ha] at hi
      cases hi
      have := hla as 0 h2 i v ha
      rw [Nat.zero_add] at this
      exact ⟨hl.2.2 (i, v) this, h2 v (List.mem_of_getElem? ha)⟩
  · rw [List.getElem?_append_right (by simpa using Nat.le_of_not_lt hlt)] at hi
    rw [List.getElem?_replicate] at hi
    split at hi <;> cases hi
def QI (below : List Frame) (G : Cx) (args : Array Value) (s : State) (r : Int32) (S' : Sx) : State → Prop := MQ below (va_Qi (fun r0 S0 => r0 = r ∧ S0 = S') (fun S0 t => Wd G S0 t) (gA G)) args s 0 0 (gA G)
def QV (below : List Frame) (G : Cx) (args : Array Value) (s : State) (S' : Sx) : State → Prop := MQ below (va_Qv (fun S0 => S0 = S') (fun S0 t => Wd G S0 t) (gA G)) args s 0 0 (gA G)
/-- the frame of a method that answers an int or a boolean: what its end must be -/
def RI (F : Fx) (G : Cx) (d : Nat) (ret : Option FieldType) (nL : Nat) (r : Int32) (S' : Sx) : Prop := match F with
  | (p, e, R, s, m, args, below, meth, c, nL', kc, ks, Q) => meth.sig.returnType = ret ∧ R = rmD d ∧ nL' = nL ∧ kc = 0 ∧ ks = 0 ∧ Q = QI below G args s r S'
def RV (F : Fx) (G : Cx) (d : Nat) (nL : Nat) (S' : Sx) : Prop := match F with
  | (p, e, R, s, m, args, below, meth, c, nL', kc, ks, Q) => meth.sig.returnType = none ∧ R = rmD d ∧ nL' = nL ∧ kc = 0 ∧ ks = 0 ∧ Q = QV below G args s S'
theorem CT_of {G : Cx} {d nL : Nat} {y : MethodName} {cc : ByteArray} {ret : Option FieldType} {as : List Value} {S S' : Sx} {r : Int32} (hy : plainName y.cls = true) (hn : as.length ≤ nL) (hc : ∀ v ∈ as, v.category = 1)
    (h : ∀ F : Fx, CX F G cc y.cls → RI F G d ret nL r S' → V F G S 0 (as.map some ++ List.replicate (nL - as.length) none) []) : CT G d y cc nL ret as S r S' := by
  refine Met.ofW (cc := cc) (maxL := nL) (ret := ret) hy rfl ?_
  intro p e s m args below meth c s₁ B hml hv
  obtain ⟨rfl, hP, hK, hD, hN⟩ := hv
  have hts := atoms_spec (ws := mw y cc nL ret) B.pre
  have hown : s.vm.findClass y.cls = some m.cls := findClass_of_methodNamed B.named
  have X : CX (p, e, rmD d, s, m, as.toArray, below, meth, c, nL, 0, 0, QI below G as.toArray s r S') G cc y.cls :=
    ⟨B.exec, B.bytes, hml, hown, fun w hw => hts w (List.mem_cons_of_mem _ hw), hK, hN, B.notSynchronized, Nat.zero_le _, Nat.zero_le _⟩
  have k := h _ X ⟨B.returns, rfl, rfl, rfl, rfl, rfl⟩
  rw [lg_entry_eq]
  exact k s.heap [] _ hP hD va_S.rf (lh_entry hn hc)
theorem CV_of {G : Cx} {d nL : Nat} {y : MethodName} {cc : ByteArray} {as : List Value} {S S' : Sx} (hy : plainName y.cls = true) (hn : as.length ≤ nL) (hc : ∀ v ∈ as, v.category = 1)
    (h : ∀ F : Fx, CX F G cc y.cls → RV F G d nL S' → V F G S 0 (as.map some ++ List.replicate (nL - as.length) none) []) : CV G d y cc nL as S S' := by
  refine Met.ofW (cc := cc) (maxL := nL) (ret := none) hy rfl ?_
  intro p e s m args below meth c s₁ B hml hv
  obtain ⟨rfl, hP, hK, hD, hN⟩ := hv
  have hts := atoms_spec (ws := mw y cc nL none) B.pre
  have hown : s.vm.findClass y.cls = some m.cls := findClass_of_methodNamed B.named
  have X : CX (p, e, rmD d, s, m, as.toArray, below, meth, c, nL, 0, 0, QV below G as.toArray s S') G cc y.cls :=
    ⟨B.exec, B.bytes, hml, hown, fun w hw => hts w (List.mem_cons_of_mem _ hw), hK, hN, B.notSynchronized, Nat.zero_le _, Nat.zero_le _⟩
  have k := h _ X ⟨B.returns, rfl, rfl, rfl, rfl, rfl⟩
  rw [lg_entry_eq]
  exact k s.heap [] _ hP hD va_S.rf (lh_entry hn hc)

theorem V_iconst {F : Fx} {G : Cx} {cc : ByteArray} {own : String} {S : Sx} {pc : Nat} {L : List (Option Value)} {sk : List Value} (X : CX F G cc own) {n : Int} (v : Int32) (hd : decode cc pc = .ok (.iconst n, 1)) (hv : Int32.ofInt n = v) (k : V F G S (pc + 1) L (.int v :: sk)) : V F G S pc L (sk) := by
  obtain ⟨p, e, R, s, m, args, below, meth, c, nL, kc, ks, Q⟩ := F
  obtain ⟨hx, hb, hml, hown, hts, hK, hN, hlk, hkc, hks⟩ := X
  intro H locs ls hP hD hS hl
  exact lv_iconst hx hb hd hv (k H locs ls hP hD hS hl)
theorem V_bipush {F : Fx} {G : Cx} {cc : ByteArray} {own : String} {S : Sx} {pc : Nat} {L : List (Option Value)} {sk : List Value} (X : CX F G cc own) {n : Int} (v : Int32) (hd : decode cc pc = .ok (.bipush n, 2)) (hv : (Int8.ofInt n).toInt32 = v) (k : V F G S (pc + 2) L (.int v :: sk)) : V F G S pc L (sk) := by
  obtain ⟨p, e, R, s, m, args, below, meth, c, nL, kc, ks, Q⟩ := F
  obtain ⟨hx, hb, hml, hown, hts, hK, hN, hlk, hkc, hks⟩ := X
  intro H locs ls hP hD hS hl
  exact lv_bipush hx hb hd hv (k H locs ls hP hD hS hl)
theorem V_sipush {F : Fx} {G : Cx} {cc : ByteArray} {own : String} {S : Sx} {pc : Nat} {L : List (Option Value)} {sk : List Value} (X : CX F G cc own) {n : Int} (v : Int32) (hd : decode cc pc = .ok (.sipush n, 3)) (hv : (Int16.ofInt n).toInt32 = v) (k : V F G S (pc + 3) L (.int v :: sk)) : V F G S pc L (sk) := by
  obtain ⟨p, e, R, s, m, args, below, meth, c, nL, kc, ks, Q⟩ := F
  obtain ⟨hx, hb, hml, hown, hts, hK, hN, hlk, hkc, hks⟩ := X
  intro H locs ls hP hD hS hl
  exact lv_sipush hx hb hd hv (k H locs ls hP hD hS hl)
theorem V_iload_n {F : Fx} {G : Cx} {cc : ByteArray} {own : String} {S : Sx} {pc : Nat} {L : List (Option Value)} {sk : List Value} (X : CX F G cc own) {n : Fin 4} {x : Int32} (hd : decode cc pc = .ok (.iload_n n, 1)) (hq : L[(n : Nat)]? = some (some (.int x))) (k : V F G S (pc + 1) L (.int x :: sk)) : V F G S pc L (sk) := by
  obtain ⟨p, e, R, s, m, args, below, meth, c, nL, kc, ks, Q⟩ := F
  obtain ⟨hx, hb, hml, hown, hts, hK, hN, hlk, hkc, hks⟩ := X
  intro H locs ls hP hD hS hl
  exact lv_iload_n hx hb hd rfl (hl.2.2 _ _ hq).1 (k H locs ls hP hD hS hl)
theorem V_iload {F : Fx} {G : Cx} {cc : ByteArray} {own : String} {S : Sx} {pc : Nat} {L : List (Option Value)} {sk : List Value} (X : CX F G cc own) {n : Nat} {x : Int32} (hd : decode cc pc = .ok (.iload n, 2)) (hq : L[n]? = some (some (.int x))) (k : V F G S (pc + 2) L (.int x :: sk)) : V F G S pc L (sk) := by
  obtain ⟨p, e, R, s, m, args, below, meth, c, nL, kc, ks, Q⟩ := F
  obtain ⟨hx, hb, hml, hown, hts, hK, hN, hlk, hkc, hks⟩ := X
  intro H locs ls hP hD hS hl
  exact lv_iload hx hb hd (hl.2.2 _ _ hq).1 (k H locs ls hP hD hS hl)
theorem V_aload_n {F : Fx} {G : Cx} {cc : ByteArray} {own : String} {S : Sx} {pc : Nat} {L : List (Option Value)} {sk : List Value} (X : CX F G cc own) {n : Fin 4} {x : Nat} (hd : decode cc pc = .ok (.aload_n n, 1)) (hq : L[(n : Nat)]? = some (some (ra G x))) (k : V F G S (pc + 1) L (ra G x :: sk)) : V F G S pc L (sk) := by
  obtain ⟨p, e, R, s, m, args, below, meth, c, nL, kc, ks, Q⟩ := F
  obtain ⟨hx, hb, hml, hown, hts, hK, hN, hlk, hkc, hks⟩ := X
  intro H locs ls hP hD hS hl
  exact lv_aload_n hx hb hd rfl (hl.2.2 _ _ hq).1 (k H locs ls hP hD hS hl)
theorem V_aload {F : Fx} {G : Cx} {cc : ByteArray} {own : String} {S : Sx} {pc : Nat} {L : List (Option Value)} {sk : List Value} (X : CX F G cc own) {n : Nat} {x : Nat} (hd : decode cc pc = .ok (.aload n, 2)) (hq : L[n]? = some (some (ra G x))) (k : V F G S (pc + 2) L (ra G x :: sk)) : V F G S pc L (sk) := by
  obtain ⟨p, e, R, s, m, args, below, meth, c, nL, kc, ks, Q⟩ := F
  obtain ⟨hx, hb, hml, hown, hts, hK, hN, hlk, hkc, hks⟩ := X
  intro H locs ls hP hD hS hl
  exact lv_aload hx hb hd (hl.2.2 _ _ hq).1 (k H locs ls hP hD hS hl)
theorem V_istore_n {F : Fx} {G : Cx} {cc : ByteArray} {own : String} {S : Sx} {pc : Nat} {L : List (Option Value)} {sk : List Value} (X : CX F G cc own) {n : Fin 4} {x : Int32} (hd : decode cc pc = .ok (.istore_n n, 1)) (hn : (n : Nat) < fnL F) (k : V F G S (pc + 1) (L.set (n : Nat) (some (.int x))) sk) : V F G S pc L (.int x :: sk) := by
  obtain ⟨p, e, R, s, m, args, below, meth, c, nL, kc, ks, Q⟩ := F
  obtain ⟨hx, hb, hml, hown, hts, hK, hN, hlk, hkc, hks⟩ := X
  intro H locs ls hP hD hS hl
  exact lv_istore_n hx hb hd rfl (lh_has hl) hn rfl (fun ls2 h2 => k H locs ls2 hP hD hS (lh_set hl rfl h2))
theorem V_istore {F : Fx} {G : Cx} {cc : ByteArray} {own : String} {S : Sx} {pc : Nat} {L : List (Option Value)} {sk : List Value} (X : CX F G cc own) {n : Nat} {x : Int32} (hd : decode cc pc = .ok (.istore n, 2)) (hn : n < fnL F) (k : V F G S (pc + 2) (L.set n (some (.int x))) sk) : V F G S pc L (.int x :: sk) := by
  obtain ⟨p, e, R, s, m, args, below, meth, c, nL, kc, ks, Q⟩ := F
  obtain ⟨hx, hb, hml, hown, hts, hK, hN, hlk, hkc, hks⟩ := X
  intro H locs ls hP hD hS hl
  exact lv_istore hx hb hd (lh_has hl) hn rfl (fun ls2 h2 => k H locs ls2 hP hD hS (lh_set hl rfl h2))
theorem V_iinc {F : Fx} {G : Cx} {cc : ByteArray} {own : String} {S : Sx} {pc : Nat} {L : List (Option Value)} {sk : List Value} (X : CX F G cc own) {n : Nat} {i : Int} {x : Int32} (v : Int32) (hd : decode cc pc = .ok (.iinc n i, 3)) (hn : n < fnL F) (hq : L[n]? = some (some (.int x))) (hv : x + Int32.ofInt i = v) (k : V F G S (pc + 3) (L.set n (some (.int v))) sk) : V F G S pc L (sk) := by
  obtain ⟨p, e, R, s, m, args, below, meth, c, nL, kc, ks, Q⟩ := F
  obtain ⟨hx, hb, hml, hown, hts, hK, hN, hlk, hkc, hks⟩ := X
  intro H locs ls hP hD hS hl
  obtain ⟨j, hj⟩ := List.getElem?_of_mem (al_mem.mpr hq)
  exact lv_iinc hx hb hd (lh_has hl) hj hv hn rfl (fun ls2 h2 => k H locs ls2 hP hD hS (lh_set hl rfl h2))
theorem V_iadd {F : Fx} {G : Cx} {cc : ByteArray} {own : String} {S : Sx} {pc : Nat} {L : List (Option Value)} {sk : List Value} (X : CX F G cc own) {x y : Int32} (hd : decode cc pc = .ok (.iadd, 1)) (k : V F G S (pc + 1) L (.int (x + y) :: sk)) : V F G S pc L (.int y :: .int x :: sk) := by
  obtain ⟨p, e, R, s, m, args, below, meth, c, nL, kc, ks, Q⟩ := F
  obtain ⟨hx, hb, hml, hown, hts, hK, hN, hlk, hkc, hks⟩ := X
  intro H locs ls hP hD hS hl
  exact lv_iadd hx hb hd (k H locs ls hP hD hS hl)
theorem V_isub {F : Fx} {G : Cx} {cc : ByteArray} {own : String} {S : Sx} {pc : Nat} {L : List (Option Value)} {sk : List Value} (X : CX F G cc own) {x y : Int32} (hd : decode cc pc = .ok (.isub, 1)) (k : V F G S (pc + 1) L (.int (x - y) :: sk)) : V F G S pc L (.int y :: .int x :: sk) := by
  obtain ⟨p, e, R, s, m, args, below, meth, c, nL, kc, ks, Q⟩ := F
  obtain ⟨hx, hb, hml, hown, hts, hK, hN, hlk, hkc, hks⟩ := X
  intro H locs ls hP hD hS hl
  exact lv_isub hx hb hd (k H locs ls hP hD hS hl)
theorem V_imul {F : Fx} {G : Cx} {cc : ByteArray} {own : String} {S : Sx} {pc : Nat} {L : List (Option Value)} {sk : List Value} (X : CX F G cc own) {x y : Int32} (hd : decode cc pc = .ok (.imul, 1)) (k : V F G S (pc + 1) L (.int (x * y) :: sk)) : V F G S pc L (.int y :: .int x :: sk) := by
  obtain ⟨p, e, R, s, m, args, below, meth, c, nL, kc, ks, Q⟩ := F
  obtain ⟨hx, hb, hml, hown, hts, hK, hN, hlk, hkc, hks⟩ := X
  intro H locs ls hP hD hS hl
  exact lv_imul hx hb hd (k H locs ls hP hD hS hl)
theorem V_iand {F : Fx} {G : Cx} {cc : ByteArray} {own : String} {S : Sx} {pc : Nat} {L : List (Option Value)} {sk : List Value} (X : CX F G cc own) {x y : Int32} (hd : decode cc pc = .ok (.iand, 1)) (k : V F G S (pc + 1) L (.int (x &&& y) :: sk)) : V F G S pc L (.int y :: .int x :: sk) := by
  obtain ⟨p, e, R, s, m, args, below, meth, c, nL, kc, ks, Q⟩ := F
  obtain ⟨hx, hb, hml, hown, hts, hK, hN, hlk, hkc, hks⟩ := X
  intro H locs ls hP hD hS hl
  exact lv_iand hx hb hd (k H locs ls hP hD hS hl)
theorem V_ior {F : Fx} {G : Cx} {cc : ByteArray} {own : String} {S : Sx} {pc : Nat} {L : List (Option Value)} {sk : List Value} (X : CX F G cc own) {x y : Int32} (hd : decode cc pc = .ok (.ior, 1)) (k : V F G S (pc + 1) L (.int (x ||| y) :: sk)) : V F G S pc L (.int y :: .int x :: sk) := by
  obtain ⟨p, e, R, s, m, args, below, meth, c, nL, kc, ks, Q⟩ := F
  obtain ⟨hx, hb, hml, hown, hts, hK, hN, hlk, hkc, hks⟩ := X
  intro H locs ls hP hD hS hl
  exact lv_ior hx hb hd (k H locs ls hP hD hS hl)
theorem V_ixor {F : Fx} {G : Cx} {cc : ByteArray} {own : String} {S : Sx} {pc : Nat} {L : List (Option Value)} {sk : List Value} (X : CX F G cc own) {x y : Int32} (hd : decode cc pc = .ok (.ixor, 1)) (k : V F G S (pc + 1) L (.int (x ^^^ y) :: sk)) : V F G S pc L (.int y :: .int x :: sk) := by
  obtain ⟨p, e, R, s, m, args, below, meth, c, nL, kc, ks, Q⟩ := F
  obtain ⟨hx, hb, hml, hown, hts, hK, hN, hlk, hkc, hks⟩ := X
  intro H locs ls hP hD hS hl
  exact lv_ixor hx hb hd (k H locs ls hP hD hS hl)
theorem V_ishl {F : Fx} {G : Cx} {cc : ByteArray} {own : String} {S : Sx} {pc : Nat} {L : List (Option Value)} {sk : List Value} (X : CX F G cc own) {x y : Int32} (hd : decode cc pc = .ok (.ishl, 1)) (k : V F G S (pc + 1) L (.int (x <<< (y &&& 31)) :: sk)) : V F G S pc L (.int y :: .int x :: sk) := by
  obtain ⟨p, e, R, s, m, args, below, meth, c, nL, kc, ks, Q⟩ := F
  obtain ⟨hx, hb, hml, hown, hts, hK, hN, hlk, hkc, hks⟩ := X
  intro H locs ls hP hD hS hl
  exact lv_ishl hx hb hd (k H locs ls hP hD hS hl)
theorem V_ishr {F : Fx} {G : Cx} {cc : ByteArray} {own : String} {S : Sx} {pc : Nat} {L : List (Option Value)} {sk : List Value} (X : CX F G cc own) {x y : Int32} (hd : decode cc pc = .ok (.ishr, 1)) (k : V F G S (pc + 1) L (.int (x >>> (y &&& 31)) :: sk)) : V F G S pc L (.int y :: .int x :: sk) := by
  obtain ⟨p, e, R, s, m, args, below, meth, c, nL, kc, ks, Q⟩ := F
  obtain ⟨hx, hb, hml, hown, hts, hK, hN, hlk, hkc, hks⟩ := X
  intro H locs ls hP hD hS hl
  exact lv_ishr hx hb hd (k H locs ls hP hD hS hl)
theorem V_iushr {F : Fx} {G : Cx} {cc : ByteArray} {own : String} {S : Sx} {pc : Nat} {L : List (Option Value)} {sk : List Value} (X : CX F G cc own) {x y : Int32} (hd : decode cc pc = .ok (.iushr, 1)) (k : V F G S (pc + 1) L (.int ((x.toUInt32 >>> (y.toUInt32 &&& Int32.toUInt32 31)).toInt32) :: sk)) : V F G S pc L (.int y :: .int x :: sk) := by
  obtain ⟨p, e, R, s, m, args, below, meth, c, nL, kc, ks, Q⟩ := F
  obtain ⟨hx, hb, hml, hown, hts, hK, hN, hlk, hkc, hks⟩ := X
  intro H locs ls hP hD hS hl
  exact lv_iushr hx hb hd rfl (k H locs ls hP hD hS hl)
theorem V_irem {F : Fx} {G : Cx} {cc : ByteArray} {own : String} {S : Sx} {pc : Nat} {L : List (Option Value)} {sk : List Value} (X : CX F G cc own) {x y : Int32} (hd : decode cc pc = .ok (.irem, 1)) (hy : ¬ y = 0) (k : V F G S (pc + 1) L (.int (x - x / y * y) :: sk)) : V F G S pc L (.int y :: .int x :: sk) := by
  obtain ⟨p, e, R, s, m, args, below, meth, c, nL, kc, ks, Q⟩ := F
  obtain ⟨hx, hb, hml, hown, hts, hK, hN, hlk, hkc, hks⟩ := X
  intro H locs ls hP hD hS hl
  exact lv_irem hx hb hd hy (k H locs ls hP hD hS hl)
theorem V_ineg {F : Fx} {G : Cx} {cc : ByteArray} {own : String} {S : Sx} {pc : Nat} {L : List (Option Value)} {sk : List Value} (X : CX F G cc own) {x : Int32} (hd : decode cc pc = .ok (.ineg, 1)) (k : V F G S (pc + 1) L (.int (-x) :: sk)) : V F G S pc L (.int x :: sk) := by
  obtain ⟨p, e, R, s, m, args, below, meth, c, nL, kc, ks, Q⟩ := F
  obtain ⟨hx, hb, hml, hown, hts, hK, hN, hlk, hkc, hks⟩ := X
  intro H locs ls hP hD hS hl
  exact lv_ineg hx hb hd (k H locs ls hP hD hS hl)
theorem V_addN {F : Fx} {G : Cx} {cc : ByteArray} {own : String} {S : Sx} {pc : Nat} {L : List (Option Value)} {sk : List Value} (X : CX F G cc own) {a b : Nat} (hd : decode cc pc = .ok (.iadd, 1)) (k : V F G S (pc + 1) L (.int (nI (a + b)) :: sk)) : V F G S pc L (.int (nI b) :: .int (nI a) :: sk) := by
  obtain ⟨p, e, R, s, m, args, below, meth, c, nL, kc, ks, Q⟩ := F
  obtain ⟨hx, hb, hml, hown, hts, hK, hN, hlk, hkc, hks⟩ := X
  intro H locs ls hP hD hS hl
  exact lv_iadd hx hb hd (by rw [nI_add]; exact k H locs ls hP hD hS hl)
theorem V_mulN {F : Fx} {G : Cx} {cc : ByteArray} {own : String} {S : Sx} {pc : Nat} {L : List (Option Value)} {sk : List Value} (X : CX F G cc own) {a b : Nat} (hd : decode cc pc = .ok (.imul, 1)) (k : V F G S (pc + 1) L (.int (nI (a * b)) :: sk)) : V F G S pc L (.int (nI b) :: .int (nI a) :: sk) := by
  obtain ⟨p, e, R, s, m, args, below, meth, c, nL, kc, ks, Q⟩ := F
  obtain ⟨hx, hb, hml, hown, hts, hK, hN, hlk, hkc, hks⟩ := X
  intro H locs ls hP hD hS hl
  exact lv_imul hx hb hd (by rw [pk_mul]; exact k H locs ls hP hD hS hl)
theorem V_subN {F : Fx} {G : Cx} {cc : ByteArray} {own : String} {S : Sx} {pc : Nat} {L : List (Option Value)} {sk : List Value} (X : CX F G cc own) {a b : Nat} (hd : decode cc pc = .ok (.isub, 1)) (hab : b ≤ a) (k : V F G S (pc + 1) L (.int (nI (a - b)) :: sk)) : V F G S pc L (.int (nI b) :: .int (nI a) :: sk) := by
  obtain ⟨p, e, R, s, m, args, below, meth, c, nL, kc, ks, Q⟩ := F
  obtain ⟨hx, hb, hml, hown, hts, hK, hN, hlk, hkc, hks⟩ := X
  intro H locs ls hP hD hS hl
  exact lv_isub hx hb hd (by rw [pk_sub hab]; exact k H locs ls hP hD hS hl)
theorem V_dupi {F : Fx} {G : Cx} {cc : ByteArray} {own : String} {S : Sx} {pc : Nat} {L : List (Option Value)} {sk : List Value} (X : CX F G cc own) {x : Int32} (hd : decode cc pc = .ok (.dup, 1)) (k : V F G S (pc + 1) L (.int x :: .int x :: sk)) : V F G S pc L (.int x :: sk) := by
  obtain ⟨p, e, R, s, m, args, below, meth, c, nL, kc, ks, Q⟩ := F
  obtain ⟨hx, hb, hml, hown, hts, hK, hN, hlk, hkc, hks⟩ := X
  intro H locs ls hP hD hS hl
  exact lv_dup hx hb hd rfl (k H locs ls hP hD hS hl)
theorem V_dupr {F : Fx} {G : Cx} {cc : ByteArray} {own : String} {S : Sx} {pc : Nat} {L : List (Option Value)} {sk : List Value} (X : CX F G cc own) {x : Nat} (hd : decode cc pc = .ok (.dup, 1)) (k : V F G S (pc + 1) L (ra G x :: ra G x :: sk)) : V F G S pc L (ra G x :: sk) := by
  obtain ⟨p, e, R, s, m, args, below, meth, c, nL, kc, ks, Q⟩ := F
  obtain ⟨hx, hb, hml, hown, hts, hK, hN, hlk, hkc, hks⟩ := X
  intro H locs ls hP hD hS hl
  exact lv_dup hx hb hd rfl (k H locs ls hP hD hS hl)
theorem V_dup2 {F : Fx} {G : Cx} {cc : ByteArray} {own : String} {S : Sx} {pc : Nat} {L : List (Option Value)} {sk : List Value} (X : CX F G cc own) {i : Int32} {x : Nat} (hd : decode cc pc = .ok (.dup2, 1)) (k : V F G S (pc + 1) L (.int i :: ra G x :: .int i :: ra G x :: sk)) : V F G S pc L (.int i :: ra G x :: sk) := by
  obtain ⟨p, e, R, s, m, args, below, meth, c, nL, kc, ks, Q⟩ := F
  obtain ⟨hx, hb, hml, hown, hts, hK, hN, hlk, hkc, hks⟩ := X
  intro H locs ls hP hD hS hl
  exact lv_dup2_11 hx hb hd rfl rfl (k H locs ls hP hD hS hl)
theorem V_top {F : Fx} {G : Cx} {S : Sx} {pc : Nat} {L : List (Option Value)} {sk : List Value} {x : Int32} (y : Int32) (hy : x = y) (k : V F G S pc L (.int y :: sk)) : V F G S pc L (.int x :: sk) := hy ▸ k
theorem V_sx {F : Fx} {G : Cx} {S : Sx} {pc : Nat} {L : List (Option Value)} {sk : List Value} (S2 : Sx) (hy : S = S2) (k : V F G S2 pc L sk) : V F G S pc L sk := hy ▸ k
theorem V_icmp_eq {F : Fx} {G : Cx} {cc : ByteArray} {own : String} {S : Sx} {pc : Nat} {L : List (Option Value)} {sk : List Value} (X : CX F G cc own) {x y : Int32} {off : Int} (tgt : Nat) (hd : decode cc pc = .ok (.if_icmp .eq off, 3)) (ht : (pc : Int) + off = (tgt : Int)) (kt : x = y → V F G S tgt L sk) (kf : ¬ (x = y) → V F G S (pc + 3) L sk) : V F G S pc L (.int y :: .int x :: sk) := by
  obtain ⟨p, e, R, s, m, args, below, meth, c, nL, kc, ks, Q⟩ := F
  obtain ⟨hx, hb, hml, hown, hts, hK, hN, hlk, hkc, hks⟩ := X
  intro H locs ls hP hD hS hl
  exact lv_icmp_eq hx hb hd ht (fun q => kt (by first | exact q | (simpa using q)) H locs ls hP hD hS hl) (fun q => kf (by first | exact q | (simpa using q)) H locs ls hP hD hS hl)
theorem V_if_eq {F : Fx} {G : Cx} {cc : ByteArray} {own : String} {S : Sx} {pc : Nat} {L : List (Option Value)} {sk : List Value} (X : CX F G cc own) {x : Int32} {off : Int} (tgt : Nat) (hd : decode cc pc = .ok (.ifCond .eq off, 3)) (ht : (pc : Int) + off = (tgt : Int)) (kt : x = 0 → V F G S tgt L sk) (kf : ¬ (x = 0) → V F G S (pc + 3) L sk) : V F G S pc L (.int x :: sk) := by
  obtain ⟨p, e, R, s, m, args, below, meth, c, nL, kc, ks, Q⟩ := F
  obtain ⟨hx, hb, hml, hown, hts, hK, hN, hlk, hkc, hks⟩ := X
  intro H locs ls hP hD hS hl
  exact lv_if_eq hx hb hd ht (fun q => kt (by first | exact q | (simpa using q)) H locs ls hP hD hS hl) (fun q => kf (by first | exact q | (simpa using q)) H locs ls hP hD hS hl)
theorem V_icmp_ne {F : Fx} {G : Cx} {cc : ByteArray} {own : String} {S : Sx} {pc : Nat} {L : List (Option Value)} {sk : List Value} (X : CX F G cc own) {x y : Int32} {off : Int} (tgt : Nat) (hd : decode cc pc = .ok (.if_icmp .ne off, 3)) (ht : (pc : Int) + off = (tgt : Int)) (kt : x ≠ y → V F G S tgt L sk) (kf : ¬ (x ≠ y) → V F G S (pc + 3) L sk) : V F G S pc L (.int y :: .int x :: sk) := by
  obtain ⟨p, e, R, s, m, args, below, meth, c, nL, kc, ks, Q⟩ := F
  obtain ⟨hx, hb, hml, hown, hts, hK, hN, hlk, hkc, hks⟩ := X
  intro H locs ls hP hD hS hl
  exact lv_icmp_ne hx hb hd ht (fun q => kt (by first | exact q | (simpa using q)) H locs ls hP hD hS hl) (fun q => kf (by first | exact q | (simpa using q)) H locs ls hP hD hS hl)
theorem V_if_ne {F : Fx} {G : Cx} {cc : ByteArray} {own : String} {S : Sx} {pc : Nat} {L : List (Option Value)} {sk : List Value} (X : CX F G cc own) {x : Int32} {off : Int} (tgt : Nat) (hd : decode cc pc = .ok (.ifCond .ne off, 3)) (ht : (pc : Int) + off = (tgt : Int)) (kt : x ≠ 0 → V F G S tgt L sk) (kf : ¬ (x ≠ 0) → V F G S (pc + 3) L sk) : V F G S pc L (.int x :: sk) := by
  obtain ⟨p, e, R, s, m, args, below, meth, c, nL, kc, ks, Q⟩ := F
  obtain ⟨hx, hb, hml, hown, hts, hK, hN, hlk, hkc, hks⟩ := X
  intro H locs ls hP hD hS hl
  exact lv_if_ne hx hb hd ht (fun q => kt (by first | exact q | (simpa using q)) H locs ls hP hD hS hl) (fun q => kf (by first | exact q | (simpa using q)) H locs ls hP hD hS hl)
theorem V_icmp_lt {F : Fx} {G : Cx} {cc : ByteArray} {own : String} {S : Sx} {pc : Nat} {L : List (Option Value)} {sk : List Value} (X : CX F G cc own) {x y : Int32} {off : Int} (tgt : Nat) (hd : decode cc pc = .ok (.if_icmp .lt off, 3)) (ht : (pc : Int) + off = (tgt : Int)) (kt : x < y → V F G S tgt L sk) (kf : ¬ (x < y) → V F G S (pc + 3) L sk) : V F G S pc L (.int y :: .int x :: sk) := by
  obtain ⟨p, e, R, s, m, args, below, meth, c, nL, kc, ks, Q⟩ := F
  obtain ⟨hx, hb, hml, hown, hts, hK, hN, hlk, hkc, hks⟩ := X
  intro H locs ls hP hD hS hl
  exact lv_icmp_lt hx hb hd ht (fun q => kt (by first | exact q | (simpa using q)) H locs ls hP hD hS hl) (fun q => kf (by first | exact q | (simpa using q)) H locs ls hP hD hS hl)
theorem V_if_lt {F : Fx} {G : Cx} {cc : ByteArray} {own : String} {S : Sx} {pc : Nat} {L : List (Option Value)} {sk : List Value} (X : CX F G cc own) {x : Int32} {off : Int} (tgt : Nat) (hd : decode cc pc = .ok (.ifCond .lt off, 3)) (ht : (pc : Int) + off = (tgt : Int)) (kt : x < 0 → V F G S tgt L sk) (kf : ¬ (x < 0) → V F G S (pc + 3) L sk) : V F G S pc L (.int x :: sk) := by
  obtain ⟨p, e, R, s, m, args, below, meth, c, nL, kc, ks, Q⟩ := F
  obtain ⟨hx, hb, hml, hown, hts, hK, hN, hlk, hkc, hks⟩ := X
  intro H locs ls hP hD hS hl
  exact lv_if_lt hx hb hd ht (fun q => kt (by first | exact q | (simpa using q)) H locs ls hP hD hS hl) (fun q => kf (by first | exact q | (simpa using q)) H locs ls hP hD hS hl)
theorem V_icmp_ge {F : Fx} {G : Cx} {cc : ByteArray} {own : String} {S : Sx} {pc : Nat} {L : List (Option Value)} {sk : List Value} (X : CX F G cc own) {x y : Int32} {off : Int} (tgt : Nat) (hd : decode cc pc = .ok (.if_icmp .ge off, 3)) (ht : (pc : Int) + off = (tgt : Int)) (kt : y ≤ x → V F G S tgt L sk) (kf : ¬ (y ≤ x) → V F G S (pc + 3) L sk) : V F G S pc L (.int y :: .int x :: sk) := by
  obtain ⟨p, e, R, s, m, args, below, meth, c, nL, kc, ks, Q⟩ := F
  obtain ⟨hx, hb, hml, hown, hts, hK, hN, hlk, hkc, hks⟩ := X
  intro H locs ls hP hD hS hl
  exact lv_icmp_ge hx hb hd ht (fun q => kt (by first | exact q | (simpa using q)) H locs ls hP hD hS hl) (fun q => kf (by first | exact q | (simpa using q)) H locs ls hP hD hS hl)
theorem V_if_ge {F : Fx} {G : Cx} {cc : ByteArray} {own : String} {S : Sx} {pc : Nat} {L : List (Option Value)} {sk : List Value} (X : CX F G cc own) {x : Int32} {off : Int} (tgt : Nat) (hd : decode cc pc = .ok (.ifCond .ge off, 3)) (ht : (pc : Int) + off = (tgt : Int)) (kt : 0 ≤ x → V F G S tgt L sk) (kf : ¬ (0 ≤ x) → V F G S (pc + 3) L sk) : V F G S pc L (.int x :: sk) := by
  obtain ⟨p, e, R, s, m, args, below, meth, c, nL, kc, ks, Q⟩ := F
  obtain ⟨hx, hb, hml, hown, hts, hK, hN, hlk, hkc, hks⟩ := X
  intro H locs ls hP hD hS hl
  exact lv_if_ge hx hb hd ht (fun q => kt (by first | exact q | (simpa using q)) H locs ls hP hD hS hl) (fun q => kf (by first | exact q | (simpa using q)) H locs ls hP hD hS hl)
theorem V_icmp_gt {F : Fx} {G : Cx} {cc : ByteArray} {own : String} {S : Sx} {pc : Nat} {L : List (Option Value)} {sk : List Value} (X : CX F G cc own) {x y : Int32} {off : Int} (tgt : Nat) (hd : decode cc pc = .ok (.if_icmp .gt off, 3)) (ht : (pc : Int) + off = (tgt : Int)) (kt : y < x → V F G S tgt L sk) (kf : ¬ (y < x) → V F G S (pc + 3) L sk) : V F G S pc L (.int y :: .int x :: sk) := by
  obtain ⟨p, e, R, s, m, args, below, meth, c, nL, kc, ks, Q⟩ := F
  obtain ⟨hx, hb, hml, hown, hts, hK, hN, hlk, hkc, hks⟩ := X
  intro H locs ls hP hD hS hl
  exact lv_icmp_gt hx hb hd ht (fun q => kt (by first | exact q | (simpa using q)) H locs ls hP hD hS hl) (fun q => kf (by first | exact q | (simpa using q)) H locs ls hP hD hS hl)
theorem V_if_gt {F : Fx} {G : Cx} {cc : ByteArray} {own : String} {S : Sx} {pc : Nat} {L : List (Option Value)} {sk : List Value} (X : CX F G cc own) {x : Int32} {off : Int} (tgt : Nat) (hd : decode cc pc = .ok (.ifCond .gt off, 3)) (ht : (pc : Int) + off = (tgt : Int)) (kt : 0 < x → V F G S tgt L sk) (kf : ¬ (0 < x) → V F G S (pc + 3) L sk) : V F G S pc L (.int x :: sk) := by
  obtain ⟨p, e, R, s, m, args, below, meth, c, nL, kc, ks, Q⟩ := F
  obtain ⟨hx, hb, hml, hown, hts, hK, hN, hlk, hkc, hks⟩ := X
  intro H locs ls hP hD hS hl
  exact lv_if_gt hx hb hd ht (fun q => kt (by first | exact q | (simpa using q)) H locs ls hP hD hS hl) (fun q => kf (by first | exact q | (simpa using q)) H locs ls hP hD hS hl)
theorem V_icmp_le {F : Fx} {G : Cx} {cc : ByteArray} {own : String} {S : Sx} {pc : Nat} {L : List (Option Value)} {sk : List Value} (X : CX F G cc own) {x y : Int32} {off : Int} (tgt : Nat) (hd : decode cc pc = .ok (.if_icmp .le off, 3)) (ht : (pc : Int) + off = (tgt : Int)) (kt : x ≤ y → V F G S tgt L sk) (kf : ¬ (x ≤ y) → V F G S (pc + 3) L sk) : V F G S pc L (.int y :: .int x :: sk) := by
  obtain ⟨p, e, R, s, m, args, below, meth, c, nL, kc, ks, Q⟩ := F
  obtain ⟨hx, hb, hml, hown, hts, hK, hN, hlk, hkc, hks⟩ := X
  intro H locs ls hP hD hS hl
  exact lv_icmp_le hx hb hd ht (fun q => kt (by first | exact q | (simpa using q)) H locs ls hP hD hS hl) (fun q => kf (by first | exact q | (simpa using q)) H locs ls hP hD hS hl)
theorem V_if_le {F : Fx} {G : Cx} {cc : ByteArray} {own : String} {S : Sx} {pc : Nat} {L : List (Option Value)} {sk : List Value} (X : CX F G cc own) {x : Int32} {off : Int} (tgt : Nat) (hd : decode cc pc = .ok (.ifCond .le off, 3)) (ht : (pc : Int) + off = (tgt : Int)) (kt : x ≤ 0 → V F G S tgt L sk) (kf : ¬ (x ≤ 0) → V F G S (pc + 3) L sk) : V F G S pc L (.int x :: sk) := by
  obtain ⟨p, e, R, s, m, args, below, meth, c, nL, kc, ks, Q⟩ := F
  obtain ⟨hx, hb, hml, hown, hts, hK, hN, hlk, hkc, hks⟩ := X
  intro H locs ls hP hD hS hl
  exact lv_if_le hx hb hd ht (fun q => kt (by first | exact q | (simpa using q)) H locs ls hP hD hS hl) (fun q => kf (by first | exact q | (simpa using q)) H locs ls hP hD hS hl)
theorem V_cN_eq {F : Fx} {G : Cx} {cc : ByteArray} {own : String} {S : Sx} {pc : Nat} {L : List (Option Value)} {sk : List Value} (X : CX F G cc own) {a b : Nat} {off : Int} (tgt : Nat) (ha : a < 2147483648) (hb2 : b < 2147483648) (hd : decode cc pc = .ok (.if_icmp .eq off, 3)) (ht : (pc : Int) + off = (tgt : Int)) (kt : a = b → V F G S tgt L sk) (kf : a ≠ b → V F G S (pc + 3) L sk) : V F G S pc L (.int (nI b) :: .int (nI a) :: sk) := by
  refine V_icmp_eq X tgt hd ht (fun q => kt ?_) (fun q => kf ?_)
  · have e1 := @nI_eq a b ha hb2
    have e2 := @nI_ltI a b ha hb2
    have e3 := @nI_leI a b ha hb2
    have e4 := @nI_ltI b a hb2 ha
    have e5 := @nI_leI b a hb2 ha
    first | exact e1.mp q | exact fun z => q (e1.mpr z) | exact e2.mp q | exact e3.mp q | exact e4.mp q | exact e5.mp q
  · have e1 := @nI_eq a b ha hb2
    have e2 := @nI_ltI a b ha hb2
    have e3 := @nI_leI a b ha hb2
    have e4 := @nI_ltI b a hb2 ha
    have e5 := @nI_leI b a hb2 ha
    first | exact fun z => q (e1.mpr z) | exact Classical.byContradiction (fun z => q (fun y => z (e1.mp y))) | exact Nat.le_of_not_lt (fun z => q (e2.mpr z)) | exact Nat.lt_of_not_le (fun z => q (e3.mpr z)) | exact Nat.le_of_not_lt (fun z => q (e4.mpr z)) | exact Nat.lt_of_not_le (fun z => q (e5.mpr z))
theorem V_cN_ne {F : Fx} {G : Cx} {cc : ByteArray} {own : String} {S : Sx} {pc : Nat} {L : List (Option Value)} {sk : List Value} (X : CX F G cc own) {a b : Nat} {off : Int} (tgt : Nat) (ha : a < 2147483648) (hb2 : b < 2147483648) (hd : decode cc pc = .ok (.if_icmp .ne off, 3)) (ht : (pc : Int) + off = (tgt : Int)) (kt : a ≠ b → V F G S tgt L sk) (kf : a = b → V F G S (pc + 3) L sk) : V F G S pc L (.int (nI b) :: .int (nI a) :: sk) := by
  refine V_icmp_ne X tgt hd ht (fun q => kt ?_) (fun q => kf ?_)
  · have e1 := @nI_eq a b ha hb2
    have e2 := @nI_ltI a b ha hb2
    have e3 := @nI_leI a b ha hb2
    have e4 := @nI_ltI b a hb2 ha
    have e5 := @nI_leI b a hb2 ha
    first | exact e1.mp q | exact fun z => q (e1.mpr z) | exact e2.mp q | exact e3.mp q | exact e4.mp q | exact e5.mp q
  · have e1 := @nI_eq a b ha hb2
    have e2 := @nI_ltI a b ha hb2
    have e3 := @nI_leI a b ha hb2
    have e4 := @nI_ltI b a hb2 ha
    have e5 := @nI_leI b a hb2 ha
    first | exact fun z => q (e1.mpr z) | exact Classical.byContradiction (fun z => q (fun y => z (e1.mp y))) | exact Nat.le_of_not_lt (fun z => q (e2.mpr z)) | exact Nat.lt_of_not_le (fun z => q (e3.mpr z)) | exact Nat.le_of_not_lt (fun z => q (e4.mpr z)) | exact Nat.lt_of_not_le (fun z => q (e5.mpr z))
theorem V_cN_lt {F : Fx} {G : Cx} {cc : ByteArray} {own : String} {S : Sx} {pc : Nat} {L : List (Option Value)} {sk : List Value} (X : CX F G cc own) {a b : Nat} {off : Int} (tgt : Nat) (ha : a < 2147483648) (hb2 : b < 2147483648) (hd : decode cc pc = .ok (.if_icmp .lt off, 3)) (ht : (pc : Int) + off = (tgt : Int)) (kt : a < b → V F G S tgt L sk) (kf : b ≤ a → V F G S (pc + 3) L sk) : V F G S pc L (.int (nI b) :: .int (nI a) :: sk) := by
  refine V_icmp_lt X tgt hd ht (fun q => kt ?_) (fun q => kf ?_)
  · have e1 := @nI_eq a b ha hb2
    have e2 := @nI_ltI a b ha hb2
    have e3 := @nI_leI a b ha hb2
    have e4 := @nI_ltI b a hb2 ha
    have e5 := @nI_leI b a hb2 ha
    first | exact e1.mp q | exact fun z => q (e1.mpr z) | exact e2.mp q | exact e3.mp q | exact e4.mp q | exact e5.mp q
  · have e1 := @nI_eq a b ha hb2
    have e2 := @nI_ltI a b ha hb2
    have e3 := @nI_leI a b ha hb2
    have e4 := @nI_ltI b a hb2 ha
    have e5 := @nI_leI b a hb2 ha
    first | exact fun z => q (e1.mpr z) | exact Classical.byContradiction (fun z => q (fun y => z (e1.mp y))) | exact Nat.le_of_not_lt (fun z => q (e2.mpr z)) | exact Nat.lt_of_not_le (fun z => q (e3.mpr z)) | exact Nat.le_of_not_lt (fun z => q (e4.mpr z)) | exact Nat.lt_of_not_le (fun z => q (e5.mpr z))
theorem V_cN_ge {F : Fx} {G : Cx} {cc : ByteArray} {own : String} {S : Sx} {pc : Nat} {L : List (Option Value)} {sk : List Value} (X : CX F G cc own) {a b : Nat} {off : Int} (tgt : Nat) (ha : a < 2147483648) (hb2 : b < 2147483648) (hd : decode cc pc = .ok (.if_icmp .ge off, 3)) (ht : (pc : Int) + off = (tgt : Int)) (kt : b ≤ a → V F G S tgt L sk) (kf : a < b → V F G S (pc + 3) L sk) : V F G S pc L (.int (nI b) :: .int (nI a) :: sk) := by
  refine V_icmp_ge X tgt hd ht (fun q => kt ?_) (fun q => kf ?_)
  · have e1 := @nI_eq a b ha hb2
    have e2 := @nI_ltI a b ha hb2
    have e3 := @nI_leI a b ha hb2
    have e4 := @nI_ltI b a hb2 ha
    have e5 := @nI_leI b a hb2 ha
    first | exact e1.mp q | exact fun z => q (e1.mpr z) | exact e2.mp q | exact e3.mp q | exact e4.mp q | exact e5.mp q
  · have e1 := @nI_eq a b ha hb2
    have e2 := @nI_ltI a b ha hb2
    have e3 := @nI_leI a b ha hb2
    have e4 := @nI_ltI b a hb2 ha
    have e5 := @nI_leI b a hb2 ha
    first | exact fun z => q (e1.mpr z) | exact Classical.byContradiction (fun z => q (fun y => z (e1.mp y))) | exact Nat.le_of_not_lt (fun z => q (e2.mpr z)) | exact Nat.lt_of_not_le (fun z => q (e3.mpr z)) | exact Nat.le_of_not_lt (fun z => q (e4.mpr z)) | exact Nat.lt_of_not_le (fun z => q (e5.mpr z))
theorem V_cN_gt {F : Fx} {G : Cx} {cc : ByteArray} {own : String} {S : Sx} {pc : Nat} {L : List (Option Value)} {sk : List Value} (X : CX F G cc own) {a b : Nat} {off : Int} (tgt : Nat) (ha : a < 2147483648) (hb2 : b < 2147483648) (hd : decode cc pc = .ok (.if_icmp .gt off, 3)) (ht : (pc : Int) + off = (tgt : Int)) (kt : b < a → V F G S tgt L sk) (kf : a ≤ b → V F G S (pc + 3) L sk) : V F G S pc L (.int (nI b) :: .int (nI a) :: sk) := by
  refine V_icmp_gt X tgt hd ht (fun q => kt ?_) (fun q => kf ?_)
  · have e1 := @nI_eq a b ha hb2
    have e2 := @nI_ltI a b ha hb2
    have e3 := @nI_leI a b ha hb2
    have e4 := @nI_ltI b a hb2 ha
    have e5 := @nI_leI b a hb2 ha
    first | exact e1.mp q | exact fun z => q (e1.mpr z) | exact e2.mp q | exact e3.mp q | exact e4.mp q | exact e5.mp q
  · have e1 := @nI_eq a b ha hb2
    have e2 := @nI_ltI a b ha hb2
    have e3 := @nI_leI a b ha hb2
    have e4 := @nI_ltI b a hb2 ha
    have e5 := @nI_leI b a hb2 ha
    first | exact fun z => q (e1.mpr z) | exact Classical.byContradiction (fun z => q (fun y => z (e1.mp y))) | exact Nat.le_of_not_lt (fun z => q (e2.mpr z)) | exact Nat.lt_of_not_le (fun z => q (e3.mpr z)) | exact Nat.le_of_not_lt (fun z => q (e4.mpr z)) | exact Nat.lt_of_not_le (fun z => q (e5.mpr z))
theorem V_cN_le {F : Fx} {G : Cx} {cc : ByteArray} {own : String} {S : Sx} {pc : Nat} {L : List (Option Value)} {sk : List Value} (X : CX F G cc own) {a b : Nat} {off : Int} (tgt : Nat) (ha : a < 2147483648) (hb2 : b < 2147483648) (hd : decode cc pc = .ok (.if_icmp .le off, 3)) (ht : (pc : Int) + off = (tgt : Int)) (kt : a ≤ b → V F G S tgt L sk) (kf : b < a → V F G S (pc + 3) L sk) : V F G S pc L (.int (nI b) :: .int (nI a) :: sk) := by
  refine V_icmp_le X tgt hd ht (fun q => kt ?_) (fun q => kf ?_)
  · have e1 := @nI_eq a b ha hb2
    have e2 := @nI_ltI a b ha hb2
    have e3 := @nI_leI a b ha hb2
    have e4 := @nI_ltI b a hb2 ha
    have e5 := @nI_leI b a hb2 ha
    first | exact e1.mp q | exact fun z => q (e1.mpr z) | exact e2.mp q | exact e3.mp q | exact e4.mp q | exact e5.mp q
  · have e1 := @nI_eq a b ha hb2
    have e2 := @nI_ltI a b ha hb2
    have e3 := @nI_leI a b ha hb2
    have e4 := @nI_ltI b a hb2 ha
    have e5 := @nI_leI b a hb2 ha
    first | exact fun z => q (e1.mpr z) | exact Classical.byContradiction (fun z => q (fun y => z (e1.mp y))) | exact Nat.le_of_not_lt (fun z => q (e2.mpr z)) | exact Nat.lt_of_not_le (fun z => q (e3.mpr z)) | exact Nat.le_of_not_lt (fun z => q (e4.mpr z)) | exact Nat.lt_of_not_le (fun z => q (e5.mpr z))
theorem V_goto {F : Fx} {G : Cx} {cc : ByteArray} {own : String} {S : Sx} {pc : Nat} {L : List (Option Value)} {sk : List Value} (X : CX F G cc own) {off : Int} (tgt : Nat) (hd : decode cc pc = .ok (.goto off, 3)) (ht : (pc : Int) + off = (tgt : Int)) (k : V F G S tgt L sk) : V F G S pc L sk := by
  obtain ⟨p, e, R, s, m, args, below, meth, c, nL, kc, ks, Q⟩ := F
  obtain ⟨hx, hb, hml, hown, hts, hK, hN, hlk, hkc, hks⟩ := X
  intro H locs ls hP hD hS hl
  exact lv_goto hx hb hd ht (k H locs ls hP hD hS hl)
theorem V_tabOut {F : Fx} {G : Cx} {cc : ByteArray} {own : String} {S : Sx} {pc : Nat} {L : List (Option Value)} {sk : List Value} (X : CX F G cc own) {dflt lo hi : Int} {offs : Array Int} {len : Nat} {x : Int32} (tgt : Nat) (hd : decode cc pc = .ok (.tableswitch dflt lo hi offs, len)) (h : x.toInt < lo ∨ hi < x.toInt) (ht : (pc : Int) + dflt = (tgt : Int)) (k : V F G S tgt L sk) : V F G S pc L (.int x :: sk) := by
  obtain ⟨p, e, R, s, m, args, below, meth, c, nL, kc, ks, Q⟩ := F
  obtain ⟨hx, hb, hml, hown, hts, hK, hN, hlk, hkc, hks⟩ := X
  intro H locs ls hP hD hS hl
  exact lv_tableOut hx hb hd h ht (k H locs ls hP hD hS hl)
theorem V_tabIn {F : Fx} {G : Cx} {cc : ByteArray} {own : String} {S : Sx} {pc : Nat} {L : List (Option Value)} {sk : List Value} (X : CX F G cc own) {dflt lo hi : Int} {offs : Array Int} {len : Nat} {x : Int32} (off : Int) (tgt : Nat) (hd : decode cc pc = .ok (.tableswitch dflt lo hi offs, len)) (h1 : ¬ x.toInt < lo) (h2 : ¬ hi < x.toInt) (ho : offs[(x.toInt - lo).toNat]? = some off) (ht : (pc : Int) + off = (tgt : Int)) (k : V F G S tgt L sk) : V F G S pc L (.int x :: sk) := by
  obtain ⟨p, e, R, s, m, args, below, meth, c, nL, kc, ks, Q⟩ := F
  obtain ⟨hx, hb, hml, hown, hts, hK, hN, hlk, hkc, hks⟩ := X
  intro H locs ls hP hD hS hl
  exact lv_tableIn hx hb hd h1 h2 ho ht (k H locs ls hP hD hS hl)
theorem V_look {F : Fx} {G : Cx} {cc : ByteArray} {own : String} {S : Sx} {pc : Nat} {L : List (Option Value)} {sk : List Value} (X : CX F G cc own) {dflt : Int} {ps : Array (Int × Int)} {len : Nat} {x : Int32} (off : Int) (tgt : Nat) (hd : decode cc pc = .ok (.lookupswitch dflt ps, len)) (hp : (ps.toList.zip (ps.toList.drop 1)).all (fun (a, next) => a.1 < next.1) = true) (ho : Op.lookupswitch.offset ps.toList dflt x.toInt = off) (ht : (pc : Int) + off = (tgt : Int)) (k : V F G S tgt L sk) : V F G S pc L (.int x :: sk) := by
  obtain ⟨p, e, R, s, m, args, below, meth, c, nL, kc, ks, Q⟩ := F
  obtain ⟨hx, hb, hml, hown, hts, hK, hN, hlk, hkc, hks⟩ := X
  intro H locs ls hP hD hS hl
  exact lv_lookup hx hb hd hp ho ht (k H locs ls hP hD hS hl)
theorem V_iald {F : Fx} {G : Cx} {cc : ByteArray} {own : String} {S : Sx} {pc : Nat} {L : List (Option Value)} {sk : List Value} (X : CX F G cc own) {q n : Nat} {i : Int32} (hN9 : q < gN G) (hs : ds q = .inl n) (hi : vp_in i n) (hd : decode cc pc = .ok (.iaload, 1)) (k : V F G S (pc + 1) L (.int (S q i.toNatClampNeg) :: sk)) : V F G S pc L (.int i :: ra G q :: sk) := by
  obtain ⟨p, e, R, s, m, args, below, meth, c, nL, kc, ks, Q⟩ := F
  obtain ⟨hx, hb, hml, hown, hts, hK, hN, hlk, hkc, hks⟩ := X
  intro H locs ls hP hD hS hl
  exact va_iald hx hb hK hP q 0 ((cw_at hN9).trans (by rw [ce_arr hs])) rfl hi hd (k H locs ls hP hD hS hl)
theorem V_ialdN {F : Fx} {G : Cx} {cc : ByteArray} {own : String} {S : Sx} {pc : Nat} {L : List (Option Value)} {sk : List Value} (X : CX F G cc own) {q n j : Nat} (hN : q < gN G) (hs : ds q = .inl n) (hi : j < n) (hn : n < 2147483648) (hd : decode cc pc = .ok (.iaload, 1)) (k : V F G S (pc + 1) L (.int (S q j) :: sk)) : V F G S pc L (.int (nI j) :: ra G q :: sk) := by
  refine V_iald X hN hs (vp_in_nI hi hn) hd ?_
  rw [nI_clamp (Nat.lt_trans hi hn)]
  exact k
theorem V_iast {F : Fx} {G : Cx} {cc : ByteArray} {own : String} {S : Sx} {pc : Nat} {L : List (Option Value)} {sk : List Value} (X : CX F G cc own) {q n : Nat} {i x : Int32} (hN9 : q < gN G) (hs : ds q = .inl n) (hi : vp_in i n) (hd : decode cc pc = .ok (.iastore, 1)) (k : V F G (st S q i.toNatClampNeg x) (pc + 1) L sk) : V F G S pc L (.int x :: .int i :: ra G q :: sk) := by
  obtain ⟨p, e, R, s, m, args, below, meth, c, nL, kc, ks, Q⟩ := F
  obtain ⟨hx, hb, hml, hown, hts, hK, hN, hlk, hkc, hks⟩ := X
  intro H locs ls hP hD hS hl
  refine va_iast hx hb hK hP hD hS q 0 ((cw_at hN9).trans (by rw [ce_arr hs])) rfl hi hd (fun H1 locs1 hP1 hD1 hS1 => ?_)
  rw [cw_st_arr hN9 hs] at hP1 hD1
  exact k H1 locs1 ls hP1 hD1 hS1 hl
theorem V_iastN {F : Fx} {G : Cx} {cc : ByteArray} {own : String} {S : Sx} {pc : Nat} {L : List (Option Value)} {sk : List Value} (X : CX F G cc own) {q n j : Nat} {x : Int32} (hN : q < gN G) (hs : ds q = .inl n) (hi : j < n) (hn : n < 2147483648) (hd : decode cc pc = .ok (.iastore, 1)) (k : V F G (st S q j x) (pc + 1) L sk) : V F G S pc L (.int x :: .int (nI j) :: ra G q :: sk) := by
  refine V_iast X hN hs (vp_in_nI hi hn) hd ?_
  rw [nI_clamp (Nat.lt_trans hi hn)]
  exact k
theorem V_aald {F : Fx} {G : Cx} {cc : ByteArray} {own : String} {S : Sx} {pc : Nat} {L : List (Option Value)} {sk : List Value} (X : CX F G cc own) {q b : Nat} {i : Int32} (hN9 : q < gN G) (hs : ds q = .inr (.inr b)) (hi : vp_in i 15) (hd : decode cc pc = .ok (.aaload, 1)) (k : V F G S (pc + 1) L (ra G (b + i.toNatClampNeg) :: sk)) : V F G S pc L (.int i :: ra G q :: sk) := by
  obtain ⟨p, e, R, s, m, args, below, meth, c, nL, kc, ks, Q⟩ := F
  obtain ⟨hx, hb, hml, hown, hts, hK, hN, hlk, hkc, hks⟩ := X
  intro H locs ls hP hD hS hl
  have hlt : i.toNatClampNeg < 15 := Nat.not_le.mp fun q => hi (Or.inr q)
  have hc : H[gad G q]? = some (vp_cell (gO G) (15, .inr (.inr (.inr (.inr (fun i => some (gad G (b + i)))))))) := hP q (gad G q, .inl (gO G, 15, .inr (.inr (.inr (.inr (fun i => some (gad G (b + i)))))))) ((cw_at hN9).trans (by rw [ce_row hs]))
  exact W.aald (v := .ref (gad G (b + i.toNatClampNeg))) (ty := .array .int) hx hb hc ((hK.2 1 (gO G, .array .int) rfl).1 15 (fun j => va_rf (some (gad G (b + j))))) rfl (fun q => by cases q) (by show ¬ (i < 0 ∨ (arrV _ _ _).slots.size ≤ _); rw [arrV_size]; exact hi) (by show (arrV _ _ _).slots[_]? = _; rw [arrV_read _ _ hlt]; rfl) rfl rfl hd (k H locs ls hP hD hS hl)
theorem V_aaldN {F : Fx} {G : Cx} {cc : ByteArray} {own : String} {S : Sx} {pc : Nat} {L : List (Option Value)} {sk : List Value} (X : CX F G cc own) {q b j : Nat} (hN : q < gN G) (hs : ds q = .inr (.inr b)) (hi : j < 15) (hd : decode cc pc = .ok (.aaload, 1)) (k : V F G S (pc + 1) L (ra G (b + j) :: sk)) : V F G S pc L (.int (nI j) :: ra G q :: sk) := by
  refine V_aald X hN hs (vp_in_nI hi (by decide)) hd ?_
  rw [nI_clamp (Nat.lt_trans hi (by decide))]
  exact k
/-- a link to a field of a class of the world -/
def FL (own : String) (idx ci k : Nat) : Prop := ∃ (C : String) (T : u_T) (N : Nat), vwCl[ci]? = some (C, T, N) ∧ k < N ∧ (∀ w ∈ u_ws C T N, w ∈ gw) ∧ Cond.fieldLink own idx (T k).1 (T k).2.1 (T k).2.2.1 ∈ gw
def FN (own : String) (idx ci k : Nat) : Prop := ∃ (C : String) (T : u_T) (N : Nat) (host : String), vwCl[ci]? = some (C, T, N) ∧ k < N ∧ (∀ w ∈ u_ws C T N, w ∈ gw) ∧ Cond.fieldLinkNest own idx (T k).1 (T k).2.1 (T k).2.2.1 host ∈ nw
def FP (own : String) (idx ci k : Nat) : Prop := ∃ (C : String) (T : u_T) (N : Nat) (ty : Nat → FieldType), vwCl[ci]? = some (C, T, N) ∧ k < N ∧ (∀ w ∈ u_ws C T N, w ∈ gw) ∧ Cond.fieldLink own idx (T k).1 (T k).2.1 (T k).2.2.1 ∈ gw ∧ (∀ k, k < N → parseFieldDescriptor (T k).2.2.1 = some (ty k)) ∧ (∀ a, a < N → ∀ b, b < N → a ≠ b → (T a).2.1 ≠ (T b).2.1) ∧ (T k).2.2.2 = false ∧ parseFieldDescriptor (T k).2.2.1 = some .int

theorem V_geti {F : Fx} {G : Cx} {cc : ByteArray} {own : String} {S : Sx} {pc : Nat} {L : List (Option Value)} {sk : List Value} (X : CX F G cc own) {q ci k idx : Nat} {fl : List (Option Nat)} (hf : FL own idx ci k) (hN9 : q < gN G) (hs : ds q = .inr (.inl (ci, fl))) (hk : fl[k]? = some none) (hd : decode cc pc = .ok (.getfield idx, 3)) (kk : V F G S (pc + 3) L (.int (S q k) :: sk)) : V F G S pc L (ra G q :: sk) := by
  obtain ⟨p, e, R, s, m, args, below, meth, c, nL, kc, ks, Q⟩ := F
  obtain ⟨hx, hb, hml, hown, hts, hK, hN, hlk, hkc, hks⟩ := X
  intro H locs ls hP hD hS hl
  obtain ⟨C, T, N, f1, f2, f3, f4⟩ := hf
  exact va_get (v := .int (S q k)) hx hb hts f3 hown hK hP q ((cw_at hN9).trans (by rw [ce_obj hs])) f1 k f2 (hts _ f4) (fun _ h9 => h9) (by show (List.mapIdx _ _)[k]? = _; rw [List.getElem?_mapIdx, hk]; rfl) hd (kk H locs ls hP hD hS hl)
theorem V_getr {F : Fx} {G : Cx} {cc : ByteArray} {own : String} {S : Sx} {pc : Nat} {L : List (Option Value)} {sk : List Value} (X : CX F G cc own) {q ci k idx : Nat} {fl : List (Option Nat)} (hf : FL own idx ci k) (hN9 : q < gN G) (hs : ds q = .inr (.inl (ci, fl))) {q2 : Nat} (hk : fl[k]? = some (some q2)) (hd : decode cc pc = .ok (.getfield idx, 3)) (kk : V F G S (pc + 3) L (ra G q2 :: sk)) : V F G S pc L (ra G q :: sk) := by
  obtain ⟨p, e, R, s, m, args, below, meth, c, nL, kc, ks, Q⟩ := F
  obtain ⟨hx, hb, hml, hown, hts, hK, hN, hlk, hkc, hks⟩ := X
  intro H locs ls hP hD hS hl
  obtain ⟨C, T, N, f1, f2, f3, f4⟩ := hf
  exact va_get (v := ra G q2) hx hb hts f3 hown hK hP q ((cw_at hN9).trans (by rw [ce_obj hs])) f1 k f2 (hts _ f4) (fun _ h9 => h9) (by show (List.mapIdx _ _)[k]? = _; rw [List.getElem?_mapIdx, hk]; rfl) hd (kk H locs ls hP hD hS hl)
theorem V_getNi {F : Fx} {G : Cx} {cc : ByteArray} {own : String} {S : Sx} {pc : Nat} {L : List (Option Value)} {sk : List Value} (X : CX F G cc own) {q ci k idx : Nat} {fl : List (Option Nat)} (hf : FN own idx ci k) (hN9 : q < gN G) (hs : ds q = .inr (.inl (ci, fl))) (hk : fl[k]? = some none) (hd : decode cc pc = .ok (.getfield idx, 3)) (kk : V F G S (pc + 3) L (.int (S q k) :: sk)) : V F G S pc L (ra G q :: sk) := by
  obtain ⟨p, e, R, s, m, args, below, meth, c, nL, kc, ks, Q⟩ := F
  obtain ⟨hx, hb, hml, hown, hts, hK, hN, hlk, hkc, hks⟩ := X
  intro H locs ls hP hD hS hl
  obtain ⟨C, T, N, host, f1, f2, f3, f4⟩ := hf
  exact va_getN (v := .int (S q k)) hx hb hts f3 hown hK hP q ((cw_at hN9).trans (by rw [ce_obj hs])) f1 k f2 (va_Nw.use rfl (hN _ f4)) (fun _ h9 => h9) (by show (List.mapIdx _ _)[k]? = _; rw [List.getElem?_mapIdx, hk]; rfl) hd (kk H locs ls hP hD hS hl)
theorem V_getNr {F : Fx} {G : Cx} {cc : ByteArray} {own : String} {S : Sx} {pc : Nat} {L : List (Option Value)} {sk : List Value} (X : CX F G cc own) {q ci k idx : Nat} {fl : List (Option Nat)} (hf : FN own idx ci k) (hN9 : q < gN G) (hs : ds q = .inr (.inl (ci, fl))) {q2 : Nat} (hk : fl[k]? = some (some q2)) (hd : decode cc pc = .ok (.getfield idx, 3)) (kk : V F G S (pc + 3) L (ra G q2 :: sk)) : V F G S pc L (ra G q :: sk) := by
  obtain ⟨p, e, R, s, m, args, below, meth, c, nL, kc, ks, Q⟩ := F
  obtain ⟨hx, hb, hml, hown, hts, hK, hN, hlk, hkc, hks⟩ := X
  intro H locs ls hP hD hS hl
  obtain ⟨C, T, N, host, f1, f2, f3, f4⟩ := hf
  exact va_getN (v := ra G q2) hx hb hts f3 hown hK hP q ((cw_at hN9).trans (by rw [ce_obj hs])) f1 k f2 (va_Nw.use rfl (hN _ f4)) (fun _ h9 => h9) (by show (List.mapIdx _ _)[k]? = _; rw [List.getElem?_mapIdx, hk]; rfl) hd (kk H locs ls hP hD hS hl)
theorem V_puti {F : Fx} {G : Cx} {cc : ByteArray} {own : String} {S : Sx} {pc : Nat} {L : List (Option Value)} {sk : List Value} (X : CX F G cc own) {q ci k idx : Nat} {x : Int32} {fl : List (Option Nat)} (hf : FP own idx ci k) (hN9 : q < gN G) (hs : ds q = .inr (.inl (ci, fl))) (hk : fl[k]? = some none) (hd : decode cc pc = .ok (.putfield idx, 3)) (kk : V F G (st S q k x) (pc + 3) L sk) : V F G S pc L (.int x :: ra G q :: sk) := by
  obtain ⟨p, e, R, s, m, args, below, meth, c, nL, kc, ks, Q⟩ := F
  obtain ⟨hx, hb, hml, hown, hts, hK, hN, hlk, hkc, hks⟩ := X
  intro H locs ls hP hD hS hl
  obtain ⟨C, T, N, ty, f1, f2, f3, f4, f5, f6, f7, f8⟩ := hf
  refine va_put hx hb hts f3 ty f5 f6 hown hK hP hD hS q ((cw_at hN9).trans (by rw [ce_obj hs])) f1 k f2 (hts _ f4) (fun _ h9 => h9) f7 f8 rfl rfl (by have := (List.getElem?_eq_some_iff.mp hk).1; simpa using this) hd (fun H1 locs1 hP1 hD1 hS1 => ?_)
  rw [cw_st_fld (o := (ci, fl)) hN9 hs hk] at hP1 hD1
  exact kk H1 locs1 ls hP1 hD1 hS1 hl
/-- the words of a call: virtual, static, of a nest mate -/
def CWv (own : String) (idx : Nat) (y : MethodName) (cc : ByteArray) (nL : Nat) (ret : Option FieldType) (n : Nat) : Prop := Cond.methodLink own idx y ∈ gw ∧ Cond.instanceMethod y ∈ gw ∧ Cond.selects y.cls y y ∈ gw ∧ Cond.initialized y.cls ∈ gw ∧ Cond.code y cc nL ret ∈ gw ∧ (y.cls ≠ "java/lang/invoke/MethodHandle" ∧ y.cls ≠ "java/lang/invoke/VarHandle" ∧ (parseMethodDescriptor y.desc).map (fun d => d.parameters.length) = some n)
def CWs (own : String) (idx : Nat) (y : MethodName) (cc : ByteArray) (nL : Nat) (ret : Option FieldType) (n : Nat) : Prop := Cond.methodLink own idx y ∈ gw ∧ Cond.static y ∈ gw ∧ Cond.initialized y.cls ∈ gw ∧ Cond.code y cc nL ret ∈ gw ∧ (y.cls ≠ "java/lang/invoke/MethodHandle" ∧ y.cls ≠ "java/lang/invoke/VarHandle" ∧ (parseMethodDescriptor y.desc).map (fun d => d.parameters.length) = some n)
def CWt (own : String) (idx : Nat) (y : MethodName) (cc : ByteArray) (nL : Nat) (ret : Option FieldType) (n : Nat) : Prop := (∃ host : String, Cond.methodLinkNest own idx y host ∈ nw) ∧ Cond.static y ∈ gw ∧ Cond.initialized y.cls ∈ gw ∧ Cond.code y cc nL ret ∈ gw ∧ (y.cls ≠ "java/lang/invoke/MethodHandle" ∧ y.cls ≠ "java/lang/invoke/VarHandle" ∧ (parseMethodDescriptor y.desc).map (fun d => d.parameters.length) = some n)
def csum (l : List Value) : Nat := (l.map fun v => v.category).sum
def rmOk (R : Room) (d nL : Nat) : Prop := d + 1 ≤ R.frames ∧ 8 + (nL + 11) + 40 * d ≤ R.locals
theorem Wd_pre {F : Fx} {G : Cx} {S : Sx} {as : List Value} {s : State} {H : Heap} (hP : va_P (gD G) vwCl (cw G S) H) (hD : va_D (gA G) (cw G S)) (hK : va_K (gD G) vwCl (tyz G) s) (hN : ∀ w ∈ nw, va_Nw w s) : ∀ U : State, U.heap = H → s.WarmedH U.vm → va_Pc as (Wd G S) as.toArray U :=
  fun U hU hW => ⟨rfl, by rw [hU]; exact hP, va_K.moved hW.alike hK, hD, nw_warm hW hN⟩

theorem V_cvi {F : Fx} {G : Cx} {cc : ByteArray} {own : String} {S : Sx} {pc : Nat} {L : List (Option Value)} {sk : List Value} (X : CX F G cc own) {d mL idx : Nat} {y : MethodName} {bytes : ByteArray} {ret : Option FieldType} {As rest : List Value} {r : Int32} {S2 : Sx} {b ci : Nat} {fl : List (Option Nat)} {cq : vw_C} (hN9 : b < gN G) (hs : ds b = .inr (.inl (ci, fl))) (hcq : vwCl[ci]? = some cq) (hcn : cq.1 = y.cls) (hc : CT G d y bytes mL ret (ra G b :: As) S r S2) (hw : CWv own idx y bytes mL ret As.length) (hst : sk = As.reverse ++ ra G b :: rest) (hrm : rmOk (fR F) d mL) (hr8 : csum rest ≤ 8) (hd : decode cc pc = .ok (.invokevirtual idx, 3)) (k : V F G S2 (pc + 3) L (.int r :: rest)) : V F G S pc L sk := by
  obtain ⟨p, e, R, s, m, args, below, meth, c, nL, kc, ks, Q⟩ := F
  obtain ⟨hx, hb, hml, hown, hts, hK, hN, hlk, hkc, hks⟩ := X
  intro H locs ls hP hD hS hl
  obtain ⟨w1, w2, w3, w4, w5, w6⟩ := hw
  subst hst
  refine va_calli (va_runV (As := As) (rest := rest) ⟨hx, hb, hml, hown, hts⟩ hc ⟨callB_of As.length hts (mw_good w5) rfl rfl rfl (hts _ w4) (hts _ w1) w6 hrm, hts _ w2, hts _ w3⟩ ⟨Wd_blind, by have := va_recv hK hP hcq ((cw_at hN9).trans (by rw [ce_obj hs])); rw [hcn] at this; exact this, Wd_pre (F := (p, e, R, s, m, args, below, meth, c, nL, kc, ks, Q)) hP hD hK hN⟩ rfl rfl (hl.1) rfl (lv_room hr8) hd ⟨hkc, hks⟩) hS (fun q _ h => h) (fun q h => h) (fun r1 u t H1 locs1 ht hvm hw1 hB hz1 hk1 hS1 => ?_)
  obtain ⟨rfl, rfl⟩ := hw1
  obtain ⟨hP1, -, hD1, -⟩ := hB
  rw [ht] at hP1
  exact k H1 locs1 ls hP1 hD1 hS1 hl
theorem V_cvv {F : Fx} {G : Cx} {cc : ByteArray} {own : String} {S : Sx} {pc : Nat} {L : List (Option Value)} {sk : List Value} (X : CX F G cc own) {d mL idx : Nat} {y : MethodName} {bytes : ByteArray} {As rest : List Value} {S2 : Sx} {b ci : Nat} {fl : List (Option Nat)} {cq : vw_C} (hN9 : b < gN G) (hs : ds b = .inr (.inl (ci, fl))) (hcq : vwCl[ci]? = some cq) (hcn : cq.1 = y.cls) (hc : CV G d y bytes mL (ra G b :: As) S S2) (hw : CWv own idx y bytes mL none As.length) (hst : sk = As.reverse ++ ra G b :: rest) (hrm : rmOk (fR F) d mL) (hr8 : csum rest ≤ 8) (hd : decode cc pc = .ok (.invokevirtual idx, 3)) (k : V F G S2 (pc + 3) L (rest)) : V F G S pc L sk := by
  obtain ⟨p, e, R, s, m, args, below, meth, c, nL, kc, ks, Q⟩ := F
  obtain ⟨hx, hb, hml, hown, hts, hK, hN, hlk, hkc, hks⟩ := X
  intro H locs ls hP hD hS hl
  obtain ⟨w1, w2, w3, w4, w5, w6⟩ := hw
  subst hst
  refine va_callv (va_runV (As := As) (rest := rest) ⟨hx, hb, hml, hown, hts⟩ hc ⟨callB_of As.length hts (mw_good w5) rfl rfl rfl (hts _ w4) (hts _ w1) w6 hrm, hts _ w2, hts _ w3⟩ ⟨Wd_blind, by have := va_recv hK hP hcq ((cw_at hN9).trans (by rw [ce_obj hs])); rw [hcn] at this; exact this, Wd_pre (F := (p, e, R, s, m, args, below, meth, c, nL, kc, ks, Q)) hP hD hK hN⟩ rfl rfl (hl.1) rfl (lv_room hr8) hd ⟨hkc, hks⟩) hS (fun q _ h => h) (fun q h => h) (fun u t H1 locs1 ht hvm hw1 hB hz1 hk1 hS1 => ?_)
  subst hw1
  obtain ⟨hP1, -, hD1, -⟩ := hB
  rw [ht] at hP1
  exact k H1 locs1 ls hP1 hD1 hS1 hl
theorem V_csi {F : Fx} {G : Cx} {cc : ByteArray} {own : String} {S : Sx} {pc : Nat} {L : List (Option Value)} {sk : List Value} (X : CX F G cc own) {d mL idx : Nat} {y : MethodName} {bytes : ByteArray} {ret : Option FieldType} {As rest : List Value} {r : Int32} {S2 : Sx} (hc : CT G d y bytes mL ret (As) S r S2) (hw : CWs own idx y bytes mL ret As.length) (hst : sk = As.reverse ++ rest) (hrm : rmOk (fR F) d mL) (hr8 : csum rest ≤ 8) (hd : decode cc pc = .ok (.invokestatic idx, 3)) (k : V F G S2 (pc + 3) L (.int r :: rest)) : V F G S pc L sk := by
  obtain ⟨p, e, R, s, m, args, below, meth, c, nL, kc, ks, Q⟩ := F
  obtain ⟨hx, hb, hml, hown, hts, hK, hN, hlk, hkc, hks⟩ := X
  intro H locs ls hP hD hS hl
  obtain ⟨w1, w2, w4, w5, w6⟩ := hw
  subst hst
  refine va_calli (va_runS (As := As) (rest := rest) ⟨hx, hb, hml, hown, hts⟩ hc ⟨callB_of As.length hts (mw_good w5) rfl rfl rfl (hts _ w4) (hts _ w1) w6 hrm, hts _ w2⟩ ⟨Wd_blind, Wd_pre (F := (p, e, R, s, m, args, below, meth, c, nL, kc, ks, Q)) hP hD hK hN⟩ rfl rfl (hl.1) rfl (lv_room hr8) hd ⟨hkc, hks⟩) hS (fun q _ h => h) (fun q h => h) (fun r1 u t H1 locs1 ht hvm hw1 hB hz1 hk1 hS1 => ?_)
  obtain ⟨rfl, rfl⟩ := hw1
  obtain ⟨hP1, -, hD1, -⟩ := hB
  rw [ht] at hP1
  exact k H1 locs1 ls hP1 hD1 hS1 hl
theorem V_csv {F : Fx} {G : Cx} {cc : ByteArray} {own : String} {S : Sx} {pc : Nat} {L : List (Option Value)} {sk : List Value} (X : CX F G cc own) {d mL idx : Nat} {y : MethodName} {bytes : ByteArray} {As rest : List Value} {S2 : Sx} (hc : CV G d y bytes mL (As) S S2) (hw : CWs own idx y bytes mL none As.length) (hst : sk = As.reverse ++ rest) (hrm : rmOk (fR F) d mL) (hr8 : csum rest ≤ 8) (hd : decode cc pc = .ok (.invokestatic idx, 3)) (k : V F G S2 (pc + 3) L (rest)) : V F G S pc L sk := by
  obtain ⟨p, e, R, s, m, args, below, meth, c, nL, kc, ks, Q⟩ := F
  obtain ⟨hx, hb, hml, hown, hts, hK, hN, hlk, hkc, hks⟩ := X
  intro H locs ls hP hD hS hl
  obtain ⟨w1, w2, w4, w5, w6⟩ := hw
  subst hst
  refine va_callv (va_runS (As := As) (rest := rest) ⟨hx, hb, hml, hown, hts⟩ hc ⟨callB_of As.length hts (mw_good w5) rfl rfl rfl (hts _ w4) (hts _ w1) w6 hrm, hts _ w2⟩ ⟨Wd_blind, Wd_pre (F := (p, e, R, s, m, args, below, meth, c, nL, kc, ks, Q)) hP hD hK hN⟩ rfl rfl (hl.1) rfl (lv_room hr8) hd ⟨hkc, hks⟩) hS (fun q _ h => h) (fun q h => h) (fun u t H1 locs1 ht hvm hw1 hB hz1 hk1 hS1 => ?_)
  subst hw1
  obtain ⟨hP1, -, hD1, -⟩ := hB
  rw [ht] at hP1
  exact k H1 locs1 ls hP1 hD1 hS1 hl
theorem V_cti {F : Fx} {G : Cx} {cc : ByteArray} {own : String} {S : Sx} {pc : Nat} {L : List (Option Value)} {sk : List Value} (X : CX F G cc own) {d mL idx : Nat} {y : MethodName} {bytes : ByteArray} {ret : Option FieldType} {As rest : List Value} {r : Int32} {S2 : Sx} (hc : CT G d y bytes mL ret (As) S r S2) (hw : CWt own idx y bytes mL ret As.length) (hst : sk = As.reverse ++ rest) (hrm : rmOk (fR F) d mL) (hr8 : csum rest ≤ 8) (hd : decode cc pc = .ok (.invokestatic idx, 3)) (k : V F G S2 (pc + 3) L (.int r :: rest)) : V F G S pc L sk := by
  obtain ⟨p, e, R, s, m, args, below, meth, c, nL, kc, ks, Q⟩ := F
  obtain ⟨hx, hb, hml, hown, hts, hK, hN, hlk, hkc, hks⟩ := X
  intro H locs ls hP hD hS hl
  obtain ⟨⟨host, w1⟩, w2, w4, w5, w6⟩ := hw
  subst hst
  refine va_calli (va_runSN (As := As) (rest := rest) ⟨hx, hb, hml, hown, hts⟩ hc ⟨va_cnB As.length hts (mw_good w5) rfl rfl rfl (hN _ w1) (hts _ w4) w6 hrm, hts _ w2, trivial⟩ ⟨Wd_blind, Wd_pre (F := (p, e, R, s, m, args, below, meth, c, nL, kc, ks, Q)) hP hD hK hN⟩ rfl rfl (hl.1) rfl (lv_room hr8) hd ⟨hkc, hks⟩) hS (fun q _ h => h) (fun q h => h) (fun r1 u t H1 locs1 ht hvm hw1 hB hz1 hk1 hS1 => ?_)
  obtain ⟨rfl, rfl⟩ := hw1
  obtain ⟨hP1, -, hD1, -⟩ := hB
  rw [ht] at hP1
  exact k H1 locs1 ls hP1 hD1 hS1 hl
theorem V_ctv {F : Fx} {G : Cx} {cc : ByteArray} {own : String} {S : Sx} {pc : Nat} {L : List (Option Value)} {sk : List Value} (X : CX F G cc own) {d mL idx : Nat} {y : MethodName} {bytes : ByteArray} {As rest : List Value} {S2 : Sx} (hc : CV G d y bytes mL (As) S S2) (hw : CWt own idx y bytes mL none As.length) (hst : sk = As.reverse ++ rest) (hrm : rmOk (fR F) d mL) (hr8 : csum rest ≤ 8) (hd : decode cc pc = .ok (.invokestatic idx, 3)) (k : V F G S2 (pc + 3) L (rest)) : V F G S pc L sk := by
  obtain ⟨p, e, R, s, m, args, below, meth, c, nL, kc, ks, Q⟩ := F
  obtain ⟨hx, hb, hml, hown, hts, hK, hN, hlk, hkc, hks⟩ := X
  intro H locs ls hP hD hS hl
  obtain ⟨⟨host, w1⟩, w2, w4, w5, w6⟩ := hw
  subst hst
  refine va_callv (va_runSN (As := As) (rest := rest) ⟨hx, hb, hml, hown, hts⟩ hc ⟨va_cnB As.length hts (mw_good w5) rfl rfl rfl (hN _ w1) (hts _ w4) w6 hrm, hts _ w2, trivial⟩ ⟨Wd_blind, Wd_pre (F := (p, e, R, s, m, args, below, meth, c, nL, kc, ks, Q)) hP hD hK hN⟩ rfl rfl (hl.1) rfl (lv_room hr8) hd ⟨hkc, hks⟩) hS (fun q _ h => h) (fun q h => h) (fun u t H1 locs1 ht hvm hw1 hB hz1 hk1 hS1 => ?_)
  subst hw1
  obtain ⟨hP1, -, hD1, -⟩ := hB
  rw [ht] at hP1
  exact k H1 locs1 ls hP1 hD1 hS1 hl
theorem V_iret {F : Fx} {G : Cx} {cc : ByteArray} {own : String} {S S' : Sx} {pc d nL0 : Nat} {L : List (Option Value)} {v r : Int32} (X : CX F G cc own) (E : RI F G d (some .int) nL0 r S') (hd : decode cc pc = .ok (.ireturn, 1)) (hv : v = r) (hS' : S = S') : V F G S pc L [.int v] := by
  obtain ⟨p, e, R, s, m, args, below, meth, c, nL, kc, ks, Q⟩ := F
  obtain ⟨hx, hb, hml, hown, hts, hK, hN, hlk, hkc, hks⟩ := X
  intro H locs ls hP hD hS hl
  obtain ⟨hr, -, -, rfl, rfl, rfl⟩ := E
  exact W.iret (v := v) hx hb hr (fun t ht hW => ⟨⟨v, S, rfl, ⟨hv, hS'⟩, by rw [ht]; exact hP, va_K.moved hW.alike hK, hD, nw_warm hW hN⟩, hS.F ht⟩) hS.2.2 hd
theorem V_zret {F : Fx} {G : Cx} {cc : ByteArray} {own : String} {S S' : Sx} {pc d nL0 : Nat} {L : List (Option Value)} {v r : Int32} (X : CX F G cc own) (E : RI F G d (some .boolean) nL0 r S') (hd : decode cc pc = .ok (.ireturn, 1)) (h01 : v = 0 ∨ v = 1) (hv : v = r) (hS' : S = S') : V F G S pc L [.int v] := by
  obtain ⟨p, e, R, s, m, args, below, meth, c, nL, kc, ks, Q⟩ := F
  obtain ⟨hx, hb, hml, hown, hts, hK, hN, hlk, hkc, hks⟩ := X
  intro H locs ls hP hD hS hl
  obtain ⟨hr, -, -, rfl, rfl, rfl⟩ := E
  exact W.zret (v := v) hx hb hr (by rcases h01 with rfl | rfl <;> decide) (fun t ht hW => ⟨⟨v, S, rfl, ⟨hv, hS'⟩, by rw [ht]; exact hP, va_K.moved hW.alike hK, hD, nw_warm hW hN⟩, hS.F ht⟩) hS.2.2 hd
theorem V_vret {F : Fx} {G : Cx} {cc : ByteArray} {own : String} {S S' : Sx} {pc d nL0 : Nat} {L : List (Option Value)} (X : CX F G cc own) (E : RV F G d nL0 S') (hd : decode cc pc = .ok (.return_, 1)) (hS' : S = S') : V F G S pc L [] := by
  obtain ⟨p, e, R, s, m, args, below, meth, c, nL, kc, ks, Q⟩ := F
  obtain ⟨hx, hb, hml, hown, hts, hK, hN, hlk, hkc, hks⟩ := X
  intro H locs ls hP hD hS hl
  obtain ⟨hr, -, -, rfl, rfl, rfl⟩ := E
  exact W.vret hx hb hr (fun t ht hW => ⟨⟨S, rfl, hS', by rw [ht]; exact hP, va_K.moved hW.alike hK, hD, nw_warm hW hN⟩, hS.F ht⟩) hS.2.2 hd
theorem RI_R {F : Fx} {G : Cx} {d nL : Nat} {ret : Option FieldType} {r : Int32} {S' : Sx} (h : RI F G d ret nL r S') : fR F = rmD d ∧ fnL F = nL := by
  obtain ⟨p, e, R, s, m, args, below, meth, c, nL2, kc, ks, Q⟩ := F
  exact ⟨h.2.1, h.2.2.1⟩
theorem RV_R {F : Fx} {G : Cx} {d nL : Nat} {S' : Sx} (h : RV F G d nL S') : fR F = rmD d ∧ fnL F = nL := by
  obtain ⟨p, e, R, s, m, args, below, meth, c, nL2, kc, ks, Q⟩ := F
  exact ⟨h.2.1, h.2.2.1⟩
theorem rm_ok {F : Fx} {d d' nL mL : Nat} (h : fR F = rmD d ∧ fnL F = nL) (h1 : d' < d) (h2 : mL ≤ 21) : rmOk (fR F) d' mL := by
  rw [h.1]; exact ⟨h1, by show _ ≤ 40 * d; omega⟩
theorem V_imax {F : Fx} {G : Cx} {cc : ByteArray} {own : String} {S : Sx} {pc d nL0 : Nat} {L : List (Option Value)} {rest : List Value} {x y : Int32} {index : Nat} (X : CX F G cc own) (hRd : fR F = rmD d ∧ fnL F = nL0) (hd1 : 1 ≤ d) (hr8 : csum rest ≤ 8) (hw : Cond.methodLink own index Lib.Math.max.name ∈ gw ∧ Cond.static Lib.Math.max.name ∈ gw ∧ Cond.initialized "java/lang/Math" ∈ gw ∧ Cond.code Lib.Math.max.name Lib.Math.max.code 2 (some .int) ∈ gw) (hd : decode cc pc = .ok (.invokestatic index, 3)) (k : V F G S (pc + 3) L (.int (if x < y then y else x) :: rest)) : V F G S pc L (.int y :: .int x :: rest) := by
  obtain ⟨p, e, R, s, m, args, below, meth, c, nL, kc, ks, Q⟩ := F
  obtain ⟨hx, hb, hml, hown, hts, hK, hN, hlk, hkc, hks⟩ := X
  intro H locs ls hP hD hS hl
  obtain ⟨hR, hn⟩ := hRd
  have hR : R = rmD d := hR
  exact va_mmax hx hb (by rw [hml, hl.1]) hown (hts _ hw.1) (hts _ hw.2.1) (hts _ hw.2.2.1) (hts _ hw.2.2.2) (by rw [hR]; exact hd1) (by rw [hR]; have : (rest.map fun v => v.category).sum ≤ 8 := hr8; show _ ≤ 40 * d; omega) hkc hks hd (k H locs ls hP hD hS hl)

theorem V_ldcw {F : Fx} {G : Cx} {cc : ByteArray} {own : String} {S : Sx} {pc : Nat} {L : List (Option Value)} {sk : List Value} (X : CX F G cc own) {idx : Nat} {v : Int32} (hw : Cond.constant own idx v ∈ gw) (hd : decode cc pc = .ok (.ldc_w idx, 3)) (k : V F G S (pc + 3) L (.int v :: sk)) : V F G S pc L sk := by
  obtain ⟨p, e, R, s, m, args, below, meth, c, nL, kc, ks, Q⟩ := F
  obtain ⟨hx, hb, hml, hown, hts, hK, hN, hlk, hkc, hks⟩ := X
  intro H locs ls hP hD hS hl
  exact lv_ldcw hx hb hown (hts _ hw) hd (k H locs ls hP hD hS hl)
