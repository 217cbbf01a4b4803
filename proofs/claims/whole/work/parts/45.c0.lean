/-! ===== new int[15][K]: the outer array, and fifteen rows behind it ===== -/
theorem mo_out (c : ClassId) (N h0 : Nat) : ∀ i : Nat, Jvm.Free.Multi.outerC c N h0 i = arrV c N (fun j => va_rf (if j < i then some (h0 + 1 + j) else none))
  | 0 => by
    show ({ cls := c, slots := Array.replicate N .null, vm := .none } : Cell) = _
    rw [arrV_new]
    refine congrArg (arrV c N) (funext fun j => ?_)
    simp [va_rf]
  | i + 1 => by
    show (Jvm.Free.Multi.outerC c N h0 i).setSlot i (.ref (h0 + 1 + i)) = _
    rw [mo_out c N h0 i, arrV_store]
    refine congrArg (arrV c N) (funext fun j => ?_)
    by_cases e : j = i
    · subst e
      simp [updV, va_rf]
    · by_cases h : j < i
      · simp [updV, e, h, Nat.lt_succ_of_lt h]
      · simp [updV, e, h, show ¬ j < i + 1 by omega]
def mrow (cI cO : ClassId) (a K : Nat) : va_W := (a, .inl (cO, 15, .inr (.inr (.inr (.inr (fun i => if i < 15 then some (a + 1 + i) else none)))))) :: (List.range 15).map (fun i => (a + 1 + i, .inl (cI, K, .inl (fun _ => 0))))
theorem mrow_at {cI cO : ClassId} {a K k : Nat} {x : Nat × va_E} (h : (mrow cI cO a K)[k]? = some x) : x.1 = a + k ∧ k < 16 := by
  unfold mrow at h
  cases k with
  | zero => rw [List.getElem?_cons_zero] at h; cases h; exact ⟨rfl, by decide⟩
  | succ k =>
    rw [List.getElem?_cons_succ, List.getElem?_map] at h
    by_cases h9 : k < 15
    · rw [List.getElem?_range h9] at h
      cases h
      exact ⟨by show a + 1 + k = a + (k + 1); omega, by omega⟩
    · have hn0 : (List.range 15)[k]? = none := List.getElem?_eq_none (by rw [List.length_range]; omega)
      rw [hn0] at h; cases h
section
variable {p : Program} {l : Launch} {e : Env} {R : Room} {s : State} {m : MethodId} {args : Array Value} {below : List Frame} {meth : Method} {c : Code} {H : Heap} {locs : List Loc} {cells slots : Nat} {Q : State → Prop}
variable {cc : ByteArray} {pc : Nat} {ls : Array Slot} {rest : List Value} {D : va_G} {cl : List vw_C} {A : Nat → Prop} {ws : va_W} {H0 : Heap}
theorem mn_row (hexec : p.tables.exec = Jvm.exec) (hb : c.code = cc) {own : String} {index : Nat} {cI cO : ClassId} (hown : s.vm.findClass own = some m.cls) (hclink : (Cond.classLink own index "[[I").before args s = true) (hover : (Cond.arrayOver (.array .int)).before args s = true) (harr : (Cond.arrayClass .int).before args s = true) (hI : s.vm.findClass "[I" = some cI) (hO : s.vm.findClass "[[I" = some cO)
    (hP : va_P D cl ws H) (hD : va_D A ws) (hS : va_S A H0 H locs) (hA : ∀ q, H0.size ≤ q → A q) {K : Nat} (hK : K ≤ 1000) (hcells : cells + 16 ≤ R.cells) (hslots : slots + (15 + 15 * K) ≤ R.slots) (hdg : decode cc pc = .ok (.multianewarray index 2, 4))
    (kk : ∀ (H1 : Heap) (a : Nat), va_P D cl (ws ++ mrow cI cO a K) H1 → va_D A (ws ++ mrow cI cO a K) → va_S A H0 H1 locs → W p l e R s m args below meth c H1 locs (cells + 1 + 15) (slots + 15 + 15 * K) Q (F0 m (pc + 4) ls (.ref a :: rest))) : W p l e R s m args below meth c H locs cells slots Q (F0 m pc ls (.int (nI K) :: .int (nI 15) :: rest)) := by
  intro T hT Xs
  have e15 : (nI 15).toNatClampNeg = 15 := nI_clamp (by decide)
  have eK : (nI K).toNatClampNeg = K := nI_clamp (by omega)
  have es : "[" ++ (FieldType.array .int).toString = "[[I" := by decide
  have es2 : (FieldType.array .int).toString = "[I" := by decide
  obtain ⟨vm₁, cA, comp, -, fA, fC, -, -, X', step⟩ := Jvm.Stand.multianewarray2F Xs hexec hown (ty := .int) (by rw [es]; exact hclink) hover harr (g := F0 m pc ls (.int (nI K) :: .int (nI 15) :: rest)) rfl (by rw [hb]; exact hdg) rfl (by rw [i_lt, t_k 15 (by decide), t_0]; omega) (by rw [i_lt, t_k K (by omega), t_0]; omega) (by rw [e15]; decide) (by rw [eK]; show K * 4 ≤ _; omega) (by rw [eK]; omega) rfl rfl (by rw [e15]; omega) (by rw [e15, eK]; exact hslots)
  rw [es] at fA
  rw [es2] at fC
  have ec : comp = cI := Option.some.inj (fC.symm.trans hI)
  have eo : cA = cO := Option.some.inj (fA.symm.trans hO)
  subst ec eo
  rw [e15, eK] at X' step
  generalize hF : Jvm.Free.Multi.fill (T.setVm vm₁) cA comp 15 K (defaultValue .int) 15 = F at X' step
  have hTh : (T.setVm vm₁).heap = H := hT
  obtain ⟨f1, f2, -, -⟩ := Jvm.Free.Multi.fill_facts (T.setVm vm₁) cA comp 15 K (defaultValue .int) 15
  rw [hF, hTh] at f1 f2
  have hold : ∀ x : Nat, x < H.size → F.heap[x]? = H[x]? := fun x hx => by
    have := Jvm.Free.Multi.fill_old (T.setVm vm₁) cA comp 15 K (defaultValue .int) (a := x) (by rw [hTh]; exact hx) 15
    rw [hF, hTh] at this
    exact this
  have hrow : ∀ j : Nat, j < 15 → F.heap[H.size + 1 + j]? = some (vp_cell comp (K, .inl (fun _ => 0))) := fun j hj => by
    have := Jvm.Free.Multi.fill_inner (T.setVm vm₁) cA comp 15 K (defaultValue .int) 15 j hj
    rw [hF, hTh] at this
    rw [this, vp_cell_i]
    show some ({ cls := comp, slots := Array.replicate K (.int 0), vm := .none } : Cell) = _
    rw [arrV_new]
  have hout : Jvm.Free.Multi.outerC cA 15 H.size 15 = vp_cell cA (15, .inr (.inr (.inr (.inr (fun i => if i < 15 then some (H.size + 1 + i) else none))))) := by
    rw [vp_cell_q]
    exact mo_out cA 15 H.size 15
  rw [hout] at f2
  have hP1 : va_P D cl (ws ++ mrow comp cA H.size K) F.heap := (hP.kept (fun k9 x hx => hold x.1 ((hP k9 x hx).lt))).app (fun k9 x hx => by
    unfold mrow at hx
    cases k9 with
    | zero => rw [List.getElem?_cons_zero] at hx; cases hx; exact f2
    | succ k9 =>
      rw [List.getElem?_cons_succ] at hx
      obtain ⟨i, hi, rfl⟩ := List.mem_map.mp (List.mem_of_getElem? hx)
      exact hrow i (List.mem_range.mp hi))
  have hD1 : va_D A (ws ++ mrow comp cA H.size K) := hD.app ⟨fun i j x y hi hj hxy => by
      have a1 := mrow_at hi
      have a2 := mrow_at hj
      omega, fun k9 x hx => by
      have a1 := mrow_at hx
      exact hA _ (by have := hS.1; omega)⟩ (fun i j x y hi hj => by
      have a1 := (hP i x hi).lt
      have a2 := mrow_at hj
      omega)
  obtain ⟨t, a1, b1⟩ := kk F.heap H.size hP1 hD1 ⟨by rw [f1]; have := hS.1; omega, fun x h1 h2 => (hold x (Nat.lt_of_lt_of_le h1 hS.1)).trans (hS.2.1 x h1 h2), hS.2.2⟩ F rfl X'
  refine ⟨t, step t ?_, b1⟩
  have e9 : T.heap.size = H.size := by rw [hT]
  rw [e9]
  exact a1
end
