/-! ===== from a list of cells to the world of numbers ===== -/
def gcw (G : Cx) (ad : Nat → Nat) (N : Nat) : Cx := (gl G, gD G, ad, gI G, gO G, gA G, N)
def fK (F : Fx) (k n : Nat) : Fx := match F with
  | (p, e, R, s, m, args, below, meth, c, nL, kc, ks, Q) => (p, e, R, s, m, args, below, meth, c, nL, k, n, Q)
theorem fK_R (F : Fx) (k n : Nat) : fR (fK F k n) = fR F := by
  obtain ⟨p, e, R, s, m, args, below, meth, c, nL, kc, ks, Q⟩ := F; rfl
theorem fK_L (F : Fx) (k n : Nat) : fnL (fK F k n) = fnL F := by
  obtain ⟨p, e, R, s, m, args, below, meth, c, nL, kc, ks, Q⟩ := F; rfl
theorem CX_K {F : Fx} {G : Cx} {cc : ByteArray} {own : String} {ad : Nat → Nat} {N k n : Nat} (X : CX F G cc own) (hk : k ≤ (fR F).cells) (hn : n ≤ (fR F).slots) : CX (fK F k n) (gcw G ad N) cc own := by
  obtain ⟨p, e, R, s, m, args, below, meth, c, nL, kc, ks, Q⟩ := F
  obtain ⟨hx, hb, hml, hown, hts, hK, hN, hlk, hkc, hks⟩ := X
  exact ⟨hx, hb, hml, hown, hts, hK, hN, hlk, hk, hn⟩
theorem U_toV {F : Fx} {G : Cx} {ad : Nat → Nat} {N : Nat} {ws : va_W} {k n pc : Nat} {L : List (Option Value)} {sk : List Value} {S : Sx} (hP : ∀ H, va_P (gD G) vwCl ws H → va_P (gD G) vwCl (cw (gcw G ad N) S) H) (hD : va_D (gA G) ws → va_D (gA G) (cw (gcw G ad N) S)) (kk : V (fK F k n) (gcw G ad N) S pc L sk) : UC F G ws k n pc L sk := by
  obtain ⟨p, e, R, s, m, args, below, meth, c, nL, kc, ks, Q⟩ := F
  intro H locs ls hP0 hD0 hS hl
  exact kk H locs ls (hP H hP0) (hD hD0) hS hl
theorem V_retC {F : Fx} {G : Cx} {cc : ByteArray} {own : String} {ad : Nat → Nat} {N d mc ms pc : Nat} {S : Sx} {L : List (Option Value)} {post : va_W → Prop} (X : CX F G cc own) (E : RC F G d mc ms post) (hd : decode cc pc = .ok (.return_, 1)) (hp : post (cw (gcw G ad N) S)) : V (fK F mc ms) (gcw G ad N) S pc L [] := by
  obtain ⟨p, e, R, s, m, args, below, meth, c, nL, kc, ks, Q⟩ := F
  obtain ⟨hx, hb, hml, hown, hts, hK, hN, hlk, hkc, hks⟩ := X
  intro H locs ls hP hD hS hl
  obtain ⟨hr, -, -, rfl⟩ := E
  exact W.vret hx hb hr (fun t ht hW => ⟨⟨cw (gcw G ad N) S, rfl, hp, by rw [ht]; exact hP, hD⟩, hS.F ht⟩) hS.2.2 hd
/-- what a cell of the list holds: as ce, but an outer array ends at fifteen -/
def ew (G : Cx) (S : Sx) (c : Nat) : va_E := match ds c with
  | .inl n => .inl (gI G, n, .inl (S c))
  | .inr (.inl o) => .inr (o.1, o.2.mapIdx (fun k f => fv G S c k f))
  | .inr (.inr b) => .inl (gO G, 15, .inr (.inr (.inr (.inr (fun i => if i < 15 then some (gad G b + i) else none)))))
def rowOk (k : Nat) : Bool := match ds k with
  | .inr (.inr b) => b == 20 || b == 35 || b == 50 || b == 65
  | _ => true
theorem rowOk_a : ∀ k, k < 88 → rowOk k = true := by decide +kernel
theorem ds_row {k b : Nat} (hk : k < 88) (h : ds k = .inr (.inr b)) : b = 20 ∨ b = 35 ∨ b = 50 ∨ b = 65 := by
  have := rowOk_a k hk
  unfold rowOk at this
  rw [h] at this
  simp at this
  omega
theorem cell_q {cA : ClassId} {n : Nat} {f g : Nat → Option Nat} (h : ∀ i, i < n → f i = g i) : vp_cell cA (n, .inr (.inr (.inr (.inr f)))) = vp_cell cA (n, .inr (.inr (.inr (.inr g)))) := by
  rw [vp_cell_q, vp_cell_q]
  unfold arrV
  congr 2
  funext j
  show va_rf (f j.val) = va_rf (g j.val)
  rw [h j.val j.isLt]
def rowG (G : Cx) : Prop := ∀ b, b = 20 ∨ b = 35 ∨ b = 50 ∨ b = 65 → ∀ i, i < 15 → gad G (b + i) = gad G b + i
theorem cv_at {G : Cx} {S : Sx} {k : Nat} {D : va_G} {cl : List vw_C} {H : Heap} (hk : k < 88) (hr : rowG G) (h : va_at D cl (gad G k, ew G S k) H) : va_at D cl (gad G k, ce G S k) H := by
  unfold ew at h
  cases hd : ds k with
  | inl n => rw [hd] at h; rw [ce_arr hd]; exact h
  | inr q =>
    cases q with
    | inl o => rw [hd] at h; rw [ce_obj hd]; exact h
    | inr b =>
      rw [hd] at h
      rw [ce_row hd]
      have e : vp_cell (gO G) (15, .inr (.inr (.inr (.inr (fun i => if i < 15 then some (gad G b + i) else none))))) = vp_cell (gO G) (15, .inr (.inr (.inr (.inr (fun i => some (gad G (b + i))))))) := cell_q (fun i hi => by
        rw [if_pos hi, hr b (ds_row hk hd) i hi])
      show H[gad G k]? = some (vp_cell (gO G) (15, .inr (.inr (.inr (.inr (fun i => some (gad G (b + i))))))))
      rw [← e]; exact h
def pi8 (c : Nat) : Nat := if c < 6 then c else if c < 14 then c + 15 else if c = 14 then 29 else if c = 15 then 30 else if c = 16 then 46 else if c = 17 then 62 else if c < 20 then c + 60 else if c < 35 then c - 14 else if c < 50 then c - 4 else if c < 65 then c - 3 else c - 2
def rh8 (j : Nat) : Nat := if j < 6 then j else if j < 21 then j + 14 else if j < 29 then j - 15 else if j = 29 then 14 else if j = 30 then 15 else if j < 46 then j + 4 else if j = 46 then 16 else if j < 62 then j + 3 else if j = 62 then 17 else if j < 78 then j + 2 else j - 60
theorem pi_ok : ∀ c, c < 80 → pi8 c < 80 ∧ rh8 (pi8 c) = c := by decide +kernel
def ls8 (G : Cx) (S : Sx) : va_W := (List.range 80).map (fun j => (gad G (rh8 j), ew G S (rh8 j)))
theorem ls8_at {G : Cx} {S : Sx} {k : Nat} (hk : k < 80) : (ls8 G S)[pi8 k]? = some (gad G k, ew G S k) := by
  unfold ls8
  rw [List.getElem?_map, List.getElem?_range (pi_ok k hk).1]
  show some (gad G (rh8 (pi8 k)), ew G S (rh8 (pi8 k))) = _
  rw [(pi_ok k hk).2]
theorem cw_get {G : Cx} {S : Sx} {k : Nat} {q : Nat × va_E} (h : (cw G S)[k]? = some q) : k < gN G ∧ q = (gad G k, ce G S k) := by
  have hk : k < gN G := by
    have := (List.getElem?_eq_some_iff.mp h).1
    unfold cw at this; simpa using this
  rw [cw_at hk] at h
  exact ⟨hk, (Option.some.inj h).symm⟩
theorem ls8_P {G : Cx} {S : Sx} {D : va_G} {cl : List vw_C} {H : Heap} (hN : gN G = 80) (hr : rowG G) (h : va_P D cl (ls8 G S) H) : va_P D cl (cw G S) H := by
  intro k q hq
  obtain ⟨hk, rfl⟩ := cw_get hq
  exact cv_at (by omega) hr (h (pi8 k) _ (ls8_at (by omega)))
theorem ls8_D {G : Cx} {S : Sx} {A : Nat → Prop} (hN : gN G = 80) (h : va_D A (ls8 G S)) : va_D A (cw G S) := by
  refine ⟨fun i j p q hi hj e => ?_, fun k q hq => ?_⟩
  · obtain ⟨h1, rfl⟩ := cw_get hi
    obtain ⟨h2, rfl⟩ := cw_get hj
    have := h.1 (pi8 i) (pi8 j) _ _ (ls8_at (by omega)) (ls8_at (by omega)) e
    have e1 := (pi_ok i (by omega)).2
    have e2 := (pi_ok j (by omega)).2
    rw [this] at e1; omega
  · obtain ⟨h1, rfl⟩ := cw_get hq
    exact h.2 (pi8 k) (gad G k, ew G S k) (ls8_at (by omega))
/-- the class's ints as its constructor makes them, ahead of the answers -/
def S0c : Sx := fun c => if c = 6 then upd (fun _ => 0) 0 (nI 1) else fun _ => 0
def SAc : Sx := clF (faS S0c 0 1) 0 36
def ad80 (l : List Nat) (aR aA aL aK c : Nat) : Nat := if c < 20 then l.getD c 0 else if c < 35 then aR + 1 + (c - 20) else if c < 50 then aA + 1 + (c - 35) else if c < 65 then aL + 1 + (c - 50) else aK + 1 + (c - 65)
theorem ad80_r (l : List Nat) (aR aA aL aK : Nat) : ∀ b, b = 20 ∨ b = 35 ∨ b = 50 ∨ b = 65 → ∀ i, i < 15 → ad80 l aR aA aL aK (b + i) = ad80 l aR aA aL aK b + i := by
  intro b hb i hi
  unfold ad80
  rcases hb with rfl | rfl | rfl | rfl
  · rw [if_neg (by omega), if_pos (by omega), if_neg (by omega), if_pos (by omega)]; omega
  · rw [if_neg (by omega), if_neg (by omega), if_pos (by omega), if_neg (by omega), if_neg (by omega), if_pos (by omega)]; omega
  · rw [if_neg (by omega), if_neg (by omega), if_neg (by omega), if_pos (by omega), if_neg (by omega), if_neg (by omega), if_neg (by omega), if_pos (by omega)]; omega
  · rw [if_neg (by omega), if_neg (by omega), if_neg (by omega), if_neg (by omega), if_neg (by omega), if_neg (by omega), if_neg (by omega), if_neg (by omega)]; omega
set_option maxRecDepth 100000 in
set_option maxHeartbeats 8000000 in
theorem wl80 {G : Cx} {h0 q0 t0 t1 q1 w0 w1 q2 p0 p1 p2 p3 p4 p5 q3 f0 f1 f2 q4 c0 : Nat} : (h0, .inr (5, [.ref q0, .ref q1, .ref q2, .ref q3, .ref q4])) :: (((q0, .inr (2, [.ref t0, .ref t1, .int 0, .int 0])) :: ([(t0, zI G 70)] ++ [(t1, zI G 28)])) ++ ((q1, .inr (3, [.ref w0, .ref w1])) :: (mrow (gI G) (gO G) w0 64 ++ [(w1, .inl (gI G, 15, .inl (upd (fun _ => 0) 0 (nI 1))))])) ++ ((q2, .inr (4, [.ref p0, .ref p1, .ref p2, .ref p3, .ref p4, .ref p5])) :: ([(p0, zI G 8)] ++ [(p1, zI G 8)] ++ [(p2, zI G 10)] ++ [(p3, zI G 10)] ++ [(p4, zI G 10)] ++ [(p5, zI G 10)])) ++ ((q3, .inr (1, [.ref f0, .ref f1, .ref f2])) :: (mrow (gI G) (gO G) f0 36 ++ mrow (gI G) (gO G) f1 36 ++ mrow (gI G) (gO G) f2 36)) ++ ((q4, .inr (0, [.ref c0, .int 0, .int 0])) :: ([(c0, zI G 36)]))) = ls8 (gcw G (ad80 [h0, q0, t0, t1, q1, w0, w1, q2, p0, p1, p2, p3, p4, p5, q3, f0, f1, f2, q4, c0] w0 f0 f1 f2) 80) S0c := by rfl
set_option maxRecDepth 100000 in
set_option maxHeartbeats 8000000 in
theorem iX5 {G : Cx} {h0 sz : Nat} : IC G 6 79 2863 yX5_init cX5_init h0 sz 5 [.null, .null, .null, .null, .null] (fun ws => ∃ ad : Nat → Nat, ad 0 = h0 ∧ rowG (gcw G ad 80) ∧ ws = cw (gcw G ad 80) SAc) := by
  refine IC_of (by decide) rfl (fun F X hA hM E => ?_)
  have hR := RC_R E
  refine U_aload_n X dX5_init_0 rfl ?_
  refine U_obj X oiX5 (by rw [hR.1]; decide) (by rw [hR.1]; decide) dX5_init_1 ?_
  refine U_aload_n X dX5_init_4 rfl ?_
  refine U_new X hA nwX5_9 (by rw [hR.1]; decide) (by rw [hR.1]; decide) dX5_init_5 (fun q0 => ?_)
  refine U_dup X dX5_init_8 ?_
  refine U_callN X hA rfl (fun sz => iX2 (sz := sz)) ciX5_11 (by rw [hR.1]; decide) (by rw [hR.1]; decide) (Nat.le_of_ble_eq_true rfl) (by rw [hR.1]; decide) (by rw [hR.1]; decide) dX5_init_9 (fun wz hwz => ?_)
  obtain ⟨t0, t1, rfl⟩ := hwz
  refine U_ws (ws' := (h0, .inr (5, [.null, .null, .null, .null, .null])) :: (((q0, .inr (2, [.ref t0, .ref t1, .int 0, .int 0])) :: ([(t0, zI G 70)] ++ [(t1, zI G 28)])))) rfl ?_
  refine U_putF X hM ffX5_12 (Nat.le_of_ble_eq_true rfl) dX5_init_12 ?_
  refine U_ws (ws' := (h0, .inr (5, [.ref q0, .null, .null, .null, .null])) :: (((q0, .inr (2, [.ref t0, .ref t1, .int 0, .int 0])) :: ([(t0, zI G 70)] ++ [(t1, zI G 28)])))) rfl ?_
  refine U_aload_n X dX5_init_15 rfl ?_
  refine U_new X hA nwX5_16 (by rw [hR.1]; decide) (by rw [hR.1]; decide) dX5_init_16 (fun q1 => ?_)
  refine U_dup X dX5_init_19 ?_
  refine U_call X hA rfl (fun sz => iX3 (sz := sz)) ciX5_18 (by rw [hR.1]; decide) (by rw [hR.1]; decide) (Nat.le_of_ble_eq_true rfl) (by rw [hR.1]; decide) (by rw [hR.1]; decide) dX5_init_20 (fun wz hwz => ?_)
  obtain ⟨w0, w1, rfl⟩ := hwz
  refine U_ws (ws' := (h0, .inr (5, [.ref q0, .null, .null, .null, .null])) :: (((q0, .inr (2, [.ref t0, .ref t1, .int 0, .int 0])) :: ([(t0, zI G 70)] ++ [(t1, zI G 28)])) ++ ((q1, .inr (3, [.ref w0, .ref w1])) :: (mrow (gI G) (gO G) w0 64 ++ [(w1, .inl (gI G, 15, .inl (upd (fun _ => 0) 0 (nI 1))))])))) rfl ?_
  refine U_putF X hM ffX5_19 (Nat.le_of_ble_eq_true rfl) dX5_init_23 ?_
  refine U_ws (ws' := (h0, .inr (5, [.ref q0, .ref q1, .null, .null, .null])) :: (((q0, .inr (2, [.ref t0, .ref t1, .int 0, .int 0])) :: ([(t0, zI G 70)] ++ [(t1, zI G 28)])) ++ ((q1, .inr (3, [.ref w0, .ref w1])) :: (mrow (gI G) (gO G) w0 64 ++ [(w1, .inl (gI G, 15, .inl (upd (fun _ => 0) 0 (nI 1))))])))) rfl ?_
  refine U_aload_n X dX5_init_26 rfl ?_
  refine U_new X hA nwX5_23 (by rw [hR.1]; decide) (by rw [hR.1]; decide) dX5_init_27 (fun q2 => ?_)
  refine U_dup X dX5_init_30 ?_
  refine U_callN X hA rfl (fun sz => iX4 (sz := sz)) ciX5_25 (by rw [hR.1]; decide) (by rw [hR.1]; decide) (Nat.le_of_ble_eq_true rfl) (by rw [hR.1]; decide) (by rw [hR.1]; decide) dX5_init_31 (fun wz hwz => ?_)
  obtain ⟨p0, p1, p2, p3, p4, p5, rfl⟩ := hwz
  refine U_ws (ws' := (h0, .inr (5, [.ref q0, .ref q1, .null, .null, .null])) :: (((q0, .inr (2, [.ref t0, .ref t1, .int 0, .int 0])) :: ([(t0, zI G 70)] ++ [(t1, zI G 28)])) ++ ((q1, .inr (3, [.ref w0, .ref w1])) :: (mrow (gI G) (gO G) w0 64 ++ [(w1, .inl (gI G, 15, .inl (upd (fun _ => 0) 0 (nI 1))))])) ++ ((q2, .inr (4, [.ref p0, .ref p1, .ref p2, .ref p3, .ref p4, .ref p5])) :: ([(p0, zI G 8)] ++ [(p1, zI G 8)] ++ [(p2, zI G 10)] ++ [(p3, zI G 10)] ++ [(p4, zI G 10)] ++ [(p5, zI G 10)])))) rfl ?_
  refine U_putF X hM ffX5_26 (Nat.le_of_ble_eq_true rfl) dX5_init_34 ?_
  refine U_ws (ws' := (h0, .inr (5, [.ref q0, .ref q1, .ref q2, .null, .null])) :: (((q0, .inr (2, [.ref t0, .ref t1, .int 0, .int 0])) :: ([(t0, zI G 70)] ++ [(t1, zI G 28)])) ++ ((q1, .inr (3, [.ref w0, .ref w1])) :: (mrow (gI G) (gO G) w0 64 ++ [(w1, .inl (gI G, 15, .inl (upd (fun _ => 0) 0 (nI 1))))])) ++ ((q2, .inr (4, [.ref p0, .ref p1, .ref p2, .ref p3, .ref p4, .ref p5])) :: ([(p0, zI G 8)] ++ [(p1, zI G 8)] ++ [(p2, zI G 10)] ++ [(p3, zI G 10)] ++ [(p4, zI G 10)] ++ [(p5, zI G 10)])))) rfl ?_
  refine U_aload_n X dX5_init_37 rfl ?_
  refine U_new X hA nwX5_30 (by rw [hR.1]; decide) (by rw [hR.1]; decide) dX5_init_38 (fun q3 => ?_)
  refine U_dup X dX5_init_41 ?_
  refine U_callN X hA rfl (fun sz => iX1 (sz := sz)) ciX5_32 (by rw [hR.1]; decide) (by rw [hR.1]; decide) (Nat.le_of_ble_eq_true rfl) (by rw [hR.1]; decide) (by rw [hR.1]; decide) dX5_init_42 (fun wz hwz => ?_)
  obtain ⟨f0, f1, f2, rfl⟩ := hwz
  refine U_ws (ws' := (h0, .inr (5, [.ref q0, .ref q1, .ref q2, .null, .null])) :: (((q0, .inr (2, [.ref t0, .ref t1, .int 0, .int 0])) :: ([(t0, zI G 70)] ++ [(t1, zI G 28)])) ++ ((q1, .inr (3, [.ref w0, .ref w1])) :: (mrow (gI G) (gO G) w0 64 ++ [(w1, .inl (gI G, 15, .inl (upd (fun _ => 0) 0 (nI 1))))])) ++ ((q2, .inr (4, [.ref p0, .ref p1, .ref p2, .ref p3, .ref p4, .ref p5])) :: ([(p0, zI G 8)] ++ [(p1, zI G 8)] ++ [(p2, zI G 10)] ++ [(p3, zI G 10)] ++ [(p4, zI G 10)] ++ [(p5, zI G 10)])) ++ ((q3, .inr (1, [.ref f0, .ref f1, .ref f2])) :: (mrow (gI G) (gO G) f0 36 ++ mrow (gI G) (gO G) f1 36 ++ mrow (gI G) (gO G) f2 36)))) rfl ?_
  refine U_putF X hM ffX5_33 (Nat.le_of_ble_eq_true rfl) dX5_init_45 ?_
  refine U_ws (ws' := (h0, .inr (5, [.ref q0, .ref q1, .ref q2, .ref q3, .null])) :: (((q0, .inr (2, [.ref t0, .ref t1, .int 0, .int 0])) :: ([(t0, zI G 70)] ++ [(t1, zI G 28)])) ++ ((q1, .inr (3, [.ref w0, .ref w1])) :: (mrow (gI G) (gO G) w0 64 ++ [(w1, .inl (gI G, 15, .inl (upd (fun _ => 0) 0 (nI 1))))])) ++ ((q2, .inr (4, [.ref p0, .ref p1, .ref p2, .ref p3, .ref p4, .ref p5])) :: ([(p0, zI G 8)] ++ [(p1, zI G 8)] ++ [(p2, zI G 10)] ++ [(p3, zI G 10)] ++ [(p4, zI G 10)] ++ [(p5, zI G 10)])) ++ ((q3, .inr (1, [.ref f0, .ref f1, .ref f2])) :: (mrow (gI G) (gO G) f0 36 ++ mrow (gI G) (gO G) f1 36 ++ mrow (gI G) (gO G) f2 36)))) rfl ?_
  refine U_aload_n X dX5_init_48 rfl ?_
  refine U_new X hA nwX5_37 (by rw [hR.1]; decide) (by rw [hR.1]; decide) dX5_init_49 (fun q4 => ?_)
  refine U_dup X dX5_init_52 ?_
  refine U_callN X hA rfl (fun sz => iX0 (sz := sz)) ciX5_39 (by rw [hR.1]; decide) (by rw [hR.1]; decide) (Nat.le_of_ble_eq_true rfl) (by rw [hR.1]; decide) (by rw [hR.1]; decide) dX5_init_53 (fun wz hwz => ?_)
  obtain ⟨c0, rfl⟩ := hwz
  refine U_ws (ws' := (h0, .inr (5, [.ref q0, .ref q1, .ref q2, .ref q3, .null])) :: (((q0, .inr (2, [.ref t0, .ref t1, .int 0, .int 0])) :: ([(t0, zI G 70)] ++ [(t1, zI G 28)])) ++ ((q1, .inr (3, [.ref w0, .ref w1])) :: (mrow (gI G) (gO G) w0 64 ++ [(w1, .inl (gI G, 15, .inl (upd (fun _ => 0) 0 (nI 1))))])) ++ ((q2, .inr (4, [.ref p0, .ref p1, .ref p2, .ref p3, .ref p4, .ref p5])) :: ([(p0, zI G 8)] ++ [(p1, zI G 8)] ++ [(p2, zI G 10)] ++ [(p3, zI G 10)] ++ [(p4, zI G 10)] ++ [(p5, zI G 10)])) ++ ((q3, .inr (1, [.ref f0, .ref f1, .ref f2])) :: (mrow (gI G) (gO G) f0 36 ++ mrow (gI G) (gO G) f1 36 ++ mrow (gI G) (gO G) f2 36)) ++ ((q4, .inr (0, [.ref c0, .int 0, .int 0])) :: ([(c0, zI G 36)])))) rfl ?_
  refine U_putF X hM ffX5_40 (Nat.le_of_ble_eq_true rfl) dX5_init_56 ?_
  refine U_ws (ws' := (h0, .inr (5, [.ref q0, .ref q1, .ref q2, .ref q3, .ref q4])) :: (((q0, .inr (2, [.ref t0, .ref t1, .int 0, .int 0])) :: ([(t0, zI G 70)] ++ [(t1, zI G 28)])) ++ ((q1, .inr (3, [.ref w0, .ref w1])) :: (mrow (gI G) (gO G) w0 64 ++ [(w1, .inl (gI G, 15, .inl (upd (fun _ => 0) 0 (nI 1))))])) ++ ((q2, .inr (4, [.ref p0, .ref p1, .ref p2, .ref p3, .ref p4, .ref p5])) :: ([(p0, zI G 8)] ++ [(p1, zI G 8)] ++ [(p2, zI G 10)] ++ [(p3, zI G 10)] ++ [(p4, zI G 10)] ++ [(p5, zI G 10)])) ++ ((q3, .inr (1, [.ref f0, .ref f1, .ref f2])) :: (mrow (gI G) (gO G) f0 36 ++ mrow (gI G) (gO G) f1 36 ++ mrow (gI G) (gO G) f2 36)) ++ ((q4, .inr (0, [.ref c0, .int 0, .int 0])) :: ([(c0, zI G 36)])))) rfl ?_
  refine U_aload_n X dX5_init_59 rfl ?_
  refine U_iconst X (nI 0) dX5_init_60 (by decide) ?_
  refine U_kn (k2 := 79) (n2 := 2863) rfl rfl ?_
  refine U_toV (ad := (ad80 [h0, q0, t0, t1, q1, w0, w1, q2, p0, p1, p2, p3, p4, p5, q3, f0, f1, f2, q4, c0] w0 f0 f1 f2)) (N := 80) (S := S0c) (fun H h => ls8_P rfl (ad80_r _ _ _ _ _) (by rw [← wl80]; exact h)) (fun h => ls8_D rfl (by rw [← wl80]; exact h)) ?_
  have X2 := CX_K (ad := (ad80 [h0, q0, t0, t1, q1, w0, w1, q2, p0, p1, p2, p3, p4, p5, q3, f0, f1, f2, q4, c0] w0 f0 f1 f2)) (N := 80) (k := 79) (n := 2863) X (by rw [hR.1]; decide) (by rw [hR.1]; decide)
  refine V_cvv X2 (show 0 < 80 by decide) rfl rfl rfl (kX5_findAnswers (G := gcw (gset G (vA h0 sz 5 [.null, .null, .null, .null, .null])) (ad80 [h0, q0, t0, t1, q1, w0, w1, q2, p0, p1, p2, p3, p4, p5, q3, f0, f1, f2, q4, c0] w0 f0 f1 f2) 80) (S := S0c) (k := 0) (z := 1) (show 80 ≤ 80 from Nat.le_refl _) (by decide) rfl (by decide) (fun s hs => absurd hs (by omega))) cwX5_44 rfl (by rw [fK_R, hR.1]; exact ⟨by decide, by decide⟩) (Nat.le_of_ble_eq_true rfl) dX5_init_61 ?_
  exact V_retC X E dX5_init_64 ⟨(ad80 [h0, q0, t0, t1, q1, w0, w1, q2, p0, p1, p2, p3, p4, p5, q3, f0, f1, f2, q4, c0] w0 f0 f1 f2), rfl, ad80_r _ _ _ _ _, rfl⟩
