/-! ===== both objects in one world ===== -/
def ad88 (ad : Nat → Nat) (l : List Nat) (c : Nat) : Nat := if c < 80 then ad c else l.getD (c - 80) 0
def SLc : Sx := fun c => if c < 80 then SAc c else fun _ => 0
def refOk (k : Nat) : Bool := match ds k with
  | .inr (.inl o) => o.2.all (fun f => match f with | some q => decide (q < 80) | none => true)
  | .inr (.inr b) => decide (b + 15 ≤ 80)
  | _ => true
theorem refOk_a : ∀ k, k < 80 → refOk k = true := by decide +kernel
theorem mapIdx_eq {α β : Type} {f g : Nat → α → β} {l : List α} (h : ∀ (i : Nat) (x : α), l[i]? = some x → f i x = g i x) : l.mapIdx f = l.mapIdx g := by
  apply List.ext_getElem?
  intro i
  rw [List.getElem?_mapIdx, List.getElem?_mapIdx]
  cases e : l[i]? with
  | none => rfl
  | some x => show some (f i x) = some (g i x); rw [h i x e]
theorem cv2 {G1 G2 : Cx} {S1 S2 : Sx} {k : Nat} {D : va_G} {cl : List vw_C} {H : Heap} (hk : k < 80) (hI : gI G2 = gI G1) (hO : gO G2 = gO G1) (ha : ∀ c, c < 80 → gad G2 c = gad G1 c) (hS : S2 k = S1 k) (h : va_at D cl (gad G1 k, ce G1 S1 k) H) : va_at D cl (gad G2 k, ce G2 S2 k) H := by
  have hr := refOk_a k hk
  unfold refOk at hr
  rw [ha k hk]
  cases hd : ds k with
  | inl n => rw [ce_arr hd] at h ⊢; rw [hI, hS]; exact h
  | inr q =>
    cases q with
    | inl o =>
      rw [hd] at hr
      rw [ce_obj hd] at h ⊢
      have e : o.2.mapIdx (fun i f => fv G2 S2 k i f) = o.2.mapIdx (fun i f => fv G1 S1 k i f) := mapIdx_eq (fun i x hx => by
        have hm := List.all_eq_true.mp hr x (List.mem_of_getElem? hx)
        cases x with
        | none => show Value.int (S2 k i) = Value.int (S1 k i); rw [hS]
        | some q =>
          have hq : q < 80 := of_decide_eq_true hm
          show Value.ref (gad G2 q) = Value.ref (gad G1 q)
          rw [ha q hq])
      rw [e]; exact h
    | inr b =>
      rw [hd] at hr
      have hb : b + 15 ≤ 80 := of_decide_eq_true hr
      rw [ce_row hd] at h ⊢
      have e : vp_cell (gO G2) (15, .inr (.inr (.inr (.inr (fun i => some (gad G2 (b + i))))))) = vp_cell (gO G1) (15, .inr (.inr (.inr (.inr (fun i => some (gad G1 (b + i))))))) := by
        rw [hO]; exact cell_q (fun i hi => by rw [ha (b + i) (by omega)])
      show H[gad G1 k]? = some (vp_cell (gO G2) (15, .inr (.inr (.inr (.inr (fun i => some (gad G2 (b + i))))))))
      rw [e]; exact h
def ls9 (G : Cx) (S : Sx) : va_W := (List.range 8).map (fun j => (gad G (80 + j), ew G S (80 + j)))
theorem ls9_at {G : Cx} {S : Sx} {k : Nat} (h1 : 80 ≤ k) (hk : k < 88) : (ls9 G S)[k - 80]? = some (gad G k, ew G S k) := by
  unfold ls9
  rw [List.getElem?_map, List.getElem?_range (by omega)]
  show some (gad G (80 + (k - 80)), ew G S (80 + (k - 80))) = _
  rw [show 80 + (k - 80) = k by omega]
theorem cw_len (G : Cx) (S : Sx) : (cw G S).length = gN G := by unfold cw; simp
theorem two_P {G : Cx} {ad : Nat → Nat} {l : List Nat} {D : va_G} {cl : List vw_C} {H : Heap} (hr : rowG (gcw G ad 80)) (h : va_P D cl (cw (gcw G ad 80) SAc ++ ls9 (gcw G (ad88 ad l) 88) SLc) H) : va_P D cl (cw (gcw G (ad88 ad l) 88) SLc) H := by
  have hl : (cw (gcw G ad 80) SAc).length = 80 := cw_len _ _
  have hr' : rowG (gcw G (ad88 ad l) 88) := fun b hb i hi => by
    show ad88 ad l (b + i) = ad88 ad l b + i
    unfold ad88
    rw [if_pos (by omega), if_pos (by omega)]
    exact hr b hb i hi
  intro k q hq
  obtain ⟨hk, rfl⟩ := cw_get hq
  have hk : k < 88 := hk
  by_cases e : k < 80
  · refine cv2 (G1 := gcw G ad 80) (S1 := SAc) e rfl rfl (fun c hc => if_pos hc) (if_pos e) ?_
    exact h k _ (by rw [List.getElem?_append_left (by omega)]; exact cw_at (show k < 80 from e))
  · refine cv_at hk hr' ?_
    exact h k _ (by rw [List.getElem?_append_right (by omega), hl]; exact ls9_at (by omega) hk)
theorem two_D {G : Cx} {ad : Nat → Nat} {l : List Nat} {A : Nat → Prop} (h : va_D A (cw (gcw G ad 80) SAc ++ ls9 (gcw G (ad88 ad l) 88) SLc)) : va_D A (cw (gcw G (ad88 ad l) 88) SLc) := by
  have hl : (cw (gcw G ad 80) SAc).length = 80 := cw_len _ _
  have key : ∀ k, k < 88 → ∃ e : va_E, (cw (gcw G ad 80) SAc ++ ls9 (gcw G (ad88 ad l) 88) SLc)[k]? = some (ad88 ad l k, e) := fun k hk => by
    by_cases e : k < 80
    · refine ⟨ce (gcw G ad 80) SAc k, ?_⟩
      rw [List.getElem?_append_left (by omega), cw_at (show k < 80 from e)]
      unfold ad88; rw [if_pos e]; rfl
    · exact ⟨_, by rw [List.getElem?_append_right (by omega), hl]; exact ls9_at (by omega) hk⟩
  refine ⟨fun i j p q hi hj e => ?_, fun k q hq => ?_⟩
  · obtain ⟨h1, rfl⟩ := cw_get hi
    obtain ⟨h2, rfl⟩ := cw_get hj
    obtain ⟨e1, k1⟩ := key i h1
    obtain ⟨e2, k2⟩ := key j h2
    exact h.1 i j _ _ k1 k2 e
  · obtain ⟨h1, rfl⟩ := cw_get hq
    obtain ⟨e1, k1⟩ := key k h1
    exact h.2 k (ad88 ad l k, e1) k1
set_option maxRecDepth 100000 in
theorem wl8 {G : Cx} {ad : Nat → Nat} {h0 a0 a1 a2 a3 a4 a5 a6 : Nat} : (h0, .inr (6, [.int 0, .ref a0, .ref a1, .ref a2, .ref a3, .int 0, .ref a4, .ref a5, .ref a6])) :: ([(a0, zI G 75)] ++ [(a1, zI G 15)] ++ [(a2, zI G 26624)] ++ [(a3, zI G 26624)] ++ [(a4, zI G 36)] ++ [(a5, zI G 15)] ++ [(a6, zI G 15)]) = ls9 (gcw G (ad88 ad [h0, a0, a1, a2, a3, a4, a5, a6]) 88) SLc := by rfl
/-! ===== the start ===== -/
theorem S0c_z {c : Nat} (h : c ≠ 6) : S0c c = fun _ => 0 := if_neg h
theorem SAc_k {q : Nat} (h : q < 8 ∨ 14 ≤ q) (h1 : q ≠ 35) (h2 : q ≠ 50) (h3 : q ≠ 65) : SAc q = S0c q := by
  unfold SAc
  rw [clF_ne (by omega), faS_ne2 h (by omega) (by omega) (by omega)]
theorem SLc_k {q : Nat} (h : q < 8 ∨ 14 ≤ q) (h1 : q ≠ 35) (h2 : q ≠ 50) (h3 : q ≠ 65) (h4 : q ≠ 6) : SLc q = fun _ => 0 := by
  unfold SLc
  by_cases e : q < 80
  · rw [if_pos e, SAc_k h h1 h2 h3, S0c_z h4]
  · rw [if_neg e]
theorem iv0 : IV SLc 0 0 := by
  have z2 : SLc 2 = fun _ => 0 := SLc_k (by decide) (by decide) (by decide) (by decide) (by decide)
  have z6 : SLc 6 0 = nI 1 := by
    show SAc 6 0 = nI 1
    rw [SAc_k (by decide) (by decide) (by decide) (by decide)]; rfl
  have hrn : ∀ g, rdN g 0 = 1 := fun g => rfl
  have hPW : PW S0c (S0c 2) 0 1 (rdX (S0c 2) 0) := by
    refine ⟨rfl, rfl, fun r x hx => ?_⟩
    have hr : r = 0 := by
      have := (List.getElem?_eq_some_iff.mp hx).1
      simp [rdX] at this; exact this
    subst hr
    refine ⟨0, rfl, rfl, ?_⟩
    simp [rdX] at hx
    exact hx.symm
  have hFD := fa_FD (S := S0c) (g := S0c 2) (k := 0) (z := 1) (by decide) ⟨rfl, fun s hs => absurd hs (by omega)⟩ (fun s hs => absurd hs (by omega)) hPW (by decide)
  refine ⟨by decide, by decide, fun _ => rfl, ?_, ?_, ?_, ?_, fun s hs _ => ?_, ⟨by decide, fun s hs => absurd hs (by omega), fun s hs => ?_⟩, BG_0 _ _, fun s hs => absurd hs (by omega), fun k hk => ?_⟩
  · rw [SLc_k (by decide) (by decide) (by decide) (by decide) (by decide)]; rfl
  · rw [SLc_k (by decide) (by decide) (by decide) (by decide) (by decide)]; rfl
  · rw [SLc_k (by decide) (by decide) (by decide) (by decide) (by decide)]; rfl
  · rw [z2, SLc_k (by decide) (by decide) (by decide) (by decide) (by decide)]
  · have : s = 0 := by omega
    subst this
    rw [SLc_k (by decide) (by decide) (by decide) (by decide) (by decide)]
    unfold tl; rw [if_pos rfl]; rfl
  · have : s = 0 := by omega
    subst this
    rw [hrn]; exact ⟨by decide, by decide⟩
  · have : k = 0 := by omega
    subst this
    have e2 : SLc 2 = S0c 2 := by rw [z2, S0c_z (by decide)]
    rw [e2]
    refine ⟨⟨rfl, z6, fun r x hx => ?_⟩, fun q hq => ?_⟩
    · obtain ⟨C, c1, c2⟩ := hPW.2.2 r x hx
      refine ⟨C, ?_, c2⟩
      rw [SLc_k (by decide) (by decide) (by decide) (by decide) (by decide)]
      rw [S0c_z (by decide)] at c1
      exact c1
    · exact hFD q hq
/-! ===== the script ===== -/
def SX (F : Fx) (G : Cx) (b Ln : Nat) (xs : Nat → Int32) : Prop := match F with
  | (p, e, R, s, m, args, below, meth, c, nL, kc, ks, Q) => va_X b Ln xs s s.heap ∧ b < s.heap.size ∧ ¬ gA G b
theorem V_aloadR {F : Fx} {G : Cx} {cc : ByteArray} {own : String} {S : Sx} {pc : Nat} {L : List (Option Value)} {sk : List Value} (X : CX F G cc own) {n : Fin 4} {a : Nat} (hd : decode cc pc = .ok (.aload_n n, 1)) (hq : L[(n : Nat)]? = some (some (.ref a))) (k : V F G S (pc + 1) L (.ref a :: sk)) : V F G S pc L sk := by
  obtain ⟨p, e, R, s, m, args, below, meth, c, nL, kc, ks, Q⟩ := F
  obtain ⟨hx, hb, hml, hown, hts, hK, hN, hlk, hkc, hks⟩ := X
  intro H locs ls hP hD hS hl
  exact lv_aload_n hx hb hd rfl (hl.2.2 _ _ hq).1 (k H locs ls hP hD hS hl)
theorem V_sld {F : Fx} {G : Cx} {cc : ByteArray} {own : String} {S : Sx} {pc b Ln i : Nat} {xs : Nat → Int32} {L : List (Option Value)} {sk : List Value} (X : CX F G cc own) (hs : SX F G b Ln xs) (hi : i < Ln) (hL : Ln ≤ 2048) (hd : decode cc pc = .ok (.iaload, 1)) (k : V F G S (pc + 1) L (.int (xs i) :: sk)) : V F G S pc L (.int (nI i) :: .ref b :: sk) := by
  obtain ⟨p, e, R, s, m, args, below, meth, c, nL, kc, ks, Q⟩ := F
  obtain ⟨hx, hb, hml, hown, hts, hK, hN, hlk, hkc, hks⟩ := X
  intro H locs ls hP hD hS hl
  refine va_sld hx hb hs.1 hs.2.1 hs.2.2 hS (vp_in_nI hi (by omega)) hd ?_
  rw [nI_clamp (show i < 2 ^ 31 by omega)]
  exact k H locs ls hP hD hS hl
theorem V_slen {F : Fx} {G : Cx} {cc : ByteArray} {own : String} {S : Sx} {pc b Ln : Nat} {xs : Nat → Int32} {L : List (Option Value)} {sk : List Value} (X : CX F G cc own) (hs : SX F G b Ln xs) (hd : decode cc pc = .ok (.arraylength, 1)) (k : V F G S (pc + 1) L (.int (nI Ln) :: sk)) : V F G S pc L (.ref b :: sk) := by
  obtain ⟨p, e, R, s, m, args, below, meth, c, nL, kc, ks, Q⟩ := F
  obtain ⟨hx, hb, hml, hown, hts, hK, hN, hlk, hkc, hks⟩ := X
  intro H locs ls hP hD hS hl
  exact va_slen hx hb hs.1 hs.2.1 hs.2.2 hS hd (k H locs ls hP hD hS hl)
theorem sub4 {L : Nat} (h : L ≤ 2048) : (nI L - nI 4).toInt = (L : Int) - 4 := by
  by_cases e : 4 ≤ L
  · rw [pk_sub e, t_k _ (by omega)]; omega
  · rcases (show L = 0 ∨ L = 1 ∨ L = 2 ∨ L = 3 by omega) with rfl | rfl | rfl | rfl <;> decide
theorem sw0_13 (x : Int32) : x = nI 0 ∨ x = nI 1 ∨ x = nI 2 ∨ x = nI 3 ∨ x = nI 4 ∨ x = nI 5 ∨ x = nI 6 ∨ x = nI 7 ∨ x = nI 8 ∨ x = nI 9 ∨ x = nI 10 ∨ x = nI 11 ∨ x = nI 12 ∨ (x.toInt < 0 ∨ 12 < x.toInt) := by
  simp only [i_eq, nI_toInt (show 0 < 2 ^ 31 by decide), nI_toInt (show 1 < 2 ^ 31 by decide), nI_toInt (show 2 < 2 ^ 31 by decide), nI_toInt (show 3 < 2 ^ 31 by decide), nI_toInt (show 4 < 2 ^ 31 by decide), nI_toInt (show 5 < 2 ^ 31 by decide), nI_toInt (show 6 < 2 ^ 31 by decide), nI_toInt (show 7 < 2 ^ 31 by decide), nI_toInt (show 8 < 2 ^ 31 by decide), nI_toInt (show 9 < 2 ^ 31 by decide), nI_toInt (show 10 < 2 ^ 31 by decide), nI_toInt (show 11 < 2 ^ 31 by decide), nI_toInt (show 12 < 2 ^ 31 by decide)]; omega
