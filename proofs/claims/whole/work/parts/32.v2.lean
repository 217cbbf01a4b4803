theorem V_cvip {F : Fx} {G : Cx} {cc : ByteArray} {own : String} {S : Sx} {pc : Nat} {L : List (Option Value)} {sk : List Value} (X : CX F G cc own) {d mL idx : Nat} {y : MethodName} {bytes : ByteArray} {ret : Option FieldType} {As rest : List Value} {P : Int32 → Sx → Prop} {b ci : Nat} {fl : List (Option Nat)} {cq : vw_C} (hN9 : b < gN G) (hs : ds b = .inr (.inl (ci, fl))) (hcq : vwCl[ci]? = some cq) (hcn : cq.1 = y.cls) (hc : CTp G d y bytes mL ret (ra G b :: As) S P) (hw : CWv own idx y bytes mL ret As.length) (hst : sk = As.reverse ++ ra G b :: rest) (hrm : rmOk (fR F) d mL) (hr8 : csum rest ≤ 8) (hd : decode cc pc = .ok (.invokevirtual idx, 3)) (k : ∀ (r : Int32) (S2 : Sx), P r S2 → V F G S2 (pc + 3) L (.int r :: rest)) : V F G S pc L sk := by
  obtain ⟨p, e, R, s, m, args, below, meth, c, nL, kc, ks, Q⟩ := F
  obtain ⟨hx, hb, hml, hown, hts, hK, hN, hlk, hkc, hks⟩ := X
  intro H locs ls hP hD hS hl
  obtain ⟨w1, w2, w3, w4, w5, w6⟩ := hw
  subst hst
  refine va_calli (va_runV (As := As) (rest := rest) ⟨hx, hb, hml, hown, hts⟩ hc ⟨callB_of As.length hts (mw_good w5) rfl rfl rfl (hts _ w4) (hts _ w1) w6 hrm, hts _ w2, hts _ w3⟩ ⟨Wd_blind, by have := va_recv hK hP hcq ((cw_at hN9).trans (by rw [ce_obj hs])); rw [hcn] at this; exact this, Wd_pre (F := (p, e, R, s, m, args, below, meth, c, nL, kc, ks, Q)) hP hD hK hN⟩ rfl rfl (hl.1) rfl (lv_room hr8) hd ⟨hkc, hks⟩) hS (fun q _ h => h) (fun q h => h) (fun r1 u t H1 locs1 ht hvm hw1 hB hz1 hk1 hS1 => ?_)
  obtain ⟨hP1, -, hD1, -⟩ := hB
  rw [ht] at hP1
  exact k r1 u hw1 H1 locs1 ls hP1 hD1 hS1 hl

