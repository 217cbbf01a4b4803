/-! ===== a sentence on both sides ===== -/
theorem RW_congr {S S' : Sx} {x : Xs} (h : RW S x) (e : ∀ c, 8 ≤ c → c ≤ 13 → S' c = S c) : RW S' x := by
  unfold RW at *
  rw [e 8 (by decide) (by decide), e 9 (by decide) (by decide), e 10 (by decide) (by decide), e 11 (by decide) (by decide), e 12 (by decide) (by decide), e 13 (by decide) (by decide)]
  exact h
theorem RW_x {S : Sx} {x y : Xs} (h : RW S x) (e : ∀ j, (j < 66 ∨ 94 ≤ j) → j < 104 → y j = x j) : RW S y := by
  refine ⟨fun p hp => ?_, fun t ht => ?_⟩
  · rw [e p (by omega) (by omega), e (8 + p) (by omega) (by omega)]; exact h.1 p hp
  · have := h.2 t ht
    unfold hd hgd at *
    rw [e (16 + t) (by omega) (by omega), e (36 + t) (by omega) (by omega), e (94 + t) (by omega) (by omega), e (26 + t) (by omega) (by omega), e (46 + t) (by omega) (by omega), e (56 + t) (by omega) (by omega)]
    exact this
theorem xI_x {x y : Xs} (h : xI x) (e : ∀ j, (j < 66 ∨ 94 ≤ j) → j < 104 → y j = x j) : xI y := by
  refine ⟨fun p hp => ?_, fun t ht => ?_⟩
  · rw [e p (by omega) (by omega), e (8 + p) (by omega) (by omega)]; exact h.1 p hp
  · rw [e (16 + t) (by omega) (by omega), e (36 + t) (by omega) (by omega), e (46 + t) (by omega) (by omega)]; exact h.2 t ht
theorem trX_e {x : Xs} {s a : Nat} {bv : Int32} (hs : s < 14) : ∀ j, (j < 66 ∨ 94 ≤ j) → j < 104 → trX x s a bv j = x j := fun j hj _ => by
  unfold trX upd; rw [if_neg (by omega), if_neg (by omega)]
theorem ud_ne {f : Nat → Int32} {i j : Nat} {v : Int32} (h : j ≠ i) : upd f i v j = f j := if_neg h
theorem ud_eq {f : Nat → Int32} {i : Nat} {v : Int32} : upd f i v i = v := if_pos rfl
/-- a person's place is told -/
theorem pl_x {S : Sx} {x : Xs} {a : Nat} {p fr : Int32} (h : RW S x) (hx : xI x) (ha : a < 8) (hp : isL p) : RW (st (st S 8 a p) 9 a fr) (upd (upd x a p) (8 + a) fr) ∧ xI (upd (upd x a p) (8 + a) fr) := by
  refine ⟨⟨fun q hq => ?_, fun t ht => ?_⟩, ⟨fun q hq => ?_, fun t ht => ?_⟩⟩
  · rw [st_ne (show (8 : Nat) ≠ 9 by decide), st_eq, st_eq, st_ne (show (9 : Nat) ≠ 8 by decide)]
    by_cases e : q = a
    · subst e
      rw [ud_eq, ud_eq, ud_eq, ud_ne (show q ≠ 8 + q by omega), ud_eq]
      exact ⟨un_f (isL_n2 hp).2, rfl⟩
    · rw [ud_ne e, ud_ne e, ud_ne (show q ≠ 8 + a by omega), ud_ne e, ud_ne (show 8 + q ≠ 8 + a by omega), ud_ne (show 8 + q ≠ a by omega)]
      exact h.1 q hq
  · have := h.2 t ht
    have e : ∀ j, 16 ≤ j → upd (upd x a p) (8 + a) fr j = x j := fun j hj => by rw [ud_ne (by omega), ud_ne (by omega)]
    unfold hd hgd at *
    rw [e (16 + t) (by omega), e (36 + t) (by omega), e (94 + t) (by omega), e (26 + t) (by omega), e (46 + t) (by omega), e (56 + t) (by omega)]
    rw [st_ne (show (10 : Nat) ≠ 9 by decide), st_ne (show (10 : Nat) ≠ 8 by decide), st_ne (show (11 : Nat) ≠ 9 by decide), st_ne (show (11 : Nat) ≠ 8 by decide), st_ne (show (12 : Nat) ≠ 9 by decide), st_ne (show (12 : Nat) ≠ 8 by decide), st_ne (show (13 : Nat) ≠ 9 by decide), st_ne (show (13 : Nat) ≠ 8 by decide)]
    exact this
  · by_cases e : q = a
    · subst e
      rw [ud_ne (show q ≠ 8 + q by omega), ud_eq]; exact Or.inr hp
    · rw [ud_ne (show q ≠ 8 + a by omega), ud_ne e, ud_ne (show 8 + q ≠ 8 + a by omega), ud_ne (show 8 + q ≠ a by omega)]; exact hx.1 q hq
  · have e : ∀ j, 16 ≤ j → upd (upd x a p) (8 + a) fr j = x j := fun j hj => by rw [ud_ne (by omega), ud_ne (by omega)]
    rw [e (16 + t) (by omega), e (36 + t) (by omega), e (46 + t) (by omega)]; exact hx.2 t ht
def hsX (x : Xs) (s a t : Nat) : Xs := upd (upd (upd (upd (upd x (16 + t) (nI a)) (26 + t) (bS s)) (36 + t) (nI 0)) (46 + t) (-1)) (56 + t) (nI 0)
theorem hsX_of (T : Sx) (s a t : Nat) : hsS T 0 s a t 84 = hsX (T 84) s a t := by
  unfold hsS hsX; rw [st_eq, st_eq, st_eq, st_eq, st_eq, Nat.zero_add, Nat.zero_add, Nat.zero_add, Nat.zero_add, Nat.zero_add]
theorem hsX_ne {x : Xs} {s a t j : Nat} (h1 : j ≠ 16 + t) (h2 : j ≠ 26 + t) (h3 : j ≠ 36 + t) (h4 : j ≠ 46 + t) (h5 : j ≠ 56 + t) : hsX x s a t j = x j := by
  unfold hsX; rw [ud_ne h5, ud_ne h4, ud_ne h3, ud_ne h2, ud_ne h1]
theorem hsX_16 {x : Xs} {s a t : Nat} (ht : t < 10) : hsX x s a t (16 + t) = nI a := by
  unfold hsX; rw [ud_ne (by omega), ud_ne (by omega), ud_ne (by omega), ud_ne (by omega), ud_eq]
theorem hsX_26 {x : Xs} {s a t : Nat} (ht : t < 10) : hsX x s a t (26 + t) = bS s := by
  unfold hsX; rw [ud_ne (by omega), ud_ne (by omega), ud_ne (by omega), ud_eq]
theorem hsX_36 {x : Xs} {s a t : Nat} (ht : t < 10) : hsX x s a t (36 + t) = nI 0 := by
  unfold hsX; rw [ud_ne (by omega), ud_ne (by omega), ud_eq]
theorem hsX_46 {x : Xs} {s a t : Nat} (ht : t < 10) : hsX x s a t (46 + t) = -1 := by
  unfold hsX; rw [ud_ne (by omega), ud_eq]
/-- a person has a thing -/
theorem hs_x {S : Sx} {x : Xs} {s a t : Nat} (h : RW S x) (hx : xI x) (ha : a < 8) (ht : t < 10) : RW (sHand S a t (bS s)) (hsX x s a t) ∧ xI (hsX x s a t) := by
  have n1 : ¬ nI a = -1 := m1_ne (by omega)
  have e8 : sHand S a t (bS s) 8 = S 8 := by unfold sHand; rw [st_ne (by decide), st_ne (by decide)]
  have e9 : sHand S a t (bS s) 9 = S 9 := by unfold sHand; rw [st_ne (by decide), st_ne (by decide)]
  have e10 : sHand S a t (bS s) 10 = upd (S 10) t (nI a) := by unfold sHand; rw [st_ne (by decide), st_eq]
  have e11 : sHand S a t (bS s) 11 = upd (S 11) t (bS s) := by unfold sHand; rw [st_eq, st_ne (by decide)]
  have e12 : sHand S a t (bS s) 12 = S 12 := by unfold sHand; rw [st_ne (by decide), st_ne (by decide)]
  have e13 : sHand S a t (bS s) 13 = S 13 := by unfold sHand; rw [st_ne (by decide), st_ne (by decide)]
  refine ⟨⟨fun q hq => ?_, fun u hu => ?_⟩, ⟨fun q hq => ?_, fun u hu => ?_⟩⟩
  · rw [e8, e9, hsX_ne (by omega) (by omega) (by omega) (by omega) (by omega), hsX_ne (by omega) (by omega) (by omega) (by omega) (by omega)]
    exact h.1 q hq
  · rw [e10, e11, e12, e13]
    unfold hd hgd
    by_cases e : u = t
    · subst e
      rw [ud_eq, ud_eq, hsX_16 ht, hsX_26 ht, if_neg n1, if_neg n1]
      exact ⟨rfl, rfl, fun q => absurd q n1⟩
    · have := h.2 u hu
      unfold hd hgd at this
      rw [ud_ne e, ud_ne e, hsX_ne (j := 16 + u) (by omega) (by omega) (by omega) (by omega) (by omega), hsX_ne (j := 26 + u) (by omega) (by omega) (by omega) (by omega) (by omega), hsX_ne (j := 36 + u) (by omega) (by omega) (by omega) (by omega) (by omega), hsX_ne (j := 46 + u) (by omega) (by omega) (by omega) (by omega) (by omega), hsX_ne (j := 56 + u) (by omega) (by omega) (by omega) (by omega) (by omega), hsX_ne (j := 94 + u) (by omega) (by omega) (by omega) (by omega) (by omega)]
      exact this
  · rw [hsX_ne (by omega) (by omega) (by omega) (by omega) (by omega), hsX_ne (by omega) (by omega) (by omega) (by omega) (by omega)]
    exact hx.1 q hq
  · by_cases e : u = t
    · subst e
      rw [hsX_16 ht, hsX_36 ht, hsX_46 ht]
      exact ⟨Or.inr ⟨a, ha, rfl⟩, Or.inr (by decide), Or.inl rfl⟩
    · rw [hsX_ne (j := 16 + u) (by omega) (by omega) (by omega) (by omega) (by omega), hsX_ne (j := 36 + u) (by omega) (by omega) (by omega) (by omega) (by omega), hsX_ne (j := 46 + u) (by omega) (by omega) (by omega) (by omega) (by omega)]
      exact hx.2 u hu
/-- one sentence on both sides: forbidden in both, or allowed in both with like ends -/
def PR (S : Sx) (x : Xs) (al : Prop) (S' : Sx) (p : Int32 × Sx) : Prop := (¬ al ∧ p.1 = 0) ∨ (al ∧ p.1 ≠ 0 ∧ RW S' (p.2 84) ∧ xI (p.2 84) ∧ ∀ j, 66 ≤ j → j < 94 → p.2 84 j = x j)
theorem hsX_mid {x : Xs} {s a t : Nat} (ht : t < 10) : ∀ j, 66 ≤ j → j < 94 → hsX x s a t j = x j := fun j h1 h2 => hsX_ne (by omega) (by omega) (by omega) (by omega) (by omega)
theorem pl_mid {x : Xs} {a : Nat} {p fr : Int32} (ha : a < 8) : ∀ j, 66 ≤ j → j < 94 → upd (upd x a p) (8 + a) fr j = x j := fun j h1 h2 => by rw [ud_ne (by omega), ud_ne (by omega)]
theorem go_x {S : Sx} {x : Xs} {s a : Nat} {p : Int32} (h : RW S x) (hx : xI x) (ha : a < 8) (hp : isL p) : PR S x True (sGo S a p (bS s)) (nI 1, wkS (eX x) 0 s a p) := by
  right
  have e : wkS (eX x) 0 s a p 84 = upd (upd x a p) (8 + a) (bS s) := by
    unfold wkS; rw [st_eq, st_eq]; simp only [Nat.zero_add]; rfl
  refine ⟨trivial, show nI 1 ≠ 0 by decide, ?_⟩
  show RW _ (wkS (eX x) 0 s a p 84) ∧ xI (wkS (eX x) 0 s a p 84) ∧ ∀ j, 66 ≤ j → j < 94 → wkS (eX x) 0 s a p 84 j = x j
  rw [e]
  obtain ⟨h1, h2⟩ := pl_x (fr := bS s) h hx ha hp
  exact ⟨h1, h2, pl_mid ha⟩
theorem hold {S : Sx} {x : Xs} (h : RW S x) (hx : xI x) {t : Nat} (ht : t < 10) : (x (16 + t) = -1 ∧ x (36 + t) = nI 1 ∧ S 10 t = nI 9 ∧ S 12 t = un (x (46 + t)) ∧ S 13 t = x (56 + t)) ∨ (x (16 + t) = -1 ∧ ¬ x (36 + t) = nI 1 ∧ S 10 t = -2) ∨ (∃ p, p < 8 ∧ x (16 + t) = nI p ∧ ¬ x (36 + t) = nI 1 ∧ S 10 t = nI p) := by
  obtain ⟨h1, h2, h3⟩ := h.2 t ht
  obtain ⟨v1, v2, v3⟩ := hx.2 t ht
  unfold hd at h1
  rcases v1 with e | ⟨p, hp, e⟩
  · rw [if_pos e] at h1
    by_cases l : x (36 + t) = nI 1
    · rw [if_pos l] at h1; exact Or.inl ⟨e, l, h1, h3 e l⟩
    · rw [if_neg l] at h1; exact Or.inr (Or.inl ⟨e, l, h1⟩)
  · have n1 : ¬ x (16 + t) = -1 := by rw [e]; exact m1_ne (by omega)
    rw [if_neg n1] at h1
    exact Or.inr (Or.inr ⟨p, hp, e, v2.resolve_left n1, h1.trans e⟩)
theorem tkE_x {x : Xs} {s a t : Nat} {T : Sx} (h : T 84 = x) (hn : ¬ x (16 + t) = nI a) : tkE T 0 s a t 84 = hsX x s a t := by
  unfold tkE; rw [if_neg (by rw [h, Nat.zero_add]; exact hn), hsX_of, h]
theorem tk_x {S : Sx} {x : Xs} {s a t : Nat} (h : RW S x) (hx : xI x) (ha : a < 8) (ht : t < 10) : PR S x (atP S a t) (sTake S a t (bS s)) (tkF (eX x) 0 s a t) := by
  have n1 : ¬ nI a = -1 := m1_ne (by omega)
  have n9 : ¬ nI 9 = nI a := nI_ne (by decide) (by omega) (by omega)
  have n2 : ¬ (-2 : Int32) = nI a := fun q => m2_ne (a := a) (by omega) q.symm
  have h8 := (h.1 a ha).1
  have v8 := xI_p hx ha
  have v46 := (hx.2 t ht).2.2
  unfold tkF othP
  simp only [Nat.zero_add]
  show PR S x _ _ (if x (16 + t) ≠ -1 ∧ x (16 + t) ≠ nI a then _ else if x (36 + t) = nI 1 ∧ x (46 + t) ≠ -1 then (if x a = -1 then _ else if x a = x (46 + t) then _ else _) else _)
  rcases hold h hx ht with ⟨c1, c2, c3, c4, c5⟩ | ⟨c1, c2, c3⟩ | ⟨p, hp, c1, c2, c3⟩
  · have na : ¬ x (16 + t) = nI a := by rw [c1]; exact fun q => n1 q.symm
    rw [if_neg (fun q => q.1 c1)]
    by_cases e46 : x (46 + t) = -1
    · rw [if_neg (fun q => q.2 e46)]
      right
      have ep : S 12 t = -2 := by rw [c4, e46]; rfl
      refine ⟨Or.inl ⟨c3, Or.inl ep⟩, show nI 1 ≠ 0 by decide, ?_⟩
      have es : sTake S a t (bS s) = sHand S a t (bS s) := by unfold sTake sInf; rw [if_neg (by rw [c3]; exact n9), if_pos c3, if_neg (fun q => q.2 ep)]
      dsimp only
      rw [es, tkE_x (x := x) rfl na]
      obtain ⟨q1, q2⟩ := hs_x (s := s) h hx ha ht
      exact ⟨q1, q2, hsX_mid ht⟩
    · have hl := v46.resolve_left e46
      have ep : S 12 t = x (46 + t) := by rw [c4]; exact (un_f e46).symm
      rw [if_pos ⟨c2, e46⟩]
      by_cases ea : x a = -1
      · rw [if_pos ea]
        right
        have e8 : S 8 a = -2 := by rw [h8, ea]; rfl
        refine ⟨Or.inl ⟨c3, Or.inr (Or.inl e8)⟩, show nI 1 ≠ 0 by decide, ?_⟩
        have es : sTake S a t (bS s) = sHand (st (st S 8 a (x (46 + t))) 9 a (bS s ||| x (56 + t))) a t (bS s) := by
          unfold sTake sInf; rw [if_neg (by rw [c3]; exact n9), if_pos c3, if_pos ⟨e8, by rw [ep]; exact (isL_n2 hl).1⟩, ep, c5, Int32.or_comm]
        have et : tkA (eX x) 0 s a t 84 = upd (upd x a (x (46 + t))) (8 + a) (bS s ||| x (56 + t)) := by
          unfold tkA; rw [st_eq, st_eq]; simp only [Nat.zero_add]
          show upd (upd x a (x (46 + t))) (8 + a) (bS s ||| upd x a (x (46 + t)) (56 + t)) = _
          rw [ud_ne (show 56 + t ≠ a by omega)]
        obtain ⟨q1, q2⟩ := pl_x (fr := bS s ||| x (56 + t)) h hx ha hl
        dsimp only
        rw [es, tkE_x et (by rw [ud_ne (by omega), ud_ne (by omega)]; exact na)]
        obtain ⟨q3, q4⟩ := hs_x (s := s) q1 q2 ha ht
        exact ⟨q3, q4, fun j j1 j2 => (hsX_mid ht j j1 j2).trans (pl_mid ha j j1 j2)⟩
      · rw [if_neg ea]
        have e8 : S 8 a = x a := by rw [h8]; exact (un_f ea).symm
        have l8 : ¬ S 8 a = -2 := by rw [e8]; exact (isL_n2 (v8.resolve_left ea)).1
        by_cases eq : x a = x (46 + t)
        · rw [if_pos eq]
          right
          refine ⟨Or.inl ⟨c3, Or.inr (Or.inr (by rw [ep, e8, eq]))⟩, show nI 1 ≠ 0 by decide, ?_⟩
          have es : sTake S a t (bS s) = sHand S a t (bS s) := by unfold sTake sInf; rw [if_neg (by rw [c3]; exact n9), if_pos c3, if_neg (fun q => l8 q.1)]
          dsimp only
          rw [es, tkE_x (x := x) rfl na]
          obtain ⟨q1, q2⟩ := hs_x (s := s) h hx ha ht
          exact ⟨q1, q2, hsX_mid ht⟩
        · rw [if_neg eq]
          left
          refine ⟨fun q => ?_, rfl⟩
          rcases q with ⟨-, q⟩ | ⟨q, -⟩
          · rcases q with q | q | q
            · rw [ep] at q; exact (isL_n2 hl).1 q
            · exact l8 q
            · rw [ep, e8] at q; exact eq q.symm
          · exact q c3
  · have na : ¬ x (16 + t) = nI a := by rw [c1]; exact fun q => n1 q.symm
    rw [if_neg (fun q => q.1 c1), if_neg (fun q => c2 q.1)]
    right
    refine ⟨Or.inr ⟨by rw [c3]; decide, Or.inl c3⟩, show nI 1 ≠ 0 by decide, ?_⟩
    have es : sTake S a t (bS s) = sHand S a t (bS s) := by unfold sTake; rw [if_neg (by rw [c3]; exact n2), if_neg (by rw [c3]; decide)]
    dsimp only
    rw [es, tkE_x (x := x) rfl na]
    obtain ⟨q1, q2⟩ := hs_x (s := s) h hx ha ht
    exact ⟨q1, q2, hsX_mid ht⟩
  · have np : ¬ x (16 + t) = -1 := by rw [c1]; exact m1_ne (by omega)
    have c9 : ¬ S 10 t = nI 9 := by rw [c3]; exact nI_ne (by omega) (by decide) (by omega)
    by_cases e : p = a
    · subst e
      rw [if_neg (fun q => q.2 c1), if_neg (fun q => c2 q.1)]
      right
      refine ⟨Or.inr ⟨c9, Or.inr c3⟩, show nI 1 ≠ 0 by decide, ?_⟩
      have es : sTake S p t (bS s) = S := by unfold sTake; rw [if_pos c3]
      have et : tkE (eX x) 0 s p t = eX x := by unfold tkE; rw [if_pos (by rw [Nat.zero_add]; exact c1)]
      dsimp only
      rw [es, et]
      exact ⟨h, hx, fun j _ _ => rfl⟩
    · have ne : ¬ nI p = nI a := nI_ne (by omega) (by omega) e
      rw [if_pos ⟨np, by rw [c1]; exact ne⟩]
      left
      refine ⟨fun q => ?_, rfl⟩
      rcases q with ⟨q, -⟩ | ⟨-, q⟩
      · exact c9 q
      · rcases q with q | q
        · rw [c3] at q; exact m2_ne (by omega) q
        · rw [c3] at q; exact ne q
def dpX (x : Xs) (s a t : Nat) : Xs := upd (upd (upd (upd (upd (upd x (16 + t) (-1)) (26 + t) (nI 0)) (36 + t) (nI 1)) (46 + t) (x a)) (94 + t) (bS s)) (56 + t) (bS s ||| x (8 + a))
theorem dpX_of {x : Xs} {s a t : Nat} (hx : xI x) (ha : a < 8) (ht : t < 10) : dpE (eX x) 0 s a t 84 = dpX x s a t := by
  have e3 : dp3 (eX x) 0 t 84 = upd (upd (upd x (16 + t) (-1)) (26 + t) (nI 0)) (36 + t) (nI 1) := by
    unfold dp3; rw [st_eq, st_eq, st_eq]; simp only [Nat.zero_add]; rfl
  have e5 : dp5 (eX x) 0 s a t 84 = upd (upd (upd (upd (upd x (16 + t) (-1)) (26 + t) (nI 0)) (36 + t) (nI 1)) (46 + t) (x a)) (94 + t) (bS s) := by
    unfold dp5; rw [st_eq, st_eq, e3]; simp only [Nat.zero_add]
    rw [ud_ne (f := upd (upd x (16 + t) (-1)) (26 + t) (nI 0)) (show a ≠ 36 + t by omega), ud_ne (f := upd x (16 + t) (-1)) (show a ≠ 26 + t by omega), ud_ne (f := x) (show a ≠ 16 + t by omega)]
  have ea : dp5 (eX x) 0 s a t 84 (0 + 0 + a) = x a := by
    rw [e5]; simp only [Nat.zero_add]
    rw [ud_ne (by omega), ud_ne (by omega), ud_ne (by omega), ud_ne (by omega), ud_ne (by omega)]
  have eb : dp5 (eX x) 0 s a t 84 (0 + 8 + a) = x (8 + a) := by
    rw [e5]; simp only [Nat.zero_add]
    rw [ud_ne (by omega), ud_ne (by omega), ud_ne (by omega), ud_ne (by omega), ud_ne (by omega)]
  unfold dpE dpX
  rw [st_eq, ea, eb, e5, Nat.zero_add]
  rcases hx.1 a ha with q | q
  · rw [if_pos q.1, q.2]
  · rw [if_neg (isL_n2 q).2]
theorem dpX_ne {x : Xs} {s a t j : Nat} (h1 : j ≠ 16 + t) (h2 : j ≠ 26 + t) (h3 : j ≠ 36 + t) (h4 : j ≠ 46 + t) (h5 : j ≠ 56 + t) (h6 : j ≠ 94 + t) : dpX x s a t j = x j := by
  unfold dpX; rw [ud_ne h5, ud_ne h6, ud_ne h4, ud_ne h3, ud_ne h2, ud_ne h1]
theorem dpX_at {x : Xs} {s a t : Nat} (ht : t < 10) : dpX x s a t (16 + t) = -1 ∧ dpX x s a t (36 + t) = nI 1 ∧ dpX x s a t (46 + t) = x a ∧ dpX x s a t (94 + t) = bS s ∧ dpX x s a t (56 + t) = bS s ||| x (8 + a) := by
  unfold dpX
  refine ⟨?_, ?_, ?_, ?_, ?_⟩
  · rw [ud_ne (by omega), ud_ne (by omega), ud_ne (by omega), ud_ne (by omega), ud_ne (by omega), ud_eq]
  · rw [ud_ne (by omega), ud_ne (by omega), ud_ne (by omega), ud_eq]
  · rw [ud_ne (by omega), ud_ne (by omega), ud_eq]
  · rw [ud_ne (by omega), ud_eq]
  · rw [ud_eq]
theorem dr_x {S : Sx} {x : Xs} {s a t : Nat} (h : RW S x) (hx : xI x) (ha : a < 8) (ht : t < 10) : RW (sDrop S a t (bS s)) (dpX x s a t) ∧ xI (dpX x s a t) := by
  have e8 : sDrop S a t (bS s) 8 = S 8 := by unfold sDrop; rw [st_ne (by decide), st_ne (by decide), st_ne (by decide), st_ne (by decide)]
  have e9 : sDrop S a t (bS s) 9 = S 9 := by unfold sDrop; rw [st_ne (by decide), st_ne (by decide), st_ne (by decide), st_ne (by decide)]
  have e10 : sDrop S a t (bS s) 10 = upd (S 10) t (nI 9) := by unfold sDrop; rw [st_ne (by decide), st_ne (by decide), st_ne (by decide), st_eq]
  have e11 : sDrop S a t (bS s) 11 = upd (S 11) t (bS s) := by unfold sDrop; rw [st_ne (by decide), st_ne (by decide), st_eq, st_ne (by decide)]
  have e12 : sDrop S a t (bS s) 12 = upd (S 12) t (S 8 a) := by unfold sDrop; rw [st_ne (by decide), st_eq, st_ne (by decide), st_ne (by decide)]
  have e13 : sDrop S a t (bS s) 13 = upd (S 13) t (bS s ||| S 9 a) := by unfold sDrop; rw [st_eq, st_ne (by decide), st_ne (by decide), st_ne (by decide)]
  obtain ⟨d1, d2, d3, d4, d5⟩ := dpX_at (x := x) (s := s) (a := a) ht
  refine ⟨⟨fun q hq => ?_, fun u hu => ?_⟩, ⟨fun q hq => ?_, fun u hu => ?_⟩⟩
  · rw [e8, e9, dpX_ne (by omega) (by omega) (by omega) (by omega) (by omega) (by omega), dpX_ne (by omega) (by omega) (by omega) (by omega) (by omega) (by omega)]
    exact h.1 q hq
  · rw [e10, e11, e12, e13]
    unfold hd hgd
    by_cases e : u = t
    · subst e
      rw [ud_eq, ud_eq, ud_eq, ud_eq, d1, d2, d3, d4, d5, if_pos rfl, if_pos rfl, if_pos rfl, if_pos rfl]
      exact ⟨rfl, rfl, fun _ _ => ⟨(h.1 a ha).1, by rw [(h.1 a ha).2]⟩⟩
    · have := h.2 u hu
      unfold hd hgd at this
      rw [ud_ne e, ud_ne e, ud_ne e, ud_ne e, dpX_ne (j := 16 + u) (by omega) (by omega) (by omega) (by omega) (by omega) (by omega), dpX_ne (j := 26 + u) (by omega) (by omega) (by omega) (by omega) (by omega) (by omega), dpX_ne (j := 36 + u) (by omega) (by omega) (by omega) (by omega) (by omega) (by omega), dpX_ne (j := 46 + u) (by omega) (by omega) (by omega) (by omega) (by omega) (by omega), dpX_ne (j := 56 + u) (by omega) (by omega) (by omega) (by omega) (by omega) (by omega), dpX_ne (j := 94 + u) (by omega) (by omega) (by omega) (by omega) (by omega) (by omega)]
      exact this
  · rw [dpX_ne (by omega) (by omega) (by omega) (by omega) (by omega) (by omega), dpX_ne (by omega) (by omega) (by omega) (by omega) (by omega) (by omega)]
    exact hx.1 q hq
  · by_cases e : u = t
    · subst e
      rw [d1, d2, d3]
      exact ⟨Or.inl rfl, Or.inl rfl, xI_p hx ha⟩
    · rw [dpX_ne (j := 16 + u) (by omega) (by omega) (by omega) (by omega) (by omega) (by omega), dpX_ne (j := 36 + u) (by omega) (by omega) (by omega) (by omega) (by omega) (by omega), dpX_ne (j := 46 + u) (by omega) (by omega) (by omega) (by omega) (by omega) (by omega)]
      exact hx.2 u hu
theorem mh_x {S : Sx} {x : Xs} {a t : Nat} (h : RW S x) (hx : xI x) (ha : a < 8) (ht : t < 10) : mhP S (nI a) t ↔ ¬ ((x (16 + t) ≠ -1 ∧ x (16 + t) ≠ nI a) ∨ x (36 + t) = nI 1) := by
  unfold mhP
  rcases hold h hx ht with ⟨c1, c2, c3, c4, c5⟩ | ⟨c1, c2, c3⟩ | ⟨p, hp, c1, c2, c3⟩
  · rw [c3]
    constructor
    · rintro (q | q)
      · exact absurd q (by decide)
      · exact absurd q (nI_ne (by decide) (by omega) (by omega))
    · intro q; exact absurd (Or.inr c2) q
  · constructor
    · rintro - (q | q)
      · exact q.1 c1
      · exact c2 q
    · intro _; exact Or.inl c3
  · rw [c3, c1]
    constructor
    · rintro q (z | z)
      · rcases q with q | q
        · exact m2_ne (by omega) q
        · exact z.2 q
      · exact c2 z
    · intro q
      right
      apply Classical.byContradiction
      intro z; exact q (Or.inl ⟨m1_ne (by omega), z⟩)
theorem dp_x {S : Sx} {x : Xs} {s a t : Nat} (h : RW S x) (hx : xI x) (ha : a < 8) (ht : t < 10) : PR S x (mhP S (nI a) t) (sDrop S a t (bS s)) (dpF (eX x) 0 s a t) := by
  have m := mh_x h hx ha ht
  unfold dpF othP
  simp only [Nat.zero_add]
  show PR S x _ _ (if (x (16 + t) ≠ -1 ∧ x (16 + t) ≠ nI a) ∨ x (36 + t) = nI 1 then _ else _)
  by_cases q : (x (16 + t) ≠ -1 ∧ x (16 + t) ≠ nI a) ∨ x (36 + t) = nI 1
  · rw [if_pos q]; left; exact ⟨fun z => m.mp z q, rfl⟩
  · rw [if_neg q]; right
    refine ⟨m.mpr q, show nI 1 ≠ 0 by decide, ?_⟩
    dsimp only
    rw [dpX_of hx ha ht]
    obtain ⟨q1, q2⟩ := dr_x (s := s) h hx ha ht
    exact ⟨q1, q2, fun j j1 j2 => dpX_ne (by omega) (by omega) (by omega) (by omega) (by omega) (by omega)⟩
theorem gvA_x {x : Xs} {s a b : Nat} (hab : a ≠ b) (ha : a < 8) (hb : b < 8) : gvA (eX x) 0 s a b 84 = upd (upd x a (x b)) (8 + a) (bS s ||| x (8 + b)) := by
  unfold gvA; rw [st_eq, st_eq]; simp only [Nat.zero_add]
  show upd (upd x a (x b)) (8 + a) (bS s ||| upd x a (x b) (8 + b)) = _
  rw [ud_ne (show 8 + b ≠ a by omega)]
theorem gv_x {S : Sx} {x : Xs} {s a t b : Nat} (h : RW S x) (hx : xI x) (ha : a < 8) (hb : b < 8) (ht : t < 10) : PR S x (agP S a t b) (sGive S a t b (bS s)) (gvF (eX x) 0 s a t b) := by
  have m := mh_x h hx ha ht
  have ha8 := (h.1 a ha).1
  have hb8 := (h.1 b hb).1
  have ha9 := (h.1 a ha).2
  have hb9 := (h.1 b hb).2
  have va := xI_p hx ha
  have vb := xI_p hx hb
  unfold gvF othP
  simp only [Nat.zero_add]
  show PR S x _ _ (if a = b ∨ (x (16 + t) ≠ -1 ∧ x (16 + t) ≠ nI a) ∨ x (36 + t) = nI 1 then _ else if x a = -1 then (if x b = -1 then _ else _) else if x b = -1 then _ else if x a = x b then _ else _)
  by_cases q : a = b ∨ (x (16 + t) ≠ -1 ∧ x (16 + t) ≠ nI a) ∨ x (36 + t) = nI 1
  · rw [if_pos q]; left
    refine ⟨fun z => ?_, rfl⟩
    rcases q with q | q
    · exact z.1 q.symm
    · exact m.mp z.2.1 q
  · rw [if_neg q]
    have hab : a ≠ b := fun z => q (Or.inl z)
    have hm : mhP S (nI a) t := m.mpr (fun z => q (Or.inr z))
    have plain : (¬ S 8 a = -2 ∧ ¬ S 8 b = -2) ∨ (S 8 a = -2 ∧ S 8 b = -2) → sGive S a t b (bS s) = sHand S b t (bS s) := by
      intro z
      have e1 : ∀ fr, sInf S a (S 8 b) fr = S := fun fr => by
        unfold sInf; rw [if_neg]; rintro ⟨z1, z2⟩
        rcases z with z | z
        · exact z.1 z1
        · exact z2 z.2
      have e2 : ∀ fr, sInf S b (S 8 a) fr = S := fun fr => by
        unfold sInf; rw [if_neg]; rintro ⟨z1, z2⟩
        rcases z with z | z
        · exact z.2 z1
        · exact z2 z.1
      unfold sGive; rw [e1, e2]
    by_cases ea : x a = -1
    · have sa : S 8 a = -2 := by rw [ha8, ea]; rfl
      rw [if_pos ea]
      by_cases eb : x b = -1
      · have sb : S 8 b = -2 := by rw [hb8, eb]; rfl
        rw [if_pos eb]; right
        refine ⟨⟨hab.symm, hm, Or.inl sa⟩, show nI 1 ≠ 0 by decide, ?_⟩
        dsimp only
        rw [plain (Or.inr ⟨sa, sb⟩), hsX_of]
        obtain ⟨q1, q2⟩ := hs_x (s := s) h hx hb ht
        exact ⟨q1, q2, hsX_mid ht⟩
      · have lb := vb.resolve_left eb
        have sb : S 8 b = x b := by rw [hb8]; exact (un_f eb).symm
        rw [if_neg eb]; right
        refine ⟨⟨hab.symm, hm, Or.inl sa⟩, show nI 1 ≠ 0 by decide, ?_⟩
        have es : sGive S a t b (bS s) = sHand (st (st S 8 a (x b)) 9 a (bS s ||| x (8 + b))) b t (bS s) := by
          have e1 : sInf S a (S 8 b) (S 9 b ||| bS s) = st (st S 8 a (x b)) 9 a (bS s ||| x (8 + b)) := by
            unfold sInf; rw [if_pos ⟨sa, by rw [sb]; exact (isL_n2 lb).1⟩, sb, hb9, Int32.or_comm]
          unfold sGive; rw [e1]
          have e8 : st (st S 8 a (x b)) 9 a (bS s ||| x (8 + b)) 8 b = x b := by
            rw [st_ne (show (8 : Nat) ≠ 9 by decide), st_eq, ud_ne hab.symm, sb]
          have e2 : ∀ p fr, sInf (st (st S 8 a (x b)) 9 a (bS s ||| x (8 + b))) b p fr = st (st S 8 a (x b)) 9 a (bS s ||| x (8 + b)) := fun p fr => by
            unfold sInf; rw [if_neg (fun z => by rw [e8] at z; exact (isL_n2 lb).1 z.1)]
          rw [e2]
        obtain ⟨q1, q2⟩ := pl_x (fr := bS s ||| x (8 + b)) h hx ha lb
        dsimp only
        rw [es, hsX_of, gvA_x hab ha hb]
        obtain ⟨q3, q4⟩ := hs_x (s := s) q1 q2 hb ht
        exact ⟨q3, q4, fun j j1 j2 => (hsX_mid ht j j1 j2).trans (pl_mid ha j j1 j2)⟩
    · have la := va.resolve_left ea
      have sa : S 8 a = x a := by rw [ha8]; exact (un_f ea).symm
      have sa2 : ¬ S 8 a = -2 := by rw [sa]; exact (isL_n2 la).1
      rw [if_neg ea]
      by_cases eb : x b = -1
      · have sb : S 8 b = -2 := by rw [hb8, eb]; rfl
        rw [if_pos eb]; right
        refine ⟨⟨hab.symm, hm, Or.inr (Or.inl sb)⟩, show nI 1 ≠ 0 by decide, ?_⟩
        have es : sGive S a t b (bS s) = sHand (st (st S 8 b (x a)) 9 b (bS s ||| x (8 + a))) b t (bS s) := by
          have e1 : ∀ p fr, sInf S a p fr = S := fun p fr => by unfold sInf; rw [if_neg (fun z => sa2 z.1)]
          have e2 : sInf S b (S 8 a) (S 9 a ||| bS s) = st (st S 8 b (x a)) 9 b (bS s ||| x (8 + a)) := by
            unfold sInf; rw [if_pos ⟨sb, sa2⟩, sa, ha9, Int32.or_comm]
          unfold sGive; rw [e1, e2]
        obtain ⟨q1, q2⟩ := pl_x (fr := bS s ||| x (8 + a)) h hx hb la
        dsimp only
        rw [es, hsX_of, gvA_x hab.symm hb ha]
        obtain ⟨q3, q4⟩ := hs_x (s := s) q1 q2 hb ht
        exact ⟨q3, q4, fun j j1 j2 => (hsX_mid ht j j1 j2).trans (pl_mid hb j j1 j2)⟩
      · have lb := vb.resolve_left eb
        have sb : S 8 b = x b := by rw [hb8]; exact (un_f eb).symm
        have sb2 : ¬ S 8 b = -2 := by rw [sb]; exact (isL_n2 lb).1
        rw [if_neg eb]
        by_cases eq : x a = x b
        · rw [if_pos eq]; right
          refine ⟨⟨hab.symm, hm, Or.inr (Or.inr (by rw [sa, sb, eq]))⟩, show nI 1 ≠ 0 by decide, ?_⟩
          dsimp only
          rw [plain (Or.inl ⟨sa2, sb2⟩), hsX_of]
          obtain ⟨q1, q2⟩ := hs_x (s := s) h hx hb ht
          exact ⟨q1, q2, hsX_mid ht⟩
        · rw [if_neg eq]; left
          refine ⟨fun z => ?_, rfl⟩
          rcases z.2.2 with z | z | z
          · exact sa2 z
          · exact sb2 z
          · rw [sa, sb] at z; exact eq z
/-- the next sentence, told by a choice of persons, on both sides -/
theorem stp_x {S : Sx} {x : Xs} {g : Nat → Int32} {s a : Nat} {c bv : Int32} (hg : S 2 = g) (h : RW S x) (hx : xI x) (hs : s < 14) (ha : a < 8) (ok : okM g s) (e0 : pp S s 0 c = nI a) (hbv : g (s * 5 + 1) = nI 33 → ∃ b, b < 8 ∧ bv = nI b ∧ pp S s 1 c = nI b) :
    (alF S s c = 0 ∧ stp g s a bv x = none) ∨ (alF S s c ≠ 0 ∧ ∃ y, stp g s a bv x = some y ∧ RW (sTell S s c) y ∧ xI y ∧ ∀ j, 66 ≤ j → j < 94 → y j = trX x s a bv j) := by
  have n1 : ¬ nI a = -1 := m1_ne (by omega)
  have h' : RW S (trX x s a bv) := RW_x h (trX_e hs)
  have hx' : xI (trX x s a bv) := xI_x hx (trX_e hs)
  have fin : ∀ (al : Prop) (S' : Sx), PR S (trX x s a bv) al S' (vbF (eX (trX x s a bv)) 0 s a bv g) → (alF S s c = 0 ↔ ¬ al) → sTell S s c = S' → (alF S s c = 0 ∧ stp g s a bv x = none) ∨ (alF S s c ≠ 0 ∧ ∃ y, stp g s a bv x = some y ∧ RW (sTell S s c) y ∧ xI y ∧ ∀ j, 66 ≤ j → j < 94 → y j = trX x s a bv j) := by
    intro al S' hp hal hS
    unfold stp
    rcases hp with ⟨p1, p2⟩ | ⟨p1, p2, p3, p4, p5⟩
    · left; exact ⟨hal.mpr p1, if_pos p2⟩
    · right; exact ⟨fun z => hal.mp z p1, _, if_neg p2, by rw [hS]; exact p3, p4, p5⟩
  have biz : ∀ (P : Prop) [Decidable P], bi P = 0 ↔ ¬ P := fun P _ => ⟨fun z y => bi_ne.mpr y z, fun z => Classical.byContradiction (fun y => z (bi_ne.mp y))⟩
  have hal : alF S s c = if S 2 (s * 5 + 1) = nI 31 then bi (atP S (pp S s 0 c).toNatClampNeg (S 2 (s * 5 + 2) - nI 10).toNatClampNeg) else if S 2 (s * 5 + 1) = nI 32 then bi (mhP S (pp S s 0 c) (S 2 (s * 5 + 2) - nI 10).toNatClampNeg) else if S 2 (s * 5 + 1) = nI 33 then (if pp S s 1 c = -1 then nI 0 else bi (agP S (pp S s 0 c).toNatClampNeg (S 2 (s * 5 + 2) - nI 10).toNatClampNeg (pp S s 1 c).toNatClampNeg)) else nI 1 := by
    unfold alF; rw [if_neg (by rw [e0]; exact n1)]
  by_cases h30 : g (s * 5 + 1) = nI 30
  · have hl : isL (g (s * 5 + 2)) := by
      rcases ok with q | q
      · exact q.2
      · rw [h30] at q; rcases q.1 with z | z | z <;> exact absurd z (by decide)
    have hT := sTell_30 ha e0 (by rw [hg]; exact h30)
    rw [hg] at hT
    refine fin True _ (by rw [vb_30 h30]; exact go_x h' hx' ha hl) ?_ hT.symm
    rw [hal, hg, h30, if_neg (by decide), if_neg (by decide), if_neg (by decide)]
    exact ⟨fun z => absurd z (by decide), fun z => absurd trivial z⟩
  · obtain ⟨t, ht, et⟩ := okM_T ok h30
    have et' : S 2 (s * 5 + 2) - nI 10 = nI t := by rw [hg]; exact et
    by_cases h31 : g (s * 5 + 1) = nI 31
    · refine fin _ _ (by rw [vb_31 h30 h31 ht et]; exact tk_x h' hx' ha ht) ?_ (sTell_31 ha ht e0 (by rw [hg]; exact h31) et').symm
      rw [hal, if_pos (by rw [hg]; exact h31), et', e0, nI_clamp (by omega), nI_clamp (by omega)]; exact biz _
    · by_cases h32 : g (s * 5 + 1) = nI 32
      · refine fin _ _ (by rw [vb_32 h30 h31 h32 ht et]; exact dp_x h' hx' ha ht) ?_ (sTell_32 ha ht e0 (by rw [hg]; exact h32) et').symm
        rw [hal, if_neg (by rw [hg]; exact h31), if_pos (by rw [hg]; exact h32), et', e0, nI_clamp (by omega)]; exact biz _
      · have h33 := okM_not ok h30 h31 h32
        obtain ⟨b, hb, rfl, e1⟩ := hbv h33
        refine fin _ _ (by rw [vb_33 h30 h31 h32 ht hb et]; exact gv_x h' hx' ha hb ht) ?_ (sTell_33 ha ht hb e0 (by rw [hg]; exact h33) et' e1).symm
        rw [hal, if_neg (by rw [hg]; exact h31), if_neg (by rw [hg]; exact h32), if_pos (by rw [hg]; exact h33), if_neg (by rw [e1]; exact m1_ne (by omega)), et', e0, e1, nI_clamp (by omega), nI_clamp (by omega), nI_clamp (by omega)]; exact biz _

