/-! ===== sign and back ===== -/
theorem adT_2 {S : Sx} {n b : Nat} {x : Int32} : adT S n b x 2 = upd (S 2) (n * 5 + b) x := by unfold adT; rw [st_ne (by decide), st_ud]
theorem CI_kk {S S' : Sx} {n : Nat} (h : CI S n) (k : ∀ q, (q = 2 ∨ q = 3 ∨ q = 6 ∨ (20 ≤ q ∧ q < 80)) → S' q = S q) (hn : n ≤ 14) : CI S' n := CI_congr h (fun j _ => by rw [k 2 (by omega)]) (fun j _ => by rw [k 3 (by omega)]) (fun j _ => by rw [k 6 (by omega)]) (fun j hj => k _ (by omega)) (fun j hj => ⟨k _ (by omega), k _ (by omega), k _ (by omega)⟩)
theorem GT_le {g : Nat → Int32} {n m : Nat} (h : GT g n) (hm : m ≤ n) : GT g m := ⟨by have := h.1; omega, fun s hs => h.2.1 s (by omega), fun s hs => h.2.2 s (by omega)⟩
theorem cF_0 {S : Sx} {n : Nat} : castF S n 3 (2 * n + 0) = cnd (S 2) n (S 2 (n * 5)) := by unfold castF; rw [st_at, if_neg (by omega), st_at, if_pos ⟨rfl, rfl⟩]
theorem cF_1 {S : Sx} {n : Nat} : castF S n 3 (2 * n + 1) = if S 2 (n * 5 + 1) = nI 33 then cnd (S 2) n (S 2 (n * 5 + 3)) else nI 0 := by unfold castF; rw [st_at, if_pos ⟨rfl, rfl⟩]
theorem cF_o {S : Sx} {n j : Nat} (h : j < 2 * n) : castF S n 3 j = S 3 j := by unfold castF; rw [st_at, if_neg (by omega), st_at, if_neg (by omega)]
theorem cast_TX {S : Sx} {g : Nat → Int32} {n : Nat} (hg : S 2 = g) (hw : ∀ k, k ≤ n → wfM g k) (h : ∀ s, s < n → S 3 (2 * s + 0) = nI (m0 g s) ∧ S 3 (2 * s + 1) = nI (m1 g s)) : TX (castF S n) g (n + 1) := by
  have hw' : ∀ k, k < n → wfM g k := fun k hk => hw k (by omega)
  refine ⟨by rw [castF_ne (by decide)]; exact hg, fun s hs => ?_⟩
  by_cases e : s = n
  · subst e
    have a := sa_n (hw s (Nat.le_refl s))
    have a2 : g (s * 5) = nI (saN g s) := a.2
    constructor
    · rw [cF_0, hg, a2, cnd_n a.1 hw']; rfl
    · rw [cF_1, hg]
      unfold m1
      by_cases e3 : g (s * 5 + 1) = nI 33
      · have bb := sb_n (hw s (Nat.le_refl s)) e3
        rw [if_pos e3, if_pos e3, bb.2, cnd_n bb.1 hw']
      · rw [if_neg e3, if_neg e3]
  · rw [cF_o (by omega), cF_o (by omega)]; exact h s (by omega)
theorem TX_okS {S : Sx} {g : Nat → Int32} {n t : Nat} (h : TX S g n) (ht : t < n) (w : okM g t) : okS S t := by
  refine ⟨⟨_, m0_lt g t, (h.2 t ht).1⟩, ⟨_, m1_lt g t, (h.2 t ht).2⟩, ?_⟩
  rw [h.1]; exact w
theorem CI_okS {S : Sx} {n b t : Nat} (h : IV S n b) (ht : t < n) : okS S t := by
  obtain ⟨h1, h2, h3, h4, h5, h6, h7, h8, h9, h10, h11⟩ := h
  exact TX_okS (g := S 2) (n := n) ⟨rfl, h11.1⟩ ht (h9.2.1 t ht).2.1
theorem CI_z {S : Sx} {n k : Nat} (h : CI S n) (hk : k ≤ n) : S 6 k = nI (rdN (S 2) k) := (h.2 k hk).1.2.1
theorem ns_of {S : Sx} {g : Nat → Int32} {n : Nat} (h : TX S g (n + 1)) : bcF (S 3 (2 * n + 0)) = nI (n0 g n) := by
  rw [(h.2 n (by omega)).1, (psl_f _ (m0_lt g n)).1]; rfl
theorem nr_of {S : Sx} {g : Nat → Int32} {n : Nat} (h : TX S g (n + 1)) : (if g (n * 5 + 1) = nI 33 then bcF (S 3 (2 * n + 1)) else nI 1) = nI (n1 g n) := by
  unfold n1
  by_cases e : g (n * 5 + 1) = nI 33
  · rw [if_pos e, if_pos e, (h.2 n (by omega)).2, (psl_f _ (m1_lt g n)).1]
  · rw [if_neg e, if_neg e]
theorem op_sign_go {G : Cx} {S : Sx} {n b : Nat} {x : Int32} (hN : 88 ≤ gN G) (h : IV S n b) (hf : fitF n b (S 2) x ≠ 0) (hx : x ≠ nI 50) : ∃ (r : Int32) (S1 S2 : Sx) (n' b' : Nat), (r = 0 ∨ r = 1) ∧ CT G 7 yX5_sign cX5_sign 2 (some .boolean) [ra G 0, .int x] S r S1 ∧ CT G 5 yX6_sign cX6_sign 2 (some .boolean) [ra G 80, .int x] S1 r S2 ∧ IV S2 n' b' := by
  have hb := IV_b h
  obtain ⟨h1, h2, h3, h4, h5, h6, h7, h8, h9, h10, h11⟩ := h
  have hn : n < 14 := by
    apply Classical.byContradiction
    intro z
    unfold fitF at hf; rw [if_neg z] at hf; exact hf rfl
  obtain ⟨hb5, hbg⟩ := BG_go hn h2 h10 hf hx
  have c80 : ∀ q, 80 ≤ q → adT S n b x q = S q := fun q hq => adT_ne (by omega) (by omega)
  refine ⟨nI 1, adT S n b x, adM (adT S n b x) n b x, n, b + 1, Or.inr rfl, kX5_sign_go (Nat.le_trans (by decide) hN) h4 h5 h1 h2 hf hx, kX6_sign_go hN (by rw [c80 80 (by decide)]; exact h6) hn h2 (by rw [c80 82 (by decide)]; exact hb hn) (by rw [c80 81 (by decide), h7]; exact hf) hx, ?_⟩
  have e2 : adM (adT S n b x) n b x 2 = upd (S 2) (n * 5 + b) x := by rw [adM_ne (by decide) (by decide)]; exact adT_2
  have lo : ∀ j, j < 5 * n → S 2 j = adM (adT S n b x) n b x 2 j := fun j hj => by rw [e2, ud_ne (by omega)]
  have ke : ∀ q, q < 80 → q ≠ 1 → q ≠ 2 → adM (adT S n b x) n b x q = S q := fun q k1 k2 k3 => by rw [adM_ne (by omega) (by omega), adT_ne k2 k3]
  refine ⟨h1, hb5, fun z => absurd z (by omega), ?_, ?_, ?_, ?_, fun s hs hs14 => ?_, GT_loc lo h9, by rw [e2]; exact hbg, CI_congr h11 lo (fun j _ => by rw [ke 3 (by decide) (by decide) (by decide)]) (fun j _ => by rw [ke 6 (by decide) (by decide) (by decide)]) (fun j hj => ke _ (by omega) (by omega) (by omega)) (fun j hj => ⟨ke _ (by omega) (by omega) (by omega), ke _ (by omega) (by omega) (by omega), ke _ (by omega) (by omega) (by omega)⟩)⟩
  · rw [adM_ne (by decide) (by decide)]; unfold adT; rw [st_at, if_neg (by omega), st_ne (by decide)]; exact h4
  · rw [adM_ne (by decide) (by decide)]; unfold adT; rw [st_at, if_pos ⟨rfl, rfl⟩]
  · rw [adM_ne (by decide) (by decide), c80 80 (by decide)]; exact h6
  · rw [e2]; unfold adM; rw [st_ne (by decide), st_ud, c80 81 (by decide), h7, Nat.mul_comm 5 n]
  · rw [e2]
    unfold adM
    rw [st_at]
    by_cases e : s = n
    · subst e
      rw [if_pos ⟨rfl, rfl⟩]; unfold tl; rw [if_pos rfl]
    · rw [if_neg (fun z => e z.2), st_ne (by decide), c80 82 (by decide), h8 s hs hs14]
      unfold tl
      rw [if_neg e, if_neg e, wl_loc (g := S 2) (g' := upd (S 2) (n * 5 + b) x) (by rw [ud_ne (by omega)])]
theorem op_sign_end {G : Cx} {S : Sx} {n b : Nat} (hN : 88 ≤ gN G) (h : IV S n b) (hf : fitF n b (S 2) (nI 50) ≠ 0) : ∃ (r : Int32) (S1 S2 : Sx) (n' b' : Nat), (r = 0 ∨ r = 1) ∧ CT G 7 yX5_sign cX5_sign 2 (some .boolean) [ra G 0, .int (nI 50)] S r S1 ∧ CT G 5 yX6_sign cX6_sign 2 (some .boolean) [ra G 80, .int (nI 50)] S1 r S2 ∧ IV S2 n' b' := by
  have hb := IV_b h
  obtain ⟨h1, h2, h3, h4, h5, h6, h7, h8, h9, h10, h11⟩ := h
  obtain ⟨hn, hwn, hwl⟩ := BG_end h2 h10 hf
  obtain ⟨g', eg⟩ : ∃ g', g' = upd (S 2) (n * 5 + b) (nI 50) := ⟨_, rfl⟩
  rw [← eg] at hwn hwl
  have lo : ∀ j, j < 5 * n → S 2 j = g' j := fun j hj => by rw [eg, ud_ne (by omega)]
  have hG' : GT g' n := GT_loc lo h9
  have hw : ∀ k, k ≤ n → wfM g' k := fun k hk => by
    by_cases e : k = n
    · rw [e]; exact hwn
    · exact hG'.2.1 k (by omega)
  have hok : ∀ s, s < n + 1 → okM g' s := fun s hs => (hw s (by omega)).2.1
  have eX : ∀ k, k ≤ n → rdX g' k = rdX (S 2) k := fun k hk => (rdX_loc k (fun j hj => lo j (by omega))).symm
  have eA : adT S n b (nI 50) 2 = g' := by rw [adT_2, eg]
  have hT : TX (castF (adT S n b (nI 50)) n) g' (n + 1) := cast_TX eA hw (fun s hs => by
    rw [adT_ne (by decide) (by decide), ← m0_loc (g := S 2) (g' := g') (fun j hj => lo j (by omega)), ← m1_loc (g := S 2) (g' := g') (fun j hj => lo j (by omega))]
    exact h11.1 s hs)
  obtain ⟨T, eT⟩ : ∃ T, T = castF (adT S n b (nI 50)) n := ⟨_, rfl⟩
  have kT : ∀ q, q ≠ 1 → q ≠ 2 → q ≠ 3 → T q = S q := fun q k1 k2 k3 => by rw [eT, castF_ne k3, adT_ne k1 k2]
  obtain ⟨R, eR⟩ : ∃ R, ews n (n0 g' n) (n1 g' n) (rdN (S 2) n) 0 (st T 6 (n + 1) (nI 0)) 0 = R := ⟨_, rfl⟩
  have hz64 := (h9.2.2 n (Nat.le_refl n)).2
  have K1 := kX5_sign_end (G := G) (R := R) (Nat.le_trans (by decide) hN) h4 h5 h1 h2 hf (CI_z h11 (Nat.le_refl n)) hz64 (fun t ht => TX_okS hT (by omega) (hok t (by omega))) (ns_of hT) (by rw [eA]; exact nr_of hT) (Nat.le_trans (n0_2 hw) (by decide)) (Nat.le_trans (n1_2 hw) (by decide)) (by rw [← eT]; exact eR)
  have hrep := ews_rep (S0 := st T 6 (n + 1) (nI 0)) (g := g') (s := n) (L := rdX g' n) (by omega) ⟨by rw [st_ne (by decide), eT]; exact hT.1, fun s hs => by rw [st_ne (by decide), eT]; exact hT.2 s hs⟩ hw (fun r x hx => by
    rw [eX n (Nat.le_refl n)] at hx
    obtain ⟨C, c1, c2⟩ := (h11.2 n (Nat.le_refl n)).1.2.2 r x hx
    exact ⟨C, by rw [st_ne (by omega), kT _ (by omega) (by omega) (by omega)]; exact c1, SP_loc n C x lo c2⟩) (rdN (S 2) n) 0 (st T 6 (n + 1) (nI 0)) 0 [] (by rw [eX n (Nat.le_refl n), Nat.zero_add]; rfl) (fun _ _ _ _ => rfl) ⟨rfl, by rw [st_at, if_pos ⟨rfl, rfl⟩], fun r x hx => by simp at hx⟩ (by decide)
  rw [eR, List.nil_append, List.drop_zero] at hrep
  have hrep : (R.2.2 = true ∧ PW R.1 g' (n + 1) R.2.1 (rdX g' (n + 1)) ∧ R.2.1 ≤ 64) ∨ (R.2.2 = false ∧ 64 < rdN g' (n + 1)) := hrep
  have kR : ∀ q, q ≠ 6 → q ≠ 20 + (n + 1) → (q < 8 ∨ 13 < q) → R.1 q = T q := fun q k1 k2 k3 => by rw [← eR, ews_keep k1 k2 k3, st_ne k1]
  have kR6 : ∀ j, j ≠ n + 1 → R.1 6 j = S 6 j := fun j hj => by rw [← eR, ews_6 hj, st_at, if_neg (fun z => hj z.2), kT 6 (by decide) (by decide) (by decide)]
  have hans : bb (R.2.2 && decide (0 < R.2.1)) = bi (1 ≤ rdN g' (n + 1) ∧ rdN g' (n + 1) ≤ 64) := by
    rcases hrep with ⟨a1, a2, a3⟩ | ⟨a1, a2⟩
    · have e : R.2.1 = rdN g' (n + 1) := a2.1
      rw [a1, Bool.true_and, ← e]
      by_cases q : 0 < R.2.1
      · rw [decide_eq_true q, ← bi_t (show 1 ≤ R.2.1 ∧ R.2.1 ≤ 64 from ⟨q, a3⟩)]; rfl
      · rw [decide_eq_false q, ← bi_f (show ¬ (1 ≤ R.2.1 ∧ R.2.1 ≤ 64) from fun z => q z.1)]; rfl
    · rw [a1, Bool.false_and, ← bi_f (show ¬ (1 ≤ rdN g' (n + 1) ∧ rdN g' (n + 1) ≤ 64) from fun z => by omega)]; rfl
  -- the class's state, as far as it is kept
  have kF : ∀ q, q ≠ 1 → q ≠ 2 → q ≠ 3 → q ≠ 6 → q ≠ 20 + (n + 1) → (q < 8 ∨ 13 < q) → q ≠ 35 + (n + 1) → q ≠ 50 + (n + 1) → q ≠ 65 + (n + 1) → fnS R n q = S q := fun q k1 k2 k3 k6 k20 kw k35 k50 k65 => by
    unfold fnS; split
    · rw [clF_ne k65, faS_ne2 (by omega) k35 k50 k65, clsF_ne k1, kR q k6 k20 kw, kT q k1 k2 k3]
    · rw [st_ne k1, kR q k6 k20 kw, kT q k1 k2 k3]
  have kF23 : ∀ q, q = 2 ∨ q = 3 → fnS R n q = T q := fun q hq => by
    unfold fnS; split
    · rw [clF_ne (by omega), faS_ne2 (by omega) (by omega) (by omega) (by omega), clsF_ne (by omega), kR q (by omega) (by omega) (by omega)]
    · rw [st_ne (by omega), kR q (by omega) (by omega) (by omega)]
  have kF6 : ∀ j, j ≠ n + 1 → fnS R n 6 j = S 6 j := fun j hj => by
    unfold fnS; split
    · rw [clF_ne (by omega), faS_ne2 (by omega) (by omega) (by omega) (by omega), clsF_ne (by omega)]; exact kR6 j hj
    · rw [st_ne (by omega)]; exact kR6 j hj
  have f2 : fnS R n 2 = g' := by rw [kF23 2 (Or.inl rfl), eT]; exact hT.1
  have hCIn : CI (fnS R n) n := CI_congr h11 (fun j hj => by rw [f2]; exact lo j hj) (fun j hj => by rw [kF23 3 (Or.inr rfl), eT, cF_o hj, adT_ne (by decide) (by decide)]) (fun k hk => kF6 k (by omega)) (fun k hk => kF _ (by omega) (by omega) (by omega) (by omega) (by omega) (by omega) (by omega) (by omega) (by omega)) (fun k hk => ⟨kF _ (by omega) (by omega) (by omega) (by omega) (by omega) (by omega) (by omega) (by omega) (by omega), kF _ (by omega) (by omega) (by omega) (by omega) (by omega) (by omega) (by omega) (by omega) (by omega), kF _ (by omega) (by omega) (by omega) (by omega) (by omega) (by omega) (by omega) (by omega) (by omega)⟩)
  have k80 : ∀ q, 80 ≤ q → fnS R n q = S q := fun q hq => kF q (by omega) (by omega) (by omega) (by omega) (by omega) (by omega) (by omega) (by omega) (by omega)
  -- the model
  have e81 : mS2 (fnS R n) n b 81 = g' := by unfold mS2 adM; rw [st_ne (by decide), st_ne (by decide), st_ud, k80 81 (by decide), h7, Nat.mul_comm 5 n, eg]
  have hrn : ∀ s, s ≤ n + 1 → (rdL (mS2 (fnS R n) n b) s).2 = rdN g' s := fun s hs => by
    have := rdL_n (S := mS2 (fnS R n) n b) (k := s) (by omega) (fun t ht => by rw [e81]; exact hok t (by omega))
    rw [this, e81]
  have hn64 : ∀ s, s ≤ n → rdN g' s ≤ 64 := fun s hs => (hG'.2.2 s hs).2
  have K2 := kX6_sign_end (G := G) (S := fnS R n) hN (by rw [k80 80 (by decide)]; exact h6) hn h2 (by rw [k80 82 (by decide)]; exact hb hn) (by rw [k80 81 (by decide), h7]; exact hf) (fun s hs => by rw [e81]; exact hw s (by omega)) (fun s hs => by rw [hrn s (by omega)]; exact hn64 s (by omega)) (by rw [hrn (n + 1) (Nat.le_refl _)]; have := rdN_4 hw; have := hn64 n (Nat.le_refl n); omega)
  rw [hrn (n + 1) (Nat.le_refl _)] at K2
  rw [hans] at K1
  have kmS2 : ∀ q, q < 80 → mS2 (fnS R n) n b q = fnS R n q := fun q hq => by unfold mS2; rw [st_ne (by omega), adM_ne (by omega) (by omega)]
  have e82 : ∀ s, s < n → (rdL (mS2 (fnS R n) n b) (n + 1)).1 82 s = nI (wl g' s) := fun s hs => by
    rw [(rdL_kM _ _).2.2.1]; unfold mS2 adM
    rw [st_ne (by decide), st_at, if_neg (by omega), st_ne (by decide), k80 82 (by decide), h8 s (by omega) (by omega)]
    unfold tl
    rw [if_neg (by omega), wl_loc (g := S 2) (g' := g') (lo _ (by omega))]
  have e82n : (rdL (mS2 (fnS R n) n b) (n + 1)).1 82 n = nI (wl g' n) := by
    rw [(rdL_kM _ _).2.2.1, hwl]; unfold mS2 adM
    rw [st_ne (by decide), st_at, if_pos ⟨rfl, rfl⟩]
  have kr : ∀ q, q < 80 → (rdL (mS2 (fnS R n) n b) (n + 1)).1 q = fnS R n q := fun q hq => by rw [(rdL_kM _ _).2.2.2 q hq, kmS2 q hq]
  have kr81 : (rdL (mS2 (fnS R n) n b) (n + 1)).1 81 = g' := by rw [(rdL_kM _ _).1, e81]
  by_cases suc : 1 ≤ rdN g' (n + 1) ∧ rdN g' (n + 1) ≤ 64
  · -- the sentence stays
    obtain ⟨a1, a2, a3⟩ : R.2.2 = true ∧ PW R.1 g' (n + 1) R.2.1 (rdX g' (n + 1)) ∧ R.2.1 ≤ 64 := by
      rcases hrep with q | q
      · exact q
      · exact absurd suc.2 (by omega)
    have ez : R.2.1 = rdN g' (n + 1) := a2.1
    have eF : fnS R n = clF (faS (clsF R.1 n) (n + 1) R.2.1) (n + 1) 36 := by unfold fnS; rw [if_pos (by rw [a1, decide_eq_true (by omega : 0 < R.2.1)]; rfl)]
    have hTU : TX (clsF R.1 n) g' (n + 1) := ⟨by rw [clsF_ne (by decide), kR 2 (by omega) (by omega) (by omega), eT]; exact hT.1, fun s hs => by rw [clsF_ne (by decide), kR 3 (by omega) (by omega) (by omega), eT]; exact hT.2 s hs⟩
    have hPU : PW (clsF R.1 n) g' (n + 1) R.2.1 (rdX g' (n + 1)) := PW_congr a2 (by rw [clsF_ne (by decide)]) (by rw [clsF_ne (by omega)])
    have hFD : FD (fnS R n) g' (n + 1) := by rw [eF]; exact fa_FD (by omega) hTU hok hPU (by omega)
    have hPF : PW (fnS R n) g' (n + 1) R.2.1 (rdX g' (n + 1)) := PW_congr hPU (by rw [eF, clF_ne (by omega), faS_ne2 (by omega) (by omega) (by omega) (by omega)]) (by rw [eF, clF_ne (by omega), faS_ne2 (by omega) (by omega) (by omega) (by omega)])
    have hCI : CI (fnS R n) (n + 1) := by
      refine ⟨fun s hs => ?_, fun k hk => ?_⟩
      · rw [f2, kF23 3 (Or.inr rfl), eT]; exact hT.2 s hs
      · by_cases e : k = n + 1
        · subst e; rw [f2]; exact ⟨by rw [← ez]; exact hPF, hFD⟩
        · exact hCIn.2 k (by omega)
    have hGT : GT g' (n + 1) := ⟨by omega, fun s hs => hw s (by omega), fun s hs => by
      by_cases e : s = n + 1
      · rw [e]; exact suc
      · exact hG'.2.2 s (by omega)⟩
    have eM : mS3 (fnS R n) n b = if n + 1 < 14 then st (rdL (mS2 (fnS R n) n b) (n + 1)).1 82 (n + 1) (nI 0) else (rdL (mS2 (fnS R n) n b) (n + 1)).1 := by
      unfold mS3; rw [hrn (n + 1) (Nat.le_refl _), if_pos suc]
    have q1 : ∀ q, q < 80 → mS3 (fnS R n) n b q = fnS R n q := fun q hq => by
      rw [eM]; split
      · rw [st_ne (by omega)]; exact kr q hq
      · exact kr q hq
    refine ⟨_, fnS R n, mS3 (fnS R n) n b, n + 1, 0, bi_01 _, K1, K2, by omega, by decide, fun _ => rfl, ?_, ?_, ?_, ?_, fun s hs hs14 => ?_, ?_, BG_0 _ _, CI_kC hCI (fun q hq => q1 q (by omega)) (by omega)⟩
    · rw [q1 1 (by decide), eF, clF_ne (by omega), faS_ne2 (by omega) (by omega) (by omega) (by omega)]; unfold clsF; rw [st_at, if_pos ⟨rfl, rfl⟩]
    · rw [q1 1 (by decide), eF, clF_ne (by omega), faS_ne2 (by omega) (by omega) (by omega) (by omega)]; unfold clsF; rw [st_at, if_neg (by omega), st_at, if_pos ⟨rfl, rfl⟩]
    · rw [eM]; split
      · rw [st_ne (by decide)]; exact mS2_n
      · exact mS2_n
    · rw [q1 2 (by decide), f2, eM]; split
      · rw [st_ne (by decide)]; exact kr81
      · exact kr81
    · rw [q1 2 (by decide), f2, eM]
      unfold tl
      by_cases e : s = n + 1
      · subst e
        rw [if_pos hs14, st_at, if_pos ⟨rfl, rfl⟩, if_pos rfl]
      · rw [if_neg e]
        have : (rdL (mS2 (fnS R n) n b) (n + 1)).1 82 s = nI (wl g' s) := by
          by_cases e2 : s = n
          · rw [e2]; exact e82n
          · exact e82 s (by omega)
        split
        · rw [st_at, if_neg (fun z => e z.2)]; exact this
        · exact this
    · rw [q1 2 (by decide), f2]; exact hGT
  · -- the sentence goes
    have eF : fnS R n = st R.1 1 3 (nI 0) := by
      unfold fnS
      rw [if_neg (fun z => ?_)]
      rw [← bi_f suc] at hans
      rw [z] at hans
      exact absurd hans (by decide)
    have eM : mS3 (fnS R n) n b = st (st (rdL (mS2 (fnS R n) n b) (n + 1)).1 80 0 (nI n)) 82 n (nI 0) := by
      unfold mS3; rw [hrn (n + 1) (Nat.le_refl _), if_neg suc]
    have q1 : ∀ q, q < 80 → mS3 (fnS R n) n b q = fnS R n q := fun q hq => by
      rw [eM, st_ne (by omega), st_ne (by omega)]; exact kr q hq
    refine ⟨_, fnS R n, mS3 (fnS R n) n b, n, 0, bi_01 _, K1, K2, h1, by decide, fun _ => rfl, ?_, ?_, ?_, ?_, fun s hs hs14 => ?_, ?_, BG_0 _ _, CI_kC hCIn (fun q hq => q1 q (by omega)) h1⟩
    · rw [q1 1 (by decide), eF, st_at, if_neg (by omega), kR 1 (by omega) (by omega) (by omega), eT, castF_ne (by decide)]; unfold adT; rw [st_at, if_neg (by omega), st_ne (by decide)]; exact h4
    · rw [q1 1 (by decide), eF, st_at, if_pos ⟨rfl, rfl⟩]
    · rw [eM, st_ne (by decide), st_at, if_pos ⟨rfl, rfl⟩]
    · rw [q1 2 (by decide), f2, eM, st_ne (by decide), st_ne (by decide)]; exact kr81
    · rw [q1 2 (by decide), f2, eM, st_at]
      unfold tl
      by_cases e : s = n
      · rw [if_pos ⟨rfl, e⟩, if_pos e]
      · rw [if_neg (fun z => e z.2), if_neg e, st_ne (by decide)]; exact e82 s (by omega)
    · rw [q1 2 (by decide), f2]; exact hG'
theorem op_sign {G : Cx} {S : Sx} {n b : Nat} (x : Int32) (hN : 88 ≤ gN G) (h : IV S n b) : ∃ (r : Int32) (S1 S2 : Sx) (n' b' : Nat), (r = 0 ∨ r = 1) ∧ CT G 7 yX5_sign cX5_sign 2 (some .boolean) [ra G 0, .int x] S r S1 ∧ CT G 5 yX6_sign cX6_sign 2 (some .boolean) [ra G 80, .int x] S1 r S2 ∧ IV S2 n' b' := by
  by_cases hf : fitF n b (S 2) x = 0
  · have h0 := h
    obtain ⟨h1, h2, h3, h4, h5, h6, h7, h8, h9, h10, h11⟩ := h
    exact ⟨nI 0, S, S, n, b, Or.inl rfl, kX5_sign_no (Nat.le_trans (by decide) hN) h4 h5 h1 h2 hf, kX6_sign_no hN h6 h1 h2 (IV_b h0) (by rw [h7]; exact hf), h0⟩
  · by_cases hx : x = nI 50
    · subst hx; exact op_sign_end hN h hf
    · exact op_sign_go hN h hf hx
theorem op_back {G : Cx} {S : Sx} {n b : Nat} (hN : 88 ≤ gN G) (h : IV S n b) : ∃ (r : Int32) (S1 S2 : Sx) (n' b' : Nat), (r = 0 ∨ r = 1) ∧ CT G 1 yX5_back cX5_back 1 (some .boolean) [ra G 0] S r S1 ∧ CT G 0 yX6_back cX6_back 1 (some .boolean) [ra G 80] S1 r S2 ∧ IV S2 n' b' := by
  have h0 := h
  have hb := IV_b h
  obtain ⟨h1, h2, h3, h4, h5, h6, h7, h8, h9, h10, h11⟩ := h
  have K1 := kX5_back (G := G) (S := S) (Nat.le_trans (by decide) hN) h4 h5 h1 h2
  by_cases b0 : 0 < b
  · rw [if_pos b0] at K1
    have K2 := kX6_back (G := G) (S := st S 1 3 (nI 0)) (n := n) (b := b) hN (by rw [st_ne (by decide)]; exact h6) h1 h2 (fun hn => by rw [st_ne (by decide)]; exact hb hn) h3
    rw [if_pos b0] at K2
    have hn : n < 14 := by
      apply Classical.byContradiction; intro z; have := h3 (by omega); omega
    refine ⟨_, _, _, n, 0, bi_01 _, K1, K2, h1, by decide, fun _ => rfl, ?_, ?_, ?_, ?_, fun s hs hs14 => ?_, ?_, BG_0 _ _, CI_kk h11 (fun q hq => ?_) h1⟩
    · rw [st_ne (by decide), st_at, if_neg (by omega)]; exact h4
    · rw [st_ne (by decide), st_at, if_pos ⟨rfl, rfl⟩]
    · rw [st_ne (by decide), st_ne (by decide)]; exact h6
    · rw [st_ne (by decide), st_ne (by decide), st_ne (by decide), st_ne (by decide)]; exact h7
    · rw [st_ne (show 2 ≠ 82 by decide), st_ne (show 2 ≠ 1 by decide), st_at]
      unfold tl
      by_cases e : s = n
      · rw [if_pos ⟨rfl, e⟩, if_pos e]
      · rw [if_neg (fun z => e z.2), if_neg e, st_ne (by decide), h8 s hs hs14]; unfold tl; rw [if_neg e]
    · rw [st_ne (by decide), st_ne (by decide)]; exact h9
    · rw [st_ne (by omega), st_ne (by omega)]
  · rw [if_neg b0] at K1
    have b00 : b = 0 := by omega
    by_cases n0 : 0 < n
    · rw [if_pos n0] at K1
      have K2 := kX6_back (G := G) (S := st S 1 2 (nI (n - 1))) (n := n) (b := b) hN (by rw [st_ne (by decide)]; exact h6) h1 h2 (fun hn => by rw [st_ne (by decide)]; exact hb hn) h3
      rw [if_neg b0, if_pos n0] at K2
      refine ⟨_, _, _, n - 1, 0, bi_01 _, K1, K2, by omega, by decide, fun _ => rfl, ?_, ?_, ?_, ?_, fun s hs hs14 => ?_, ?_, BG_0 _ _, CI_kk (CI_le h11 (by omega)) (fun q hq => ?_) (by omega)⟩
      · rw [st_ne (by decide), st_ne (by decide), st_at, if_pos ⟨rfl, rfl⟩]
      · rw [st_ne (by decide), st_ne (by decide), st_at, if_neg (by omega), h5, b00]
      · rw [st_ne (by decide), st_at, if_pos ⟨rfl, rfl⟩]
      · rw [st_ne (by decide), st_ne (by decide), st_ne (by decide), st_ne (by decide), st_ne (by decide), st_ne (by decide)]; exact h7
      · rw [st_ne (show 2 ≠ 82 by decide), st_ne (show 2 ≠ 80 by decide), st_ne (show 2 ≠ 1 by decide), st_at]
        unfold tl
        by_cases e : s = n - 1
        · rw [if_pos ⟨rfl, e⟩, if_pos e]
        · rw [if_neg (fun z => e z.2), if_neg e, st_ne (by decide), st_ne (by decide), h8 s (by omega) hs14]; unfold tl; rw [if_neg (by omega)]
      · rw [st_ne (by decide), st_ne (by decide), st_ne (by decide)]; exact GT_le h9 (by omega)
      · rw [st_ne (by omega), st_ne (by omega), st_ne (by omega)]
    · rw [if_neg n0] at K1
      have K2 := kX6_back (G := G) (S := S) (n := n) (b := b) hN h6 h1 h2 hb h3
      rw [if_neg b0, if_neg n0] at K2
      exact ⟨_, _, _, n, b, bi_01 _, K1, K2, h0⟩
