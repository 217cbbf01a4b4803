/-! ===== the calls that ask ===== -/
def OPM (G : Cx) (d : Nat) (y : MethodName) (cc : ByteArray) (nL : Nat) (ret : Option FieldType) (as : List Value) (S : Sx) (r : Int32) : Prop := ∃ P : Int32 → Sx → Prop, CTp G d y cc nL ret as S P ∧ ∀ (r0 : Int32) (S2 : Sx), P r0 S2 → r0 = r ∧ ∃ n b, IV S2 n b
theorem OPM_ct {G : Cx} {d : Nat} {y : MethodName} {cc : ByteArray} {nL : Nat} {ret : Option FieldType} {as : List Value} {S S' : Sx} {r : Int32} {n b : Nat} (h : CT G d y cc nL ret as S r S') (hi : IV S' n b) : OPM G d y cc nL ret as S r := ⟨_, CT_p h, fun r0 S2 q => ⟨q.1, n, b, by rw [q.2]; exact hi⟩⟩
theorem OPM_e {G : Cx} {d : Nat} {y : MethodName} {cc : ByteArray} {nL : Nat} {ret : Option FieldType} {as : List Value} {S S' : Sx} {r r' : Int32} {n b : Nat} (h : CT G d y cc nL ret as S r' S') (e : r' = r) (hi : IV S' n b) : OPM G d y cc nL ret as S r := OPM_ct (e ▸ h) hi
theorem op_told {G : Cx} {S : Sx} {n b : Nat} (x y : Int32) (hN : 88 ≤ gN G) (h : IV S n b) : ∃ (r : Int32) (S1 : Sx), CT G 3 yX5_told cX5_told 3 (some .int) [ra G 0, .int x, .int y] S r S1 ∧ OPM G 1 yX6_told cX6_told 3 (some .int) [ra G 80, .int x, .int y] S1 r := by
  have h0 := h
  obtain ⟨h1, h2, h3, h4, h5, h6, h7, h8, h9, h10, h11⟩ := h
  refine ⟨_, S, kX5_told (Nat.le_trans (by decide) hN) h4 h5 h1 h2, OPM_e (kX6_told hN h6 h1 h2 (by rw [h7]; exact h8)) (by rw [h7]) h0⟩
theorem n_rd {S : Sx} {n b k : Nat} (h : IV S n b) (hk : k ≤ n) : (rdL S k).2 = rdN (S 2) k := by
  have hg := IV_GT h
  obtain ⟨h1, h2, h3, h4, h5, h6, h7, h8, h9, h10, h11⟩ := h
  rw [rdL_n (by omega) (GT_ok hg hk), h7]
theorem op_readings {G : Cx} {S : Sx} {n b : Nat} (x : Int32) (hN : 88 ≤ gN G) (h : IV S n b) : ∃ (r : Int32) (S1 : Sx), CT G 1 yX5_readings cX5_readings 2 (some .int) [ra G 0, .int x] S r S1 ∧ OPM G 5 yX6_readings cX6_readings 2 (some .int) [ra G 80, .int x] S1 r := by
  have h0 := h
  obtain ⟨h1, h2, h3, h4, h5, h6, h7, h8, h9, h10, h11⟩ := h
  have K := kX5_readings (G := G) (S := S) (x := x) (Nat.le_trans (by decide) hN) h4 h1
  refine ⟨_, S, K, ?_⟩
  by_cases p : pfP n x
  · rw [if_pos p]
    obtain ⟨k, hk, rfl⟩ := pf_nat (by omega) p
    refine OPM_e (kX6_readings hN h6 h1 hk (GT_MR (IV_GT h0) hk)) ?_ (IV_kM h0 (rdL_kM S k))
    rw [nI_clamp (by omega), CI_z h11 hk, n_rd h0 hk]
  · rw [if_neg p]
    exact OPM_ct (kX6_readings_no hN h6 h1 p) h0
theorem rd_at {S : Sx} {n b t : Nat} (h : IV S n b) (ht : t < rdN (S 2) n) : ∃ (x : Xs) (C : Nat), (rdX (S 81) n)[t]? = some x ∧ S (20 + n) t = nI C ∧ RW (goT S (nI C) n) x ∧ xI x ∧ (∀ s w, s < n → w < 2 → x (66 + 2 * s + w) = pp S s w (nI C)) ∧ ∀ j, j < 104 → (rdL S n).1 83 (104 * t + j) = x j := by
  have hg := IV_GT h
  obtain ⟨h1, h2, h3, h4, h5, h6, h7, h8, h9, h10, h11⟩ := h
  have hx : (rdX (S 2) n)[t]? = some (rdX (S 2) n)[t] := List.getElem?_eq_getElem ht
  obtain ⟨C, c1, c2⟩ := (h11.2 n (Nat.le_refl n)).1.2.2 t _ hx
  obtain ⟨r1, r2, r3⟩ := SP_rw0 (S := S) (g := S 2) h1 ⟨rfl, h11.1⟩ (fun s hs => (h9.2.1 s hs).2.1) c2
  refine ⟨_, C, by rw [h7]; exact hx, c1, r1, r2, r3, fun j hj => ?_⟩
  exact rdL_x h1 (GT_ok hg (Nat.le_refl n)) (by rw [h7]; exact hx) hj
theorem i_nat {x : Int32} {m : Nat} (h : 0 ≤ x.toInt) (h2 : x.toInt < m) (hm : m < 2147483648) : ∃ k, k < m ∧ x = nI k := ⟨x.toInt.toNat, by omega, i_of (by omega) (by omega)⟩
theorem op_means {G : Cx} {S : Sx} {n b : Nat} (x w r : Int32) (hN : 88 ≤ gN G) (h : IV S n b) : ∃ (v : Int32) (S1 : Sx), CT G 2 yX5_means cX5_means 4 (some .int) [ra G 0, .int x, .int w, .int r] S v S1 ∧ OPM G 5 yX6_means cX6_means 4 (some .int) [ra G 80, .int x, .int w, .int r] S1 v := by
  have h0 := h
  obtain ⟨h1, h2, h3, h4, h5, h6, h7, h8, h9, h10, h11⟩ := h
  have hN' : 80 ≤ gN G := Nat.le_trans (by decide) hN
  have hz := CI_z h11 (Nat.le_refl n)
  have hz64 := (h9.2.2 n (Nat.le_refl n)).2
  have hM := GT_MR (S := S) (IV_GT h0) (Nat.le_refl n)
  by_cases p : (0 ≤ x.toInt ∧ x.toInt < n) ∧ rdP (rdN (S 2) n) r ∧ (w = nI 0 ∨ w = nI 1)
  · obtain ⟨⟨p1, p2⟩, p3, p4⟩ := p
    obtain ⟨s, hs, rfl⟩ := i_nat p1 p2 (by omega)
    obtain ⟨t, ht, rfl⟩ := i_nat p3.1 p3.2 (by omega)
    obtain ⟨u, hu, rfl⟩ : ∃ u, u < 2 ∧ w = nI u := by rcases p4 with q | q; exact ⟨0, by decide, q⟩; exact ⟨1, by decide, q⟩
    obtain ⟨y, C, -, c1, -, -, c4, c5⟩ := rd_at h0 ht
    refine ⟨_, S, kX5_means hN' h4 h1 hz hz64 hs hu ht, OPM_e (kX6_means hN h6 h1 hs hu hM (by rw [n_rd h0 (Nat.le_refl n)]; exact ht)) ?_ (IV_kM h0 (rdL_kM S n))⟩
    rw [c1, ← c4 s u hs hu, show 104 * t + 66 + 2 * s + u = 104 * t + (66 + 2 * s + u) by omega, c5 _ (by omega)]
  · refine ⟨_, S, kX5_means_no hN' h4 h1 hz hz64 p, ?_⟩
    by_cases q : (0 ≤ x.toInt ∧ x.toInt < n) ∧ (w = nI 0 ∨ w = nI 1) ∧ 0 ≤ r.toInt
    · obtain ⟨⟨p1, p2⟩, p4, p5⟩ := q
      have hge : (rdN (S 2) n : Int) ≤ r.toInt := by
        apply Classical.byContradiction
        intro z
        exact p ⟨⟨p1, p2⟩, ⟨p5, by omega⟩, p4⟩
      obtain ⟨s, hs, rfl⟩ := i_nat p1 p2 (by omega)
      obtain ⟨u, hu, rfl⟩ : ∃ u, u < 2 ∧ w = nI u := by rcases p4 with q | q; exact ⟨0, by decide, q⟩; exact ⟨1, by decide, q⟩
      exact OPM_ct (kX6_means_no2 hN h6 h1 hs hu hM p5 (by rw [n_rd h0 (Nat.le_refl n)]; exact hge)) (IV_kM h0 (rdL_kM S n))
    · exact OPM_ct (kX6_means_no1 hN h6 h1 q) h0
theorem q_ix {k a : Nat} (hq : qOk k a) : qk (qix k a) = k ∧ qa (qix k a) = a := by rw [qix_b hq.1]; exact qk_b hq
theorem fd_at {S : Sx} {n b j k a : Nat} (h : IV S n b) (hj : j ≤ n) (hq : qOk k a) : S (35 + j) (qix k a) = AN (rdX (S 81) j) k a ∧ S (50 + j) (qix k a) = LV (rdX (S 81) j) k a ∧ S (65 + j) (qix k a) = AK (rdX (S 81) j) k a := by
  obtain ⟨h1, h2, h3, h4, h5, h6, h7, h8, h9, h10, h11⟩ := h
  have := (h11.2 j hj).2 (qix k a) (qix_36 hq)
  rw [(q_ix hq).1, (q_ix hq).2] at this
  rw [h7]; exact this
theorem rd_rep {S : Sx} {n b j : Nat} (h : IV S n b) (hj : j ≤ n) : rep ((rdL S j).1 83) (rdL S j).2 (rdX (S 81) j) ∧ (∀ x ∈ rdX (S 81) j, okX x) ∧ 1 ≤ (rdL S j).2 := by
  have hg := IV_GT h
  have h14 : n ≤ 14 := h.1
  refine ⟨rdL_rep j (by omega) (GT_ok hg hj), rdX_ok j (GT_ok hg hj), ?_⟩
  rw [rdL_n (by omega) (GT_ok hg hj)]; exact (hg.2.2 j hj).1
theorem op_answer {G : Cx} {S : Sx} {n b : Nat} (x y k : Int32) (hN : 88 ≤ gN G) (h : IV S n b) : ∃ (v : Int32) (S1 : Sx), CT G 2 yX5_answer cX5_answer 5 (some .int) [ra G 0, .int x, .int y, .int k] S v S1 ∧ OPM G 5 yX6_answer cX6_answer 4 (some .int) [ra G 80, .int x, .int y, .int k] S1 v := by
  have h0 := h
  obtain ⟨h1, h2, h3, h4, h5, h6, h7, h8, h9, h10, h11⟩ := h
  have hN' : 80 ≤ gN G := Nat.le_trans (by decide) hN
  by_cases p : okQ x y ∧ pfP n k
  · obtain ⟨kk, a, hq, rfl, rfl⟩ := okQ_nat p.1
    obtain ⟨j, hj, rfl⟩ := pf_nat (by omega) p.2
    obtain ⟨r1, r2, r3⟩ := rd_rep h0 hj
    refine ⟨_, S, kX5_answer hN' h4 h1 hq hj, OPM_e (kX6_answer hN h6 h1 hq hj (GT_MR (IV_GT h0) hj)) ?_ (IV_kM h0 (rdL_kM S j))⟩
    rw [(fd_at h0 hj hq).1]; exact an_l r1 r2 r3 hq
  · exact ⟨_, S, kX5_answer_no hN' h4 h1 p, OPM_ct (kX6_answer_no hN h6 h1 p) h0⟩
theorem op_level {G : Cx} {S : Sx} {n b : Nat} (x y k : Int32) (hN : 88 ≤ gN G) (h : IV S n b) : ∃ (v : Int32) (S1 : Sx), CT G 2 yX5_level cX5_level 5 (some .int) [ra G 0, .int x, .int y, .int k] S v S1 ∧ OPM G 5 yX6_level cX6_level 7 (some .int) [ra G 80, .int x, .int y, .int k] S1 v := by
  have h0 := h
  obtain ⟨h1, h2, h3, h4, h5, h6, h7, h8, h9, h10, h11⟩ := h
  have hN' : 80 ≤ gN G := Nat.le_trans (by decide) hN
  by_cases p : okQ x y ∧ pfP n k
  · obtain ⟨kk, a, hq, rfl, rfl⟩ := okQ_nat p.1
    obtain ⟨j, hj, rfl⟩ := pf_nat (by omega) p.2
    obtain ⟨r1, r2, r3⟩ := rd_rep h0 hj
    refine ⟨_, S, kX5_level hN' h4 h1 hq hj, OPM_e (kX6_level hN h6 h1 hq hj (GT_MR (IV_GT h0) hj)) ?_ (IV_kM h0 (rdL_kM S j))⟩
    rw [(fd_at h0 hj hq).2.1]; exact lv_l r1 r2 hq
  · exact ⟨_, S, kX5_level_no hN' h4 h1 p, OPM_ct (kX6_level_no hN h6 h1 p) h0⟩
theorem op_asks {G : Cx} {S : Sx} {n b : Nat} (x y : Int32) (hN : 88 ≤ gN G) (h : IV S n b) : ∃ (v : Int32) (S1 : Sx), CT G 2 yX5_asks cX5_asks 4 (some .int) [ra G 0, .int x, .int y] S v S1 ∧ OPM G 5 yX6_asks cX6_asks 3 (some .int) [ra G 80, .int x, .int y] S1 v := by
  have h0 := h
  obtain ⟨h1, h2, h3, h4, h5, h6, h7, h8, h9, h10, h11⟩ := h
  have hN' : 80 ≤ gN G := Nat.le_trans (by decide) hN
  by_cases p : okQ x y
  · obtain ⟨kk, a, hq, rfl, rfl⟩ := okQ_nat p
    obtain ⟨r1, r2, r3⟩ := rd_rep h0 (Nat.le_refl n)
    refine ⟨_, S, kX5_asks hN' h4 h1 hq, OPM_e (kX6_asks hN h6 h1 hq (GT_MR (IV_GT h0) (Nat.le_refl n))) ?_ (IV_kM h0 (rdL_kM S n))⟩
    rw [(fd_at h0 (Nat.le_refl n) hq).2.2]; exact ak_l r1 r2 r3 hq
  · exact ⟨_, S, kX5_asks_no hN' h4 h1 p, OPM_ct (kX6_asks_no hN h6 h1 p) h0⟩
theorem rdL_kC {S S' : Sx} {n b : Nat} (h : IV S n b) (k : kC S S') : (rdL S' n).2 = rdN (S 2) n := by
  have := n_rd (IV_kC h k) (Nat.le_refl n)
  rw [this, k 2 (by omega)]
theorem op_grounds {G : Cx} {S : Sx} {n b : Nat} (x y r : Int32) (hN : 88 ≤ gN G) (h : IV S n b) : ∃ (v : Int32) (S1 : Sx), CT G 5 yX5_grounds cX5_grounds 4 (some .int) [ra G 0, .int x, .int y, .int r] S v S1 ∧ OPM G 5 yX6_grounds cX6_grounds 4 (some .int) [ra G 80, .int x, .int y, .int r] S1 v := by
  have h0 := h
  obtain ⟨h1, h2, h3, h4, h5, h6, h7, h8, h9, h10, h11⟩ := h
  have hN' : 80 ≤ gN G := Nat.le_trans (by decide) hN
  have hz := CI_z h11 (Nat.le_refl n)
  have hz64 := (h9.2.2 n (Nat.le_refl n)).2
  have hM := GT_MR (S := S) (IV_GT h0) (Nat.le_refl n)
  by_cases p : okQ x y ∧ rdP (rdN (S 2) n) r
  · obtain ⟨kk, a, hq, rfl, rfl⟩ := okQ_nat p.1
    obtain ⟨t, ht, rfl⟩ := i_nat p.2.1 p.2.2 (by omega)
    have kc : kC S (goT S (S (20 + n) t) n) := fun q hq2 => goT_ne (by omega) n
    have hi := IV_kC h0 kc
    obtain ⟨x1, C, c0, c1, c2, c3, -, -⟩ := rd_at h0 ht
    obtain ⟨x2, C2, d0, -, -, d3, -, d5⟩ := rd_at hi (t := t) (by rw [kc 2 (by omega)]; exact ht)
    have ex : x2 = x1 := by
      rw [kc 81 (by omega), c0] at d0; cases d0; rfl
    subst ex
    refine ⟨_, _, kX5_grounds hN' h4 h1 hz hz64 hq ht (fun s hs => CI_okS h0 hs), OPM_e (kX6_grounds hN (by rw [kc 80 (by omega)]; exact h6) h1 hq (GT_MR (IV_GT hi) (Nat.le_refl n)) (by rw [rdL_kC h0 kc]; exact ht)) ?_ (IV_kM hi (rdL_kM _ n))⟩
    have hok : okX x2 := fun u hu => (c3.2 u hu).1
    rw [by_x d5 hok hq, c1]; exact (bs_x c2 c3 hq).symm
  · refine ⟨_, S, kX5_grounds_no hN' h4 h1 hz hz64 p, ?_⟩
    by_cases q : okQ x y ∧ 0 ≤ r.toInt
    · have hge : (rdN (S 2) n : Int) ≤ r.toInt := by
        apply Classical.byContradiction
        intro z
        exact p ⟨q.1, q.2, by omega⟩
      obtain ⟨kk, a, hq, rfl, rfl⟩ := okQ_nat q.1
      exact OPM_ct (kX6_grounds_no2 hN h6 h1 hq hM q.2 (by rw [n_rd h0 (Nat.le_refl n)]; exact hge)) (IV_kM h0 (rdL_kM S n))
    · exact OPM_ct (kX6_grounds_no1 hN h6 h1 q) h0
theorem any_congr {α : Type} {f g : α → Bool} : ∀ {l : List α}, (∀ x ∈ l, f x = g x) → l.any f = l.any g
  | [], _ => rfl
  | x :: l, h => by rw [List.any_cons, List.any_cons, h x List.mem_cons_self, any_congr (fun y hy => h y (List.mem_cons_of_mem _ hy))]
theorem op_judge {G : Cx} {S : Sx} {n b : Nat} (x y v : Int32) (hN : 88 ≤ gN G) (h : IV S n b) : ∃ (r : Int32) (S1 : Sx), CT G 2 yX5_judge cX5_judge 5 (some .int) [ra G 0, .int x, .int y, .int v] S r S1 ∧ OPM G 6 yX6_judge cX6_judge 6 (some .int) [ra G 80, .int x, .int y, .int v] S1 r := by
  have h0 := h
  obtain ⟨h1, h2, h3, h4, h5, h6, h7, h8, h9, h10, h11⟩ := h
  have hN' : 80 ≤ gN G := Nat.le_trans (by decide) hN
  by_cases p : okQ x y
  · obtain ⟨kk, a, hq, rfl, rfl⟩ := okQ_nat p
    refine ⟨_, S, kX5_judge hN' h4 h1 hq, _, kX6_judge hN h6 h1 hq (IV_GT h0), fun r0 S2 q => ⟨?_, n, b, IV_kM h0 q.2⟩⟩
    rw [q.1]
    unfold jdG jdF
    rw [(fd_at h0 (Nat.le_refl n) hq).1]
    have ew : waF S (qix kk a) v n = (List.range n).any (fun j => decide (AN (rdX (S 81) j) kk a = v)) := by
      unfold waF
      refine any_congr (fun j hj => ?_)
      rw [(fd_at h0 (Nat.le_of_lt (List.mem_range.mp hj)) hq).1]
    rw [ew]
    by_cases e1 : AN (rdX (S 81) n) kk a < 0
    · rw [if_pos e1, if_pos e1]
    · rw [if_neg e1, if_neg e1]
      by_cases e2 : AN (rdX (S 81) n) kk a = v
      · rw [if_pos e2, if_pos e2.symm]
      · rw [if_neg e2, if_neg (show ¬ v = AN (rdX (S 81) n) kk a from fun z => e2 z.symm)]
  · exact ⟨_, S, kX5_judge_no hN' h4 h1 p, OPM_ct (kX6_judge_no hN h6 h1 p) h0⟩
theorem anC_ct {f : Nat → Int32} {h : Nat → Bool} : ∀ k, (∀ q, q < k → h q = !decide (f q < 0)) → anC f k = ct h k
  | 0, _ => rfl
  | k + 1, e => by
    unfold anC ct
    rw [anC_ct k (fun q hq => e q (by omega)), e k (by omega)]
    by_cases z : f k < 0
    · rw [if_pos z, decide_eq_true z]; rfl
    · rw [if_neg z, decide_eq_false z]; rfl
theorem dbC_ct {f : Nat → Int32} {h : Nat → Bool} : ∀ k, (∀ q, q < k → h q = decide (f q = -3)) → dbC f k = ct h k
  | 0, _ => rfl
  | k + 1, e => by
    unfold dbC ct
    rw [dbC_ct k (fun q hq => e q (by omega)), e k (by omega)]
    by_cases z : f k = -3
    · rw [if_pos z, decide_eq_true z]; rfl
    · rw [if_neg z, decide_eq_false z]; rfl
theorem op_count {G : Cx} {S : Sx} {n b : Nat} (x : Int32) (hN : 88 ≤ gN G) (h : IV S n b) : ∃ (r : Int32) (S1 : Sx), CT G 1 yX5_count cX5_count 2 (some .int) [ra G 0, .int x] S r S1 ∧ OPM G 6 yX6_count cX6_count 6 (some .int) [ra G 80, .int x] S1 r := by
  have h0 := h
  obtain ⟨h1, h2, h3, h4, h5, h6, h7, h8, h9, h10, h11⟩ := h
  have hN' : 80 ≤ gN G := Nat.le_trans (by decide) hN
  have hM := GT_MR (S := S) (IV_GT h0) (Nat.le_refl n)
  obtain ⟨r1, r2, r3⟩ := rd_rep h0 (Nat.le_refl n)
  have ea : ∀ q, q < 36 → anF ((rdL S n).1 83) (qk q) (qa q) (rdL S n).2 = S (35 + n) q := fun q hq => by
    rw [an_l r1 r2 r3 (qOk_q hq), h7, ((h11.2 n (Nat.le_refl n)).2 q hq).1]
  refine ⟨_, S, kX5_count hN' h4 h1, ?_⟩
  unfold ctF
  by_cases x0 : x = nI 0
  · rw [if_pos x0, x0]; exact OPM_e (kX6_count_0 hN h6 h1) h4.symm h0
  · rw [if_neg x0]
    by_cases x1 : x = nI 1
    · rw [if_pos x1, x1]; exact OPM_e (kX6_count_1 hN h6 h1 (IV_b h0) h3) h5.symm h0
    · rw [if_neg x1]
      by_cases x2 : x = nI 2
      · rw [if_pos x2, x2]; exact OPM_e (kX6_count_2 hN h6 h1 hM) (by rw [n_rd h0 (Nat.le_refl n), CI_z h11 (Nat.le_refl n)]) (IV_kM h0 (rdL_kM S n))
      · rw [if_neg x2]
        by_cases x3 : x = nI 3
        · rw [if_pos x3, x3]
          refine OPM_e (kX6_count_34 hN h6 h1 (Or.inl rfl) hM) ?_ (IV_kM h0 (rdL_kM S n))
          rw [anC_ct (h := fun q => pC 3 (anF ((rdL S n).1 83) (qk q) (qa q) (rdL S n).2)) 36 (fun q hq => by show pC 3 _ = _; unfold pC; rw [if_pos rfl, ea q hq])]
        · rw [if_neg x3]
          by_cases x4 : x = nI 4
          · rw [if_pos x4, x4]
            refine OPM_e (kX6_count_34 hN h6 h1 (Or.inr rfl) hM) ?_ (IV_kM h0 (rdL_kM S n))
            rw [dbC_ct (h := fun q => pC 4 (anF ((rdL S n).1 83) (qk q) (qa q) (rdL S n).2)) 36 (fun q hq => by show pC 4 _ = _; unfold pC; rw [if_neg (by decide), ea q hq])]
          · rw [if_neg x4]
            refine OPM_ct (kX6_count_no hN h6 h1 ?_) h0
            apply Classical.byContradiction
            intro z
            obtain ⟨k, hk, e⟩ := i_nat (x := x) (m := 5) (by omega) (by omega) (by decide)
            rcases (show k = 0 ∨ k = 1 ∨ k = 2 ∨ k = 3 ∨ k = 4 by omega) with rfl | rfl | rfl | rfl | rfl
            · exact x0 e
            · exact x1 e
            · exact x2 e
            · exact x3 e
            · exact x4 e
