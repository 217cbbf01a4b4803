theorem nb {y : Int32} {w : Nat} (h0 : ¬ y < 0) (h : y < nI w) (hw : w < 2147483648) : ∃ j, j < w ∧ y = nI j := by
  obtain ⟨j, hj, rfl⟩ := nI_of h0
  exact ⟨j, (nI_ltI hj hw).mp h, rfl⟩
theorem lt0 {x : Int32} (h : x < 0) : x.toInt < 0 := by have := i_lt.mp h; rwa [t_0] at this
theorem ltk {x : Int32} {k : Nat} (hk : k < 2147483648) (h : x < nI k) : x.toInt < k := by have := i_lt.mp h; rwa [t_k k hk] at this
theorem gtk {x : Int32} {k : Nat} (hk : k < 2147483648) (h : nI k < x) : (k : Int) < x.toInt := by have := i_lt.mp h; rwa [t_k k hk] at this
theorem nltk {x : Int32} {k : Nat} (hk : k < 2147483648) (h : ¬ x < nI k) : (k : Int) ≤ x.toInt := by rw [i_lt, t_k k hk] at h; omega
theorem ngtk {x : Int32} {k : Nat} (hk : k < 2147483648) (h : ¬ nI k < x) : x.toInt ≤ (k : Int) := by rw [i_lt, t_k k hk] at h; omega
theorem nlt0 {x : Int32} (h : ¬ x < 0) : 0 ≤ x.toInt := by rw [i_lt, t_0] at h; omega
/-- may the sign stand next -/
def fitF (n b : Nat) (g : Nat → Int32) (x : Int32) : Int32 := if n < 14 then (if b = 0 then bi (isW x) else if b = 1 then bi (nI 30 ≤ x ∧ x ≤ nI 33) else if b = 2 then (if g (n * 5 + 1) = nI 30 then bi (isL x) else bi (isT x)) else if b = 3 then (if g (n * 5 + 1) = nI 33 then bi (isW x) else bi (x = nI 50)) else bi (x = nI 50)) else nI 0
theorem fitF_14 {n b : Nat} {g : Nat → Int32} {x : Int32} (h : 14 ≤ n) : nI 0 = fitF n b g x := by unfold fitF; rw [if_neg (by omega)]
theorem fitF_0 {n : Nat} {g : Nat → Int32} {x : Int32} (h : n < 14) : bi (isW x) = fitF n 0 g x := by unfold fitF; rw [if_pos h, if_pos rfl]
theorem fitF_1 {n : Nat} {g : Nat → Int32} {x : Int32} (h : n < 14) : bi (nI 30 ≤ x ∧ x ≤ nI 33) = fitF n 1 g x := by unfold fitF; rw [if_pos h, if_neg (by decide), if_pos rfl]
theorem fitF_2 {n : Nat} {g : Nat → Int32} {x : Int32} (h : n < 14) (h2 : g (n * 5 + 1) = nI 30) : bi (isL x) = fitF n 2 g x := by unfold fitF; rw [if_pos h, if_neg (by decide), if_neg (by decide), if_pos rfl, if_pos h2]
theorem fitF_2n {n : Nat} {g : Nat → Int32} {x : Int32} (h : n < 14) (h2 : ¬ g (n * 5 + 1) = nI 30) : bi (isT x) = fitF n 2 g x := by unfold fitF; rw [if_pos h, if_neg (by decide), if_neg (by decide), if_pos rfl, if_neg h2]
theorem fitF_3 {n : Nat} {g : Nat → Int32} {x : Int32} (h : n < 14) (h2 : g (n * 5 + 1) = nI 33) : bi (isW x) = fitF n 3 g x := by unfold fitF; rw [if_pos h, if_neg (by decide), if_neg (by decide), if_neg (by decide), if_pos rfl, if_pos h2]
theorem fitF_3n {n : Nat} {g : Nat → Int32} {x : Int32} (h : n < 14) (h2 : ¬ g (n * 5 + 1) = nI 33) : bi (x = nI 50) = fitF n 3 g x := by unfold fitF; rw [if_pos h, if_neg (by decide), if_neg (by decide), if_neg (by decide), if_pos rfl, if_neg h2]
theorem fitF_4 {n b : Nat} {g : Nat → Int32} {x : Int32} (h : n < 14) (hb : 3 < b) : bi (x = nI 50) = fitF n b g x := by unfold fitF; rw [if_pos h, if_neg (by omega), if_neg (by omega), if_neg (by omega), if_neg (by omega)]
theorem ts_nn {P : Prop} (h : ¬ (¬ P)) : P := Classical.byContradiction h
def wl (g : Nat → Int32) (s : Nat) : Nat := if g (s * 5 + 1) = nI 33 then 5 else 4
def tl (n b : Nat) (g : Nat → Int32) (s : Nat) : Nat := if s = n then b else wl g s
def tAt (n b : Nat) (g : Nat → Int32) (x y : Int32) : Int32 := if 0 ≤ x.toInt ∧ x.toInt ≤ n ∧ x.toInt < 14 ∧ 0 ≤ y.toInt ∧ y.toInt < tl n b g x.toNatClampNeg then g (x.toNatClampNeg * 5 + y.toNatClampNeg) else -1
theorem tAt_in {n b s j : Nat} {g : Nat → Int32} (hs : s ≤ n) (h14 : s < 14) (hj : j < tl n b g s) (hj5 : j < 5) : g (s * 5 + j) = tAt n b g (nI s) (nI j) := by
  unfold tAt
  rw [nI_toInt (by omega), nI_toInt (by omega), nI_clamp (by omega), nI_clamp (by omega), if_pos]
  omega
theorem tAt_out {n b : Nat} {g : Nat → Int32} {x y : Int32} (h : x.toInt < 0 ∨ (n : Int) < x.toInt ∨ 14 ≤ x.toInt ∨ y.toInt < 0) : (-1 : Int32) = tAt n b g x y := by
  unfold tAt
  rw [if_neg]
  omega
theorem tAt_out2 {n b s : Nat} {g : Nat → Int32} {y : Int32} (hs : s < 14) (h : ¬ y < nI (tl n b g s)) (h5 : tl n b g s ≤ 5) : (-1 : Int32) = tAt n b g (nI s) y := by
  unfold tAt
  rw [nI_clamp (by omega), if_neg]
  rw [i_lt, nI_toInt (by omega)] at h
  omega
theorem wl_5 (g : Nat → Int32) (s : Nat) : wl g s ≤ 5 := by unfold wl; split <;> omega
theorem tl_5 {n b : Nat} (hb : b ≤ 5) (g : Nat → Int32) (s : Nat) : tl n b g s ≤ 5 := by have := wl_5 g s; unfold tl; split <;> omega
def pb (x : Int32) : Int32 := if isP x then nI 1 <<< (x &&& 31) else nI 0
def nmd (g : Nat → Int32) (s : Nat) : Int32 := if g (s * 5 + 1) = nI 33 then pb (g (s * 5)) ||| pb (g (s * 5 + 3)) else pb (g (s * 5))
def cdl (g : Nat → Int32) (so : Int32) : Nat → Int32
  | 0 => nI 0
  | k + 1 => if nmd g k &&& so = 0 then cdl g so k else nmd g k &&& so
def cnd (g : Nat → Int32) (n : Nat) (x : Int32) : Int32 := if isP x then nI 1 <<< (x &&& 31) else cdl g (if x = nI 40 then nI 85 else nI 170) n
def anm (g : Nat → Int32) : Nat → Int32 → Int32
  | 0, a => a
  | k + 1, a => anm g k a ||| nmd g k
def apl (g : Nat → Int32) : Nat → Int32 → Int32
  | 0, a => a
  | k + 1, a => if g (k * 5 + 1) = nI 30 then apl g k a ||| nI 1 <<< ((g (k * 5 + 2) - nI 20) &&& 31) else apl g k a
def bcF (x0 : Int32) : Int32 :=
  let us := fun (x : Int32) (k : Int32) => (x.toUInt32 >>> (k.toUInt32 &&& Int32.toUInt32 31)).toInt32
  let x1 := x0 - (us x0 (nI 1) &&& 1431655765)
  let x2 := (x1 &&& 858993459) + (us x1 (nI 2) &&& 858993459)
  let x3 := (x2 + us x2 (nI 4)) &&& 252645135
  let x4 := x3 + us x3 (nI 8)
  let x5 := x4 + us x4 (nI 16)
  x5 &&& nI 63
def prq (q : Int32) : Int32 := if q = 0 then -1 else bcF ((q &&& -q) - nI 1)
def prs (m c : Int32) (t : Nat) : Int32 := if (c >>> (nI t &&& 31)) &&& nI 1 = 0 then prq m else prq (m &&& (m - nI 1))
set_option maxRecDepth 100000 in
set_option maxHeartbeats 4000000 in
theorem kX2_fits {G : Cx} {S : Sx} (hN : 80 ≤ gN G) {x : Int32} {n b : Nat} (hn : S 1 2 = nI n) (hb : S 1 3 = nI b) (hn14 : n ≤ 14) (hb5 : b < 5) : CT G (2) yX2_fits cX2_fits 2 (some .boolean) [ra G 1, .int x] S (fitF n b (S 2) x) (S) := by
  refine CT_of (by decide) (Nat.le_of_ble_eq_true rfl) (by intro v hv; simp only [List.mem_cons, List.not_mem_nil, or_false] at hv; rcases hv with rfl | rfl <;> rfl) (fun F X E => ?_)
  have hR := RI_R E
  refine V_aload_n X dX2_fits_0 rfl ?_
  refine V_geti X flX2_18 (ltN (by decide) hN) rfl rfl dX2_fits_1 ?_
  refine V_top (nI (n)) (by first | exact hn | simp [st, upd, hn]) ?_
  refine V_bipush X (nI 14) dX2_fits_4 (by decide) ?_
  refine V_cN_lt X 11 (by omega) (by omega) dX2_fits_6 (by decide) (fun h6 => ?_) (fun h6 => ?_)
  · refine V_aload_n X dX2_fits_11 rfl ?_
    refine V_geti X flX2_22 (ltN (by decide) hN) rfl rfl dX2_fits_12 ?_
    refine V_top (nI (b)) (by first | exact hb | simp [st, upd, hb]) ?_
    rcases (show b = 0 ∨ b = 1 ∨ b = 2 ∨ b = 3 ∨ 3 < b by omega) with rfl | rfl | rfl | rfl | h15
    · refine V_tabIn X 29 44 dX2_fits_15 (by decide) (by decide) rfl (by decide) ?_
      refine V_iload_n X dX2_fits_44 rfl ?_
      refine V_cti X (kX5_isWho ) cwX2_25 rfl (rm_ok hR (by decide) (by decide)) (Nat.le_of_ble_eq_true rfl) dX2_fits_45 ?_
      exact V_zret X E dX2_fits_48 (by first | exact Or.inl rfl | exact Or.inr rfl | exact bi_01 _) (fitF_0 (by omega)) rfl
    · refine V_tabIn X 34 49 dX2_fits_15 (by decide) (by decide) rfl (by decide) ?_
      refine V_iload_n X dX2_fits_49 rfl ?_
      refine V_bipush X (nI 30) dX2_fits_50 (by decide) ?_
      refine V_icmp_lt X 65 dX2_fits_52 (by decide) (fun h52 => ?_) (fun h52 => ?_)
      · refine V_iconst X (nI 0) dX2_fits_65 (by decide) ?_
        exact V_zret X E dX2_fits_66 (by first | exact Or.inl rfl | exact Or.inr rfl | exact bi_01 _) (Eq.trans (by first | exact bi_t ⟨by simpa using h52, by simpa using h58⟩ | exact bi_f (fun q => h58 (by simpa using q.2)) | exact bi_f (fun q => absurd h52 (by simpa using q.1)) | exact bi_f (fun q => absurd h58 (by simpa using q.2))) (fitF_1 (by omega))) rfl
      · refine V_iload_n X dX2_fits_55 rfl ?_
        refine V_bipush X (nI 33) dX2_fits_56 (by decide) ?_
        refine V_icmp_gt X 65 dX2_fits_58 (by decide) (fun h58 => ?_) (fun h58 => ?_)
        · refine V_iconst X (nI 0) dX2_fits_65 (by decide) ?_
          exact V_zret X E dX2_fits_66 (by first | exact Or.inl rfl | exact Or.inr rfl | exact bi_01 _) (Eq.trans (by first | exact bi_t ⟨by simpa using h52, by simpa using h58⟩ | exact bi_f (fun q => h58 (by simpa using q.2)) | exact bi_f (fun q => absurd h52 (by simpa using q.1)) | exact bi_f (fun q => absurd h58 (by simpa using q.2))) (fitF_1 (by omega))) rfl
        · refine V_iconst X (nI 1) dX2_fits_61 (by decide) ?_
          refine V_goto X 66 dX2_fits_62 (by decide) ?_
          exact V_zret X E dX2_fits_66 (by first | exact Or.inl rfl | exact Or.inr rfl | exact bi_01 _) (Eq.trans (by first | exact bi_t ⟨by simpa using h52, by simpa using h58⟩ | exact bi_f (fun q => h58 (by simpa using q.2)) | exact bi_f (fun q => absurd h52 (by simpa using q.1)) | exact bi_f (fun q => absurd h58 (by simpa using q.2))) (fitF_1 (by omega))) rfl
    · refine V_tabIn X 52 67 dX2_fits_15 (by decide) (by decide) rfl (by decide) ?_
      refine V_aload_n X dX2_fits_67 rfl ?_
      refine V_aload_n X dX2_fits_68 rfl ?_
      refine V_geti X flX2_18 (ltN (by decide) hN) rfl rfl dX2_fits_69 ?_
      refine V_top (nI (n)) (by first | exact hn | simp [st, upd, hn]) ?_
      refine V_cvi X (ltN (by decide) hN) rfl rfl rfl (kX2_verb hN (by omega)) cwX2_29 rfl (rm_ok hR (by decide) (by decide)) (Nat.le_of_ble_eq_true rfl) dX2_fits_72 ?_
      refine V_bipush X (nI 30) dX2_fits_75 (by decide) ?_
      refine V_icmp_ne X 87 dX2_fits_77 (by decide) (fun h77 => ?_) (fun h77 => ?_)
      · refine V_iload_n X dX2_fits_87 rfl ?_
        refine V_cti X (kX5_isThing ) cwX2_36 rfl (rm_ok hR (by decide) (by decide)) (Nat.le_of_ble_eq_true rfl) dX2_fits_88 ?_
        exact V_zret X E dX2_fits_91 (by first | exact Or.inl rfl | exact Or.inr rfl | exact bi_01 _) (by first | exact fitF_2 (by omega) (ts_nn h77) | exact fitF_2n (by omega) h77) rfl
      · refine V_iload_n X dX2_fits_80 rfl ?_
        refine V_cti X (kX5_isPlace ) cwX2_33 rfl (rm_ok hR (by decide) (by decide)) (Nat.le_of_ble_eq_true rfl) dX2_fits_81 ?_
        refine V_goto X 91 dX2_fits_84 (by decide) ?_
        exact V_zret X E dX2_fits_91 (by first | exact Or.inl rfl | exact Or.inr rfl | exact bi_01 _) (by first | exact fitF_2 (by omega) (ts_nn h77) | exact fitF_2n (by omega) h77) rfl
    · refine V_tabIn X 77 92 dX2_fits_15 (by decide) (by decide) rfl (by decide) ?_
      refine V_aload_n X dX2_fits_92 rfl ?_
      refine V_aload_n X dX2_fits_93 rfl ?_
      refine V_geti X flX2_18 (ltN (by decide) hN) rfl rfl dX2_fits_94 ?_
      refine V_top (nI (n)) (by first | exact hn | simp [st, upd, hn]) ?_
      refine V_cvi X (ltN (by decide) hN) rfl rfl rfl (kX2_verb hN (by omega)) cwX2_29 rfl (rm_ok hR (by decide) (by decide)) (Nat.le_of_ble_eq_true rfl) dX2_fits_97 ?_
      refine V_bipush X (nI 33) dX2_fits_100 (by decide) ?_
      refine V_icmp_ne X 112 dX2_fits_102 (by decide) (fun h102 => ?_) (fun h102 => ?_)
      · refine V_iload_n X dX2_fits_112 rfl ?_
        refine V_bipush X (nI 50) dX2_fits_113 (by decide) ?_
        refine V_icmp_ne X 122 dX2_fits_115 (by decide) (fun h115 => ?_) (fun h115 => ?_)
        · refine V_iconst X (nI 0) dX2_fits_122 (by decide) ?_
          exact V_zret X E dX2_fits_123 (by first | exact Or.inl rfl | exact Or.inr rfl | exact bi_01 _) (by first | exact fitF_3 (by omega) (ts_nn h102) | exact Eq.trans (by first | exact bi_t (ts_nn h115) | exact bi_f h115) (fitF_3n (by omega) h102)) rfl
        · refine V_iconst X (nI 1) dX2_fits_118 (by decide) ?_
          refine V_goto X 123 dX2_fits_119 (by decide) ?_
          exact V_zret X E dX2_fits_123 (by first | exact Or.inl rfl | exact Or.inr rfl | exact bi_01 _) (by first | exact fitF_3 (by omega) (ts_nn h102) | exact Eq.trans (by first | exact bi_t (ts_nn h115) | exact bi_f h115) (fitF_3n (by omega) h102)) rfl
      · refine V_iload_n X dX2_fits_105 rfl ?_
        refine V_cti X (kX5_isWho ) cwX2_25 rfl (rm_ok hR (by decide) (by decide)) (Nat.le_of_ble_eq_true rfl) dX2_fits_106 ?_
        refine V_goto X 123 dX2_fits_109 (by decide) ?_
        exact V_zret X E dX2_fits_123 (by first | exact Or.inl rfl | exact Or.inr rfl | exact bi_01 _) (by first | exact fitF_3 (by omega) (ts_nn h102) | exact Eq.trans (by first | exact bi_t (ts_nn h115) | exact bi_f h115) (fitF_3n (by omega) h102)) rfl
    · refine V_tabOut X 124 dX2_fits_15 (Or.inr (by rw [nI_toInt (by omega)]; omega)) (by decide) ?_
      refine V_iload_n X dX2_fits_124 rfl ?_
      refine V_bipush X (nI 50) dX2_fits_125 (by decide) ?_
      refine V_icmp_ne X 134 dX2_fits_127 (by decide) (fun h127 => ?_) (fun h127 => ?_)
      · refine V_iconst X (nI 0) dX2_fits_134 (by decide) ?_
        exact V_zret X E dX2_fits_135 (by first | exact Or.inl rfl | exact Or.inr rfl | exact bi_01 _) (Eq.trans (by first | exact bi_t (ts_nn h127) | exact bi_f h127) (fitF_4 (by omega) (by omega))) rfl
      · refine V_iconst X (nI 1) dX2_fits_130 (by decide) ?_
        refine V_goto X 135 dX2_fits_131 (by decide) ?_
        exact V_zret X E dX2_fits_135 (by first | exact Or.inl rfl | exact Or.inr rfl | exact bi_01 _) (Eq.trans (by first | exact bi_t (ts_nn h127) | exact bi_f h127) (fitF_4 (by omega) (by omega))) rfl
  · refine V_iconst X (nI 0) dX2_fits_9 (by decide) ?_
    exact V_zret X E dX2_fits_10 (by first | exact Or.inl rfl | exact Or.inr rfl | exact bi_01 _) (fitF_14 (by omega)) rfl

set_option maxRecDepth 100000 in
set_option maxHeartbeats 4000000 in
theorem kX2_add {G : Cx} {S : Sx} (hN : 80 ≤ gN G) {x : Int32} {n b : Nat} (hn : S 1 2 = nI n) (hb : S 1 3 = nI b) (hn14 : n < 14) (hb5 : b < 5) : CV G (0) yX2_add cX2_add 2 [ra G 1, .int x] S (st (st S 2 (n * 5 + b) x) 1 3 (nI (b + 1))) := by
  refine CV_of (by decide) (Nat.le_of_ble_eq_true rfl) (by intro v hv; simp only [List.mem_cons, List.not_mem_nil, or_false] at hv; rcases hv with rfl | rfl <;> rfl) (fun F X E => ?_)
  have hR := RV_R E
  refine V_aload_n X dX2_add_0 rfl ?_
  refine V_geti X flX2_18 (ltN (by decide) hN) rfl rfl dX2_add_1 ?_
  refine V_top (nI (n)) (by first | exact hn | simp [st, upd, hn]) ?_
  refine V_bipush X (nI 14) dX2_add_4 (by decide) ?_
  refine V_cN_ge X 44 (by omega) (by omega) dX2_add_6 (by decide) (fun h6 => ?_) (fun h6 => ?_)
  · omega
  · refine V_aload_n X dX2_add_9 rfl ?_
    refine V_geti X flX2_22 (ltN (by decide) hN) rfl rfl dX2_add_10 ?_
    refine V_top (nI (b)) (by first | exact hb | simp [st, upd, hb]) ?_
    refine V_iconst X (nI 5) dX2_add_13 (by decide) ?_
    refine V_cN_ge X 44 (by omega) (by omega) dX2_add_14 (by decide) (fun h14 => ?_) (fun h14 => ?_)
    · omega
    · refine V_aload_n X dX2_add_17 rfl ?_
      refine V_getr X flX2_9 (ltN (by decide) hN) rfl rfl dX2_add_18 ?_
      refine V_aload_n X dX2_add_21 rfl ?_
      refine V_geti X flX2_18 (ltN (by decide) hN) rfl rfl dX2_add_22 ?_
      refine V_top (nI (n)) (by first | exact hn | simp [st, upd, hn]) ?_
      refine V_iconst X (nI 5) dX2_add_25 (by decide) ?_
      refine V_mulN X dX2_add_26 ?_
      refine V_aload_n X dX2_add_27 rfl ?_
      refine V_geti X flX2_22 (ltN (by decide) hN) rfl rfl dX2_add_28 ?_
      refine V_top (nI (b)) (by first | exact hb | simp [st, upd, hb]) ?_
      refine V_addN X dX2_add_31 ?_
      refine V_iload_n X dX2_add_32 rfl ?_
      refine V_iastN X (ltN (by decide) hN) rfl (by omega) (by decide) dX2_add_33 ?_
      refine V_aload_n X dX2_add_34 rfl ?_
      refine V_dupr X dX2_add_35 ?_
      refine V_geti X flX2_22 (ltN (by decide) hN) rfl rfl dX2_add_36 ?_
      refine V_top (nI (b)) (by first | exact hb | simp [st, upd, hb]) ?_
      refine V_iconst X (nI 1) dX2_add_39 (by decide) ?_
      refine V_addN X dX2_add_40 ?_
      refine V_puti X fpX2_22 (ltN (by decide) hN) rfl rfl dX2_add_41 ?_
      exact V_vret X E dX2_add_44 rfl

set_option maxRecDepth 100000 in
set_option maxHeartbeats 4000000 in
theorem kX2_forgetBegun {G : Cx} {S : Sx} (hN : 80 ≤ gN G)  : CV G (0) yX2_forgetBegun cX2_forgetBegun 1 [ra G 1] S (st S 1 3 (nI 0)) := by
  refine CV_of (by decide) (Nat.le_of_ble_eq_true rfl) (by intro v hv; simp only [List.mem_cons, List.not_mem_nil, or_false] at hv; rcases hv with rfl <;> rfl) (fun F X E => ?_)
  have hR := RV_R E
  refine V_aload_n X dX2_forgetBegun_0 rfl ?_
  refine V_iconst X (nI 0) dX2_forgetBegun_1 (by decide) ?_
  refine V_puti X fpX2_22 (ltN (by decide) hN) rfl rfl dX2_forgetBegun_2 ?_
  exact V_vret X E dX2_forgetBegun_5 rfl

set_option maxRecDepth 100000 in
set_option maxHeartbeats 4000000 in
theorem kX2_closeBegun {G : Cx} {S : Sx} (hN : 80 ≤ gN G) {n : Nat} (hn : S 1 2 = nI n) : CV G (0) yX2_closeBegun cX2_closeBegun 1 [ra G 1] S (st (st S 1 3 (nI 0)) 1 2 (nI (n + 1))) := by
  refine CV_of (by decide) (Nat.le_of_ble_eq_true rfl) (by intro v hv; simp only [List.mem_cons, List.not_mem_nil, or_false] at hv; rcases hv with rfl <;> rfl) (fun F X E => ?_)
  have hR := RV_R E
  refine V_aload_n X dX2_closeBegun_0 rfl ?_
  refine V_iconst X (nI 0) dX2_closeBegun_1 (by decide) ?_
  refine V_puti X fpX2_22 (ltN (by decide) hN) rfl rfl dX2_closeBegun_2 ?_
  refine V_aload_n X dX2_closeBegun_5 rfl ?_
  refine V_dupr X dX2_closeBegun_6 ?_
  refine V_geti X flX2_18 (ltN (by decide) hN) rfl rfl dX2_closeBegun_7 ?_
  refine V_top (nI (n)) (by first | exact hn | simp [st, upd, hn]) ?_
  refine V_iconst X (nI 1) dX2_closeBegun_10 (by decide) ?_
  refine V_addN X dX2_closeBegun_11 ?_
  refine V_puti X fpX2_18 (ltN (by decide) hN) rfl rfl dX2_closeBegun_12 ?_
  exact V_vret X E dX2_closeBegun_15 rfl

set_option maxRecDepth 100000 in
set_option maxHeartbeats 4000000 in
theorem kX2_forgetLatest {G : Cx} {S : Sx} (hN : 80 ≤ gN G) {n b : Nat} (hn : S 1 2 = nI n) (hb : S 1 3 = nI b) (hn14 : n ≤ 14) (hb5 : b < 5) : CT G (0) yX2_forgetLatest cX2_forgetLatest 1 (some .boolean) [ra G 1] S (bi (0 < b ∨ 0 < n)) (if 0 < b then st S 1 3 (nI 0) else if 0 < n then st S 1 2 (nI (n - 1)) else S) := by
  refine CT_of (by decide) (Nat.le_of_ble_eq_true rfl) (by intro v hv; simp only [List.mem_cons, List.not_mem_nil, or_false] at hv; rcases hv with rfl <;> rfl) (fun F X E => ?_)
  have hR := RI_R E
  refine V_aload_n X dX2_forgetLatest_0 rfl ?_
  refine V_geti X flX2_22 (ltN (by decide) hN) rfl rfl dX2_forgetLatest_1 ?_
  refine V_top (nI (b)) (by first | exact hb | simp [st, upd, hb]) ?_
  refine V_iN_le X 14 (by omega) dX2_forgetLatest_4 (by decide) (fun h4 => ?_) (fun h4 => ?_)
  · refine V_aload_n X dX2_forgetLatest_14 rfl ?_
    refine V_geti X flX2_18 (ltN (by decide) hN) rfl rfl dX2_forgetLatest_15 ?_
    refine V_top (nI (n)) (by first | exact hn | simp [st, upd, hn]) ?_
    refine V_iN_ne X 23 (by omega) dX2_forgetLatest_18 (by decide) (fun h18 => ?_) (fun h18 => ?_)
    · refine V_aload_n X dX2_forgetLatest_23 rfl ?_
      refine V_dupr X dX2_forgetLatest_24 ?_
      refine V_geti X flX2_18 (ltN (by decide) hN) rfl rfl dX2_forgetLatest_25 ?_
      refine V_top (nI (n)) (by first | exact hn | simp [st, upd, hn]) ?_
      refine V_iconst X (nI 1) dX2_forgetLatest_28 (by decide) ?_
      refine V_subN X dX2_forgetLatest_29 (by omega) ?_
      refine V_puti X fpX2_18 (ltN (by decide) hN) rfl rfl dX2_forgetLatest_30 ?_
      refine V_iconst X (nI 1) dX2_forgetLatest_33 (by decide) ?_
      exact V_zret X E dX2_forgetLatest_34 (by first | exact Or.inl rfl | exact Or.inr rfl) (by first | (refine bi_t ?_; omega) | (refine bi_f ?_; omega)) (by first | rw [if_pos (by omega)] | rw [if_neg (by omega), if_pos (by omega)] | rw [if_neg (by omega), if_neg (by omega)])
    · refine V_iconst X (nI 0) dX2_forgetLatest_21 (by decide) ?_
      exact V_zret X E dX2_forgetLatest_22 (by first | exact Or.inl rfl | exact Or.inr rfl) (by first | (refine bi_t ?_; omega) | (refine bi_f ?_; omega)) (by first | rw [if_pos (by omega)] | rw [if_neg (by omega), if_pos (by omega)] | rw [if_neg (by omega), if_neg (by omega)])
  · refine V_aload_n X dX2_forgetLatest_7 rfl ?_
    refine V_iconst X (nI 0) dX2_forgetLatest_8 (by decide) ?_
    refine V_puti X fpX2_22 (ltN (by decide) hN) rfl rfl dX2_forgetLatest_9 ?_
    refine V_iconst X (nI 1) dX2_forgetLatest_12 (by decide) ?_
    exact V_zret X E dX2_forgetLatest_13 (by first | exact Or.inl rfl | exact Or.inr rfl) (by first | (refine bi_t ?_; omega) | (refine bi_f ?_; omega)) (by first | rw [if_pos (by omega)] | rw [if_neg (by omega), if_pos (by omega)] | rw [if_neg (by omega), if_neg (by omega)])

set_option maxRecDepth 100000 in
set_option maxHeartbeats 4000000 in
theorem kX2_wholeLength {G : Cx} {S : Sx} (hN : 80 ≤ gN G) {s : Nat} (hs : s < 14) : CT G (1) yX2_wholeLength cX2_wholeLength 2 (some .int) [ra G 1, .int (nI s)] S (nI (wl (S 2) s)) (S) := by
  refine CT_of (by decide) (Nat.le_of_ble_eq_true rfl) (by intro v hv; simp only [List.mem_cons, List.not_mem_nil, or_false] at hv; rcases hv with rfl | rfl <;> rfl) (fun F X E => ?_)
  have hR := RI_R E
  refine V_aload_n X dX2_wholeLength_0 rfl ?_
  refine V_iload_n X dX2_wholeLength_1 rfl ?_
  refine V_cvi X (ltN (by decide) hN) rfl rfl rfl (kX2_verb hN (by omega)) cwX2_29 rfl (rm_ok hR (by decide) (by decide)) (Nat.le_of_ble_eq_true rfl) dX2_wholeLength_2 ?_
  refine V_bipush X (nI 33) dX2_wholeLength_5 (by decide) ?_
  refine V_icmp_ne X 14 dX2_wholeLength_7 (by decide) (fun h7 => ?_) (fun h7 => ?_)
  · refine V_iconst X (nI 4) dX2_wholeLength_14 (by decide) ?_
    exact V_iret X E dX2_wholeLength_15 (by unfold wl; first | exact congrArg nI (if_pos (ts_nn h7)).symm | exact congrArg nI (if_neg h7).symm) rfl
  · refine V_iconst X (nI 5) dX2_wholeLength_10 (by decide) ?_
    refine V_goto X 15 dX2_wholeLength_11 (by decide) ?_
    exact V_iret X E dX2_wholeLength_15 (by unfold wl; first | exact congrArg nI (if_pos (ts_nn h7)).symm | exact congrArg nI (if_neg h7).symm) rfl

set_option maxRecDepth 100000 in
set_option maxHeartbeats 4000000 in
theorem kX2_signAt {G : Cx} {S : Sx} (hN : 80 ≤ gN G) {x y : Int32} {n b : Nat} (hn : S 1 2 = nI n) (hb : S 1 3 = nI b) (hn14 : n ≤ 14) (hb5 : b < 5) : CT G (2) yX2_signAt cX2_signAt 4 (some .int) [ra G 1, .int x, .int y] S (tAt n b (S 2) x y) (S) := by
  refine CT_of (by decide) (Nat.le_of_ble_eq_true rfl) (by intro v hv; simp only [List.mem_cons, List.not_mem_nil, or_false] at hv; rcases hv with rfl | rfl | rfl <;> rfl) (fun F X E => ?_)
  have hR := RI_R E
  refine V_iload_n X dX2_signAt_0 rfl ?_
  refine V_if_lt X 18 dX2_signAt_1 (by decide) (fun h1 => ?_) (fun h1 => ?_)
  · refine V_iconst X (-1) dX2_signAt_18 (by decide) ?_
    exact V_iret X E dX2_signAt_19 (tAt_out (Or.inl (lt0 h1))) rfl
  · refine V_iload_n X dX2_signAt_4 rfl ?_
    refine V_aload_n X dX2_signAt_5 rfl ?_
    refine V_geti X flX2_18 (ltN (by decide) hN) rfl rfl dX2_signAt_6 ?_
    refine V_top (nI (n)) (by first | exact hn | simp [st, upd, hn]) ?_
    refine V_icmp_gt X 18 dX2_signAt_9 (by decide) (fun h9 => ?_) (fun h9 => ?_)
    · refine V_iconst X (-1) dX2_signAt_18 (by decide) ?_
      exact V_iret X E dX2_signAt_19 (tAt_out (Or.inr (Or.inl (gtk (by omega) h9)))) rfl
    · refine V_iload_n X dX2_signAt_12 rfl ?_
      refine V_bipush X (nI 14) dX2_signAt_13 (by decide) ?_
      refine V_icmp_lt X 20 dX2_signAt_15 (by decide) (fun h15 => ?_) (fun h15 => ?_)
      · obtain ⟨s, hs, rfl⟩ := nb h1 h15 (by decide)
        have h9 : s ≤ n := Nat.le_of_not_lt (fun z => h9 ((nI_ltI (by omega) (by omega)).mpr z))
        refine V_iload_n X dX2_signAt_20 rfl ?_
        refine V_aload_n X dX2_signAt_21 rfl ?_
        refine V_geti X flX2_18 (ltN (by decide) hN) rfl rfl dX2_signAt_22 ?_
        refine V_top (nI (n)) (by first | exact hn | simp [st, upd, hn]) ?_
        refine V_cN_ne X 35 (by omega) (by omega) dX2_signAt_25 (by decide) (fun h25 => ?_) (fun h25 => ?_)
        · refine V_aload_n X dX2_signAt_35 rfl ?_
          refine V_iload_n X dX2_signAt_36 rfl ?_
          refine V_cvi X (ltN (by decide) hN) rfl rfl rfl (kX2_wholeLength hN (by omega)) cwX2_39 rfl (rm_ok hR (by decide) (by decide)) (Nat.le_of_ble_eq_true rfl) dX2_signAt_37 ?_
          refine V_istore_n X dX2_signAt_40 (by rw [hR.2]; decide) ?_
          refine V_iload_n X dX2_signAt_41 rfl ?_
          refine V_if_lt X 50 dX2_signAt_42 (by decide) (fun h42 => ?_) (fun h42 => ?_)
          · refine V_iconst X (-1) dX2_signAt_50 (by decide) ?_
            refine V_goto X 64 dX2_signAt_51 (by decide) ?_
            exact V_iret X E dX2_signAt_64 (tAt_out (Or.inr (Or.inr (Or.inr (lt0 h42))))) rfl
          · refine V_iload_n X dX2_signAt_45 rfl ?_
            refine V_iload_n X dX2_signAt_46 rfl ?_
            refine V_icmp_lt X 54 dX2_signAt_47 (by decide) (fun h47 => ?_) (fun h47 => ?_)
            · obtain ⟨j, hj, rfl⟩ := nb h42 h47 (by first | omega | (have := wl_5 (S 2) s; omega))
              have hj5 : j < 5 := by first | omega | (have := wl_5 (S 2) s; omega)
              refine V_aload_n X dX2_signAt_54 rfl ?_
              refine V_getr X flX2_9 (ltN (by decide) hN) rfl rfl dX2_signAt_55 ?_
              refine V_iload_n X dX2_signAt_58 rfl ?_
              refine V_iconst X (nI 5) dX2_signAt_59 (by decide) ?_
              refine V_mulN X dX2_signAt_60 ?_
              refine V_iload_n X dX2_signAt_61 rfl ?_
              refine V_addN X dX2_signAt_62 ?_
              refine V_ialdN X (ltN (by decide) hN) rfl (by omega) (by decide) dX2_signAt_63 ?_
              exact V_iret X E dX2_signAt_64 (by first | exact tAt_out2 hs (by unfold tl; first | exact h47 | (rw [if_pos (by omega)]; exact h47) | (rw [if_neg (by omega)]; exact h47)) (tl_5 (by omega) _ _) | exact tAt_in h9 hs (by unfold tl; first | (rw [if_pos (by omega)]; exact hj) | (rw [if_neg (by omega)]; exact hj)) hj5) rfl
            · refine V_iconst X (-1) dX2_signAt_50 (by decide) ?_
              refine V_goto X 64 dX2_signAt_51 (by decide) ?_
              exact V_iret X E dX2_signAt_64 (by first | exact tAt_out2 hs (by unfold tl; first | exact h47 | (rw [if_pos (by omega)]; exact h47) | (rw [if_neg (by omega)]; exact h47)) (tl_5 (by omega) _ _) | exact tAt_in h9 hs (by unfold tl; first | (rw [if_pos (by omega)]; exact hj) | (rw [if_neg (by omega)]; exact hj)) hj5) rfl
        · refine V_aload_n X dX2_signAt_28 rfl ?_
          refine V_geti X flX2_22 (ltN (by decide) hN) rfl rfl dX2_signAt_29 ?_
          refine V_top (nI (b)) (by first | exact hb | simp [st, upd, hb]) ?_
          refine V_goto X 40 dX2_signAt_32 (by decide) ?_
          refine V_istore_n X dX2_signAt_40 (by rw [hR.2]; decide) ?_
          refine V_iload_n X dX2_signAt_41 rfl ?_
          refine V_if_lt X 50 dX2_signAt_42 (by decide) (fun h42 => ?_) (fun h42 => ?_)
          · refine V_iconst X (-1) dX2_signAt_50 (by decide) ?_
            refine V_goto X 64 dX2_signAt_51 (by decide) ?_
            exact V_iret X E dX2_signAt_64 (tAt_out (Or.inr (Or.inr (Or.inr (lt0 h42))))) rfl
          · refine V_iload_n X dX2_signAt_45 rfl ?_
            refine V_iload_n X dX2_signAt_46 rfl ?_
            refine V_icmp_lt X 54 dX2_signAt_47 (by decide) (fun h47 => ?_) (fun h47 => ?_)
            · obtain ⟨j, hj, rfl⟩ := nb h42 h47 (by first | omega | (have := wl_5 (S 2) s; omega))
              have hj5 : j < 5 := by first | omega | (have := wl_5 (S 2) s; omega)
              refine V_aload_n X dX2_signAt_54 rfl ?_
              refine V_getr X flX2_9 (ltN (by decide) hN) rfl rfl dX2_signAt_55 ?_
              refine V_iload_n X dX2_signAt_58 rfl ?_
              refine V_iconst X (nI 5) dX2_signAt_59 (by decide) ?_
              refine V_mulN X dX2_signAt_60 ?_
              refine V_iload_n X dX2_signAt_61 rfl ?_
              refine V_addN X dX2_signAt_62 ?_
              refine V_ialdN X (ltN (by decide) hN) rfl (by omega) (by decide) dX2_signAt_63 ?_
              exact V_iret X E dX2_signAt_64 (by first | exact tAt_out2 hs (by unfold tl; first | exact h47 | (rw [if_pos (by omega)]; exact h47) | (rw [if_neg (by omega)]; exact h47)) (tl_5 (by omega) _ _) | exact tAt_in h9 hs (by unfold tl; first | (rw [if_pos (by omega)]; exact hj) | (rw [if_neg (by omega)]; exact hj)) hj5) rfl
            · refine V_iconst X (-1) dX2_signAt_50 (by decide) ?_
              refine V_goto X 64 dX2_signAt_51 (by decide) ?_
              exact V_iret X E dX2_signAt_64 (by first | exact tAt_out2 hs (by unfold tl; first | exact h47 | (rw [if_pos (by omega)]; exact h47) | (rw [if_neg (by omega)]; exact h47)) (tl_5 (by omega) _ _) | exact tAt_in h9 hs (by unfold tl; first | (rw [if_pos (by omega)]; exact hj) | (rw [if_neg (by omega)]; exact hj)) hj5) rfl
      · refine V_iconst X (-1) dX2_signAt_18 (by decide) ?_
        exact V_iret X E dX2_signAt_19 (tAt_out (Or.inr (Or.inr (Or.inl (nltk (by decide) h15))))) rfl

def dv (k : Nat) : Int32 := nI k - nI 1
theorem dv_0 : dv 0 < 0 := by decide
theorem dv_s (k : Nat) : dv (k + 1) = nI k := nI_pred k
theorem dv_m (k : Nat) : nI k + Int32.ofInt (-1) = dv k := by
  cases k with
  | zero => decide
  | succ k => rw [dv_s]; exact pk_m1 k
set_option maxRecDepth 100000 in
set_option maxHeartbeats 4000000 in
theorem kX2_personBit {G : Cx} {S : Sx}  {x : Int32} : CT G (1) yX2_personBit cX2_personBit 1 (some .int) [.int x] S (pb x) (S) := by
  refine CT_of (by decide) (Nat.le_of_ble_eq_true rfl) (by intro v hv; simp only [List.mem_cons, List.not_mem_nil, or_false] at hv; rcases hv with rfl <;> rfl) (fun F X E => ?_)
  have hR := RI_R E
  refine V_iload_n X dX2_personBit_0 rfl ?_
  refine V_cti X (kX5_isPerson ) cwX2_45 rfl (rm_ok hR (by decide) (by decide)) (Nat.le_of_ble_eq_true rfl) dX2_personBit_1 ?_
  refine V_if_eq X 13 dX2_personBit_4 (by decide) (fun h4 => ?_) (fun h4 => ?_)
  · refine V_iconst X (nI 0) dX2_personBit_13 (by decide) ?_
    exact V_iret X E dX2_personBit_14 (by unfold pb; first | exact (if_pos (bi_ne.mp h4)).symm | exact (if_neg (bi_eq.mp h4)).symm) rfl
  · refine V_iconst X (nI 1) dX2_personBit_7 (by decide) ?_
    refine V_iload_n X dX2_personBit_8 rfl ?_
    refine V_ishl X dX2_personBit_9 ?_
    refine V_goto X 14 dX2_personBit_10 (by decide) ?_
    exact V_iret X E dX2_personBit_14 (by unfold pb; first | exact (if_pos (bi_ne.mp h4)).symm | exact (if_neg (bi_eq.mp h4)).symm) rfl

set_option maxRecDepth 100000 in
set_option maxHeartbeats 4000000 in
theorem kX2_named {G : Cx} {S : Sx} (hN : 80 ≤ gN G) {s : Nat} (hs : s < 14) : CT G (2) yX2_named cX2_named 4 (some .int) [ra G 1, .int (nI s)] S (nmd (S 2) s) (S) := by
  refine CT_of (by decide) (Nat.le_of_ble_eq_true rfl) (by intro v hv; simp only [List.mem_cons, List.not_mem_nil, or_false] at hv; rcases hv with rfl | rfl <;> rfl) (fun F X E => ?_)
  have hR := RI_R E
  refine V_iload_n X dX2_named_0 rfl ?_
  refine V_iconst X (nI 5) dX2_named_1 (by decide) ?_
  refine V_mulN X dX2_named_2 ?_
  refine V_istore_n X dX2_named_3 (by rw [hR.2]; decide) ?_
  refine V_aload_n X dX2_named_4 rfl ?_
  refine V_getr X flX2_9 (ltN (by decide) hN) rfl rfl dX2_named_5 ?_
  refine V_iload_n X dX2_named_8 rfl ?_
  refine V_ialdN X (ltN (by decide) hN) rfl (by omega) (by decide) dX2_named_9 ?_
  refine V_csi X (kX2_personBit ) cwX2_51 rfl (rm_ok hR (by decide) (by decide)) (Nat.le_of_ble_eq_true rfl) dX2_named_10 ?_
  refine V_istore_n X dX2_named_13 (by rw [hR.2]; decide) ?_
  refine V_aload_n X dX2_named_14 rfl ?_
  refine V_iload_n X dX2_named_15 rfl ?_
  refine V_cvi X (ltN (by decide) hN) rfl rfl rfl (kX2_verb hN (by omega)) cwX2_29 rfl (rm_ok hR (by decide) (by decide)) (Nat.le_of_ble_eq_true rfl) dX2_named_16 ?_
  refine V_bipush X (nI 33) dX2_named_19 (by decide) ?_
  refine V_icmp_ne X 40 dX2_named_21 (by decide) (fun h21 => ?_) (fun h21 => ?_)
  · refine V_iload_n X dX2_named_40 rfl ?_
    exact V_iret X E dX2_named_41 (by unfold nmd; first | exact (if_pos (ts_nn h21)).symm | exact (if_neg h21).symm) rfl
  · refine V_iload_n X dX2_named_24 rfl ?_
    refine V_aload_n X dX2_named_25 rfl ?_
    refine V_getr X flX2_9 (ltN (by decide) hN) rfl rfl dX2_named_26 ?_
    refine V_iload_n X dX2_named_29 rfl ?_
    refine V_iconst X (nI 3) dX2_named_30 (by decide) ?_
    refine V_addN X dX2_named_31 ?_
    refine V_ialdN X (ltN (by decide) hN) rfl (by omega) (by decide) dX2_named_32 ?_
    refine V_csi X (kX2_personBit ) cwX2_51 rfl (rm_ok hR (by decide) (by decide)) (Nat.le_of_ble_eq_true rfl) dX2_named_33 ?_
    refine V_ior X dX2_named_36 ?_
    refine V_goto X 41 dX2_named_37 (by decide) ?_
    exact V_iret X E dX2_named_41 (by unfold nmd; first | exact (if_pos (ts_nn h21)).symm | exact (if_neg h21).symm) rfl

set_option maxRecDepth 100000 in
set_option maxHeartbeats 4000000 in
theorem kX2_candidates {G : Cx} {S : Sx} (hN : 80 ≤ gN G) {x r : Int32} {n : Nat} (hn : S 1 2 = nI n) (hn14 : n ≤ 13) (hr : cnd (S 2) n x = r) : CT G (3) yX2_candidates cX2_candidates 4 (some .int) [ra G 1, .int x] S (r) (S) := by
  refine CT_of (by decide) (Nat.le_of_ble_eq_true rfl) (by intro v hv; simp only [List.mem_cons, List.not_mem_nil, or_false] at hv; rcases hv with rfl | rfl <;> rfl) (fun F X E => ?_)
  have hR := RI_R E
  have loop : ∀ (so : Int32) (k : Nat), k ≤ 13 → cdl (S 2) so k = r → V F G S 33 [some (ra G 1), some (.int x), some (.int so), some (.int (dv k))] [] := by
    intro so k
    induction k with
    | zero =>
      intro hk hr
      refine V_iload_n X dX2_candidates_33 rfl ?_
      refine V_if_lt X 61 dX2_candidates_34 (by decide) (fun h34 => ?_) (fun h34 => ?_)
      · refine V_iconst X (nI 0) dX2_candidates_61 (by decide) ?_
        exact V_iret X E dX2_candidates_62 hr rfl
      · exact absurd dv_0 h34
    | succ k ih =>
      intro hk hr
      rw [dv_s]
      refine V_iload_n X dX2_candidates_33 rfl ?_
      refine V_iN_lt X 61 (by omega) dX2_candidates_34 (by decide) ?_
      refine V_aload_n X dX2_candidates_37 rfl ?_
      refine V_iload_n X dX2_candidates_38 rfl ?_
      refine V_cvi X (ltN (by decide) hN) rfl rfl rfl (kX2_named hN (by omega)) cwX2_48 rfl (rm_ok hR (by decide) (by decide)) (Nat.le_of_ble_eq_true rfl) dX2_candidates_39 ?_
      refine V_iload_n X dX2_candidates_42 rfl ?_
      refine V_iand X dX2_candidates_43 ?_
      refine V_if_eq X 55 dX2_candidates_44 (by decide) (fun h44 => ?_) (fun h44 => ?_)
      · rw [cdl, if_pos h44] at hr
        refine V_iinc X (dv _) dX2_candidates_55 (by rw [hR.2]; decide) rfl (dv_m _) ?_
        refine V_goto X 33 dX2_candidates_58 (by decide) ?_
        exact ih (by omega) hr
      · rw [cdl, if_neg h44] at hr
        refine V_aload_n X dX2_candidates_47 rfl ?_
        refine V_iload_n X dX2_candidates_48 rfl ?_
        refine V_cvi X (ltN (by decide) hN) rfl rfl rfl (kX2_named hN (by omega)) cwX2_48 rfl (rm_ok hR (by decide) (by decide)) (Nat.le_of_ble_eq_true rfl) dX2_candidates_49 ?_
        refine V_iload_n X dX2_candidates_52 rfl ?_
        refine V_iand X dX2_candidates_53 ?_
        exact V_iret X E dX2_candidates_54 hr rfl
  refine V_iload_n X dX2_candidates_0 rfl ?_
  refine V_cti X (kX5_isPerson ) cwX2_45 rfl (rm_ok hR (by decide) (by decide)) (Nat.le_of_ble_eq_true rfl) dX2_candidates_1 ?_
  refine V_if_eq X 11 dX2_candidates_4 (by decide) (fun h4 => ?_) (fun h4 => ?_)
  · refine V_iload_n X dX2_candidates_11 rfl ?_
    refine V_bipush X (nI 40) dX2_candidates_12 (by decide) ?_
    refine V_icmp_ne X 22 dX2_candidates_14 (by decide) (fun h14 => ?_) (fun h14 => ?_)
    · refine V_sipush X (nI 170) dX2_candidates_22 (by decide) ?_
      refine V_istore_n X dX2_candidates_25 (by rw [hR.2]; decide) ?_
      refine V_aload_n X dX2_candidates_26 rfl ?_
      refine V_geti X flX2_18 (ltN (by decide) hN) rfl rfl dX2_candidates_27 ?_
      refine V_top (nI (n)) (by first | exact hn | simp [st, upd, hn]) ?_
      refine V_iconst X (nI 1) dX2_candidates_30 (by decide) ?_
      refine V_isub X dX2_candidates_31 ?_
      refine V_istore_n X dX2_candidates_32 (by rw [hR.2]; decide) ?_
      exact loop _ n hn14 (by unfold cnd at hr; rw [if_neg (bi_eq.mp h4)] at hr; first | (rw [if_pos (ts_nn h14)] at hr; exact hr) | (rw [if_neg h14] at hr; exact hr))
    · refine V_bipush X (nI 85) dX2_candidates_17 (by decide) ?_
      refine V_goto X 25 dX2_candidates_19 (by decide) ?_
      refine V_istore_n X dX2_candidates_25 (by rw [hR.2]; decide) ?_
      refine V_aload_n X dX2_candidates_26 rfl ?_
      refine V_geti X flX2_18 (ltN (by decide) hN) rfl rfl dX2_candidates_27 ?_
      refine V_top (nI (n)) (by first | exact hn | simp [st, upd, hn]) ?_
      refine V_iconst X (nI 1) dX2_candidates_30 (by decide) ?_
      refine V_isub X dX2_candidates_31 ?_
      refine V_istore_n X dX2_candidates_32 (by rw [hR.2]; decide) ?_
      exact loop _ n hn14 (by unfold cnd at hr; rw [if_neg (bi_eq.mp h4)] at hr; first | (rw [if_pos (ts_nn h14)] at hr; exact hr) | (rw [if_neg h14] at hr; exact hr))
  · refine V_iconst X (nI 1) dX2_candidates_7 (by decide) ?_
    refine V_iload_n X dX2_candidates_8 rfl ?_
    refine V_ishl X dX2_candidates_9 ?_
    exact V_iret X E dX2_candidates_10 (by unfold cnd at hr; rw [if_pos (Classical.byContradiction (fun z => h4 (bi_eq.mpr z)))] at hr; exact hr) rfl

set_option maxRecDepth 100000 in
set_option maxHeartbeats 4000000 in
theorem kX2_mayMean {G : Cx} {S : Sx} (hN : 80 ≤ gN G) {s w : Nat} (hs : s < 14) (hw : w < 2) : CT G (0) yX2_mayMean cX2_mayMean 3 (some .int) [ra G 1, .int (nI s), .int (nI w)] S (S 3 (2 * s + w)) (S) := by
  refine CT_of (by decide) (Nat.le_of_ble_eq_true rfl) (by intro v hv; simp only [List.mem_cons, List.not_mem_nil, or_false] at hv; rcases hv with rfl | rfl | rfl <;> rfl) (fun F X E => ?_)
  have hR := RI_R E
  refine V_aload_n X dX2_mayMean_0 rfl ?_
  refine V_getr X flX2_15 (ltN (by decide) hN) rfl rfl dX2_mayMean_1 ?_
  refine V_iconst X (nI 2) dX2_mayMean_4 (by decide) ?_
  refine V_iload_n X dX2_mayMean_5 rfl ?_
  refine V_mulN X dX2_mayMean_6 ?_
  refine V_iload_n X dX2_mayMean_7 rfl ?_
  refine V_addN X dX2_mayMean_8 ?_
  refine V_ialdN X (ltN (by decide) hN) rfl (by omega) (by decide) dX2_mayMean_9 ?_
  exact V_iret X E dX2_mayMean_10 rfl rfl

set_option maxRecDepth 100000 in
set_option maxHeartbeats 4000000 in
theorem kJ6_bitCount_0f7a4 {G : Cx} {S : Sx}  {x : Int32} : CT G (0) yJ6_bitCount_0f7a4 cJ6_bitCount_0f7a4 1 (some .int) [.int x] S (bcF x) (S) := by
  refine CT_of (by decide) (Nat.le_of_ble_eq_true rfl) (by intro v hv; simp only [List.mem_cons, List.not_mem_nil, or_false] at hv; rcases hv with rfl <;> rfl) (fun F X E => ?_)
  have hR := RI_R E
  refine V_iload_n X dJ6_bitCount_0f7a4_0 rfl ?_
  refine V_iload_n X dJ6_bitCount_0f7a4_1 rfl ?_
  refine V_iconst X (nI 1) dJ6_bitCount_0f7a4_2 (by decide) ?_
  refine V_iushr X dJ6_bitCount_0f7a4_3 ?_
  refine V_ldcw X kcJ6_265 dJ6_bitCount_0f7a4_4 ?_
  refine V_iand X dJ6_bitCount_0f7a4_7 ?_
  refine V_isub X dJ6_bitCount_0f7a4_8 ?_
  refine V_istore_n X dJ6_bitCount_0f7a4_9 (by rw [hR.2]; decide) ?_
  refine V_iload_n X dJ6_bitCount_0f7a4_10 rfl ?_
  refine V_ldcw X kcJ6_266 dJ6_bitCount_0f7a4_11 ?_
  refine V_iand X dJ6_bitCount_0f7a4_14 ?_
  refine V_iload_n X dJ6_bitCount_0f7a4_15 rfl ?_
  refine V_iconst X (nI 2) dJ6_bitCount_0f7a4_16 (by decide) ?_
  refine V_iushr X dJ6_bitCount_0f7a4_17 ?_
  refine V_ldcw X kcJ6_266 dJ6_bitCount_0f7a4_18 ?_
  refine V_iand X dJ6_bitCount_0f7a4_21 ?_
  refine V_iadd X dJ6_bitCount_0f7a4_22 ?_
  refine V_istore_n X dJ6_bitCount_0f7a4_23 (by rw [hR.2]; decide) ?_
  refine V_iload_n X dJ6_bitCount_0f7a4_24 rfl ?_
  refine V_iload_n X dJ6_bitCount_0f7a4_25 rfl ?_
  refine V_iconst X (nI 4) dJ6_bitCount_0f7a4_26 (by decide) ?_
  refine V_iushr X dJ6_bitCount_0f7a4_27 ?_
  refine V_iadd X dJ6_bitCount_0f7a4_28 ?_
  refine V_ldcw X kcJ6_267 dJ6_bitCount_0f7a4_29 ?_
  refine V_iand X dJ6_bitCount_0f7a4_32 ?_
  refine V_istore_n X dJ6_bitCount_0f7a4_33 (by rw [hR.2]; decide) ?_
  refine V_iload_n X dJ6_bitCount_0f7a4_34 rfl ?_
  refine V_iload_n X dJ6_bitCount_0f7a4_35 rfl ?_
  refine V_bipush X (nI 8) dJ6_bitCount_0f7a4_36 (by decide) ?_
  refine V_iushr X dJ6_bitCount_0f7a4_38 ?_
  refine V_iadd X dJ6_bitCount_0f7a4_39 ?_
  refine V_istore_n X dJ6_bitCount_0f7a4_40 (by rw [hR.2]; decide) ?_
  refine V_iload_n X dJ6_bitCount_0f7a4_41 rfl ?_
  refine V_iload_n X dJ6_bitCount_0f7a4_42 rfl ?_
  refine V_bipush X (nI 16) dJ6_bitCount_0f7a4_43 (by decide) ?_
  refine V_iushr X dJ6_bitCount_0f7a4_45 ?_
  refine V_iadd X dJ6_bitCount_0f7a4_46 ?_
  refine V_istore_n X dJ6_bitCount_0f7a4_47 (by rw [hR.2]; decide) ?_
  refine V_iload_n X dJ6_bitCount_0f7a4_48 rfl ?_
  refine V_bipush X (nI 63) dJ6_bitCount_0f7a4_49 (by decide) ?_
  refine V_iand X dJ6_bitCount_0f7a4_51 ?_
  exact V_iret X E dJ6_bitCount_0f7a4_52 rfl rfl

set_option maxRecDepth 100000 in
set_option maxHeartbeats 4000000 in
theorem kX2_person {G : Cx} {S : Sx} (hN : 80 ≤ gN G) {s w : Nat} {c : Int32} (hs : s < 14) (hw : w < 2) : CT G (1) yX2_person cX2_person 5 (some .int) [ra G 1, .int (nI s), .int (nI w), .int c] S (prs (S 3 (2 * s + w)) c (2 * s + w)) (S) := by
  refine CT_of (by decide) (Nat.le_of_ble_eq_true rfl) (by intro v hv; simp only [List.mem_cons, List.not_mem_nil, or_false] at hv; rcases hv with rfl | rfl | rfl | rfl <;> rfl) (fun F X E => ?_)
  have hR := RI_R E
  refine V_aload_n X dX2_person_0 rfl ?_
  refine V_iload_n X dX2_person_1 rfl ?_
  refine V_iload_n X dX2_person_2 rfl ?_
  refine V_cvi X (ltN (by decide) hN) rfl rfl rfl (kX2_mayMean hN (by omega) (by omega)) cwX2_57 rfl (rm_ok hR (by decide) (by decide)) (Nat.le_of_ble_eq_true rfl) dX2_person_3 ?_
  refine V_istore X dX2_person_6 (by rw [hR.2]; decide) ?_
  refine V_iload_n X dX2_person_8 rfl ?_
  refine V_iconst X (nI 2) dX2_person_9 (by decide) ?_
  refine V_iload_n X dX2_person_10 rfl ?_
  refine V_mulN X dX2_person_11 ?_
  refine V_iload_n X dX2_person_12 rfl ?_
  refine V_addN X dX2_person_13 ?_
  refine V_ishr X dX2_person_14 ?_
  refine V_iconst X (nI 1) dX2_person_15 (by decide) ?_
  refine V_iand X dX2_person_16 ?_
  refine V_if_eq X 29 dX2_person_17 (by decide) (fun h17 => ?_) (fun h17 => ?_)
  · refine V_iload X dX2_person_29 rfl ?_
    refine V_if_ne X 38 dX2_person_31 (by decide) (fun h31 => ?_) (fun h31 => ?_)
    · refine V_iload X dX2_person_38 rfl ?_
      refine V_iload X dX2_person_40 rfl ?_
      refine V_ineg X dX2_person_42 ?_
      refine V_iand X dX2_person_43 ?_
      refine V_iconst X (nI 1) dX2_person_44 (by decide) ?_
      refine V_isub X dX2_person_45 ?_
      refine V_csi X (kJ6_bitCount_0f7a4 ) cwX2_61 rfl (rm_ok hR (by decide) (by decide)) (Nat.le_of_ble_eq_true rfl) dX2_person_46 ?_
      exact V_iret X E dX2_person_49 (by unfold prs; (first | rw [if_pos h17] | rw [if_neg h17]); unfold prq; first | rw [if_pos (ts_nn h31)] | rw [if_neg h31]) rfl
    · refine V_iconst X (-1) dX2_person_34 (by decide) ?_
      refine V_goto X 49 dX2_person_35 (by decide) ?_
      exact V_iret X E dX2_person_49 (by unfold prs; (first | rw [if_pos h17] | rw [if_neg h17]); unfold prq; first | rw [if_pos (ts_nn h31)] | rw [if_neg h31]) rfl
  · refine V_iload X dX2_person_20 rfl ?_
    refine V_iload X dX2_person_22 rfl ?_
    refine V_iconst X (nI 1) dX2_person_24 (by decide) ?_
    refine V_isub X dX2_person_25 ?_
    refine V_iand X dX2_person_26 ?_
    refine V_istore X dX2_person_27 (by rw [hR.2]; decide) ?_
    refine V_iload X dX2_person_29 rfl ?_
    refine V_if_ne X 38 dX2_person_31 (by decide) (fun h31 => ?_) (fun h31 => ?_)
    · refine V_iload X dX2_person_38 rfl ?_
      refine V_iload X dX2_person_40 rfl ?_
      refine V_ineg X dX2_person_42 ?_
      refine V_iand X dX2_person_43 ?_
      refine V_iconst X (nI 1) dX2_person_44 (by decide) ?_
      refine V_isub X dX2_person_45 ?_
      refine V_csi X (kJ6_bitCount_0f7a4 ) cwX2_61 rfl (rm_ok hR (by decide) (by decide)) (Nat.le_of_ble_eq_true rfl) dX2_person_46 ?_
      exact V_iret X E dX2_person_49 (by unfold prs; (first | rw [if_pos h17] | rw [if_neg h17]); unfold prq; first | rw [if_pos (ts_nn h31)] | rw [if_neg h31]) rfl
    · refine V_iconst X (-1) dX2_person_34 (by decide) ?_
      refine V_goto X 49 dX2_person_35 (by decide) ?_
      exact V_iret X E dX2_person_49 (by unfold prs; (first | rw [if_pos h17] | rw [if_neg h17]); unfold prq; first | rw [if_pos (ts_nn h31)] | rw [if_neg h31]) rfl

set_option maxRecDepth 100000 in
set_option maxHeartbeats 4000000 in
theorem kX2_cast {G : Cx} {S : Sx} (hN : 80 ≤ gN G) {n : Nat} (hn : S 1 2 = nI n) (hn14 : n ≤ 13) : CV G (4) yX2_cast cX2_cast 3 [ra G 1] S (st (st S 3 (2 * n + 0) (cnd (S 2) n (S 2 (n * 5)))) 3 (2 * n + 1) (if S 2 (n * 5 + 1) = nI 33 then cnd (S 2) n (S 2 (n * 5 + 3)) else nI 0)) := by
  refine CV_of (by decide) (Nat.le_of_ble_eq_true rfl) (by intro v hv; simp only [List.mem_cons, List.not_mem_nil, or_false] at hv; rcases hv with rfl <;> rfl) (fun F X E => ?_)
  have hR := RV_R E
  refine V_aload_n X dX2_cast_0 rfl ?_
  refine V_geti X flX2_18 (ltN (by decide) hN) rfl rfl dX2_cast_1 ?_
  refine V_top (nI (n)) (by first | exact hn | simp [st, upd, hn]) ?_
  refine V_iconst X (nI 5) dX2_cast_4 (by decide) ?_
  refine V_mulN X dX2_cast_5 ?_
  refine V_istore_n X dX2_cast_6 (by rw [hR.2]; decide) ?_
  refine V_aload_n X dX2_cast_7 rfl ?_
  refine V_aload_n X dX2_cast_8 rfl ?_
  refine V_geti X flX2_18 (ltN (by decide) hN) rfl rfl dX2_cast_9 ?_
  refine V_top (nI (n)) (by first | exact hn | simp [st, upd, hn]) ?_
  refine V_cvi X (ltN (by decide) hN) rfl rfl rfl (kX2_verb hN (by omega)) cwX2_29 rfl (rm_ok hR (by decide) (by decide)) (Nat.le_of_ble_eq_true rfl) dX2_cast_12 ?_
  refine V_bipush X (nI 33) dX2_cast_15 (by decide) ?_
  refine V_icmp_ne X 24 dX2_cast_17 (by decide) (fun h17 => ?_) (fun h17 => ?_)
  · refine V_iconst X (nI 0) dX2_cast_24 (by decide) ?_
    refine V_istore_n X dX2_cast_25 (by rw [hR.2]; decide) ?_
    refine V_aload_n X dX2_cast_26 rfl ?_
    refine V_getr X flX2_15 (ltN (by decide) hN) rfl rfl dX2_cast_27 ?_
    refine V_iconst X (nI 2) dX2_cast_30 (by decide) ?_
    refine V_aload_n X dX2_cast_31 rfl ?_
    refine V_geti X flX2_18 (ltN (by decide) hN) rfl rfl dX2_cast_32 ?_
    refine V_top (nI (n)) (by first | exact hn | simp [st, upd, hn]) ?_
    refine V_mulN X dX2_cast_35 ?_
    refine V_iconst X (nI 0) dX2_cast_36 (by decide) ?_
    refine V_addN X dX2_cast_37 ?_
    refine V_aload_n X dX2_cast_38 rfl ?_
    refine V_aload_n X dX2_cast_39 rfl ?_
    refine V_getr X flX2_9 (ltN (by decide) hN) rfl rfl dX2_cast_40 ?_
    refine V_iload_n X dX2_cast_43 rfl ?_
    refine V_ialdN X (ltN (by decide) hN) rfl (by omega) (by decide) dX2_cast_44 ?_
    refine V_cvi X (ltN (by decide) hN) rfl rfl rfl (kX2_candidates hN hn hn14 rfl) cwX2_42 rfl (rm_ok hR (by decide) (by decide)) (Nat.le_of_ble_eq_true rfl) dX2_cast_45 ?_
    refine V_iastN X (ltN (by decide) hN) rfl (by omega) (by decide) dX2_cast_48 ?_
    refine V_aload_n X dX2_cast_49 rfl ?_
    refine V_getr X flX2_15 (ltN (by decide) hN) rfl rfl dX2_cast_50 ?_
    refine V_iconst X (nI 2) dX2_cast_53 (by decide) ?_
    refine V_aload_n X dX2_cast_54 rfl ?_
    refine V_geti X flX2_18 (ltN (by decide) hN) rfl rfl dX2_cast_55 ?_
    refine V_top (nI (n)) (by first | exact hn | simp [st, upd, hn]) ?_
    refine V_mulN X dX2_cast_58 ?_
    refine V_iconst X (nI 1) dX2_cast_59 (by decide) ?_
    refine V_addN X dX2_cast_60 ?_
    refine V_iload_n X dX2_cast_61 rfl ?_
    refine V_iN_eq X 80 (by omega) dX2_cast_62 (by decide) (fun h62 => ?_) (fun h62 => ?_)
    · refine V_iconst X (nI 0) dX2_cast_80 (by decide) ?_
      refine V_iastN X (ltN (by decide) hN) rfl (by omega) (by decide) dX2_cast_81 ?_
      exact V_vret X E dX2_cast_82 (by first | (rw [if_pos (ts_nn h17)]; done) | (rw [if_pos (ts_nn h17)]; rfl) | (rw [if_neg h17]; done) | (rw [if_neg h17]; rfl))
    · exact absurd h62 (by decide)
  · refine V_iconst X (nI 1) dX2_cast_20 (by decide) ?_
    refine V_goto X 25 dX2_cast_21 (by decide) ?_
    refine V_istore_n X dX2_cast_25 (by rw [hR.2]; decide) ?_
    refine V_aload_n X dX2_cast_26 rfl ?_
    refine V_getr X flX2_15 (ltN (by decide) hN) rfl rfl dX2_cast_27 ?_
    refine V_iconst X (nI 2) dX2_cast_30 (by decide) ?_
    refine V_aload_n X dX2_cast_31 rfl ?_
    refine V_geti X flX2_18 (ltN (by decide) hN) rfl rfl dX2_cast_32 ?_
    refine V_top (nI (n)) (by first | exact hn | simp [st, upd, hn]) ?_
    refine V_mulN X dX2_cast_35 ?_
    refine V_iconst X (nI 0) dX2_cast_36 (by decide) ?_
    refine V_addN X dX2_cast_37 ?_
    refine V_aload_n X dX2_cast_38 rfl ?_
    refine V_aload_n X dX2_cast_39 rfl ?_
    refine V_getr X flX2_9 (ltN (by decide) hN) rfl rfl dX2_cast_40 ?_
    refine V_iload_n X dX2_cast_43 rfl ?_
    refine V_ialdN X (ltN (by decide) hN) rfl (by omega) (by decide) dX2_cast_44 ?_
    refine V_cvi X (ltN (by decide) hN) rfl rfl rfl (kX2_candidates hN hn hn14 rfl) cwX2_42 rfl (rm_ok hR (by decide) (by decide)) (Nat.le_of_ble_eq_true rfl) dX2_cast_45 ?_
    refine V_iastN X (ltN (by decide) hN) rfl (by omega) (by decide) dX2_cast_48 ?_
    refine V_aload_n X dX2_cast_49 rfl ?_
    refine V_getr X flX2_15 (ltN (by decide) hN) rfl rfl dX2_cast_50 ?_
    refine V_iconst X (nI 2) dX2_cast_53 (by decide) ?_
    refine V_aload_n X dX2_cast_54 rfl ?_
    refine V_geti X flX2_18 (ltN (by decide) hN) rfl rfl dX2_cast_55 ?_
    refine V_top (nI (n)) (by first | exact hn | simp [st, upd, hn]) ?_
    refine V_mulN X dX2_cast_58 ?_
    refine V_iconst X (nI 1) dX2_cast_59 (by decide) ?_
    refine V_addN X dX2_cast_60 ?_
    refine V_iload_n X dX2_cast_61 rfl ?_
    refine V_iN_eq X 80 (by omega) dX2_cast_62 (by decide) (fun h62 => ?_) (fun h62 => ?_)
    · exact absurd h62 (by decide)
    · refine V_aload_n X dX2_cast_65 rfl ?_
      refine V_aload_n X dX2_cast_66 rfl ?_
      refine V_getr X flX2_9 (ltN (by decide) hN) rfl rfl dX2_cast_67 ?_
      refine V_iload_n X dX2_cast_70 rfl ?_
      refine V_iconst X (nI 3) dX2_cast_71 (by decide) ?_
      refine V_addN X dX2_cast_72 ?_
      refine V_ialdN X (ltN (by decide) hN) rfl (by omega) (by decide) dX2_cast_73 ?_
      refine V_cvi X (ltN (by decide) hN) rfl rfl rfl (kX2_candidates hN (by first | exact hn | simp [st, upd, hn]) hn14 rfl) cwX2_42 rfl (rm_ok hR (by decide) (by decide)) (Nat.le_of_ble_eq_true rfl) dX2_cast_74 ?_
      refine V_goto X 81 dX2_cast_77 (by decide) ?_
      refine V_iastN X (ltN (by decide) hN) rfl (by omega) (by decide) dX2_cast_81 ?_
      exact V_vret X E dX2_cast_82 (by first | (rw [if_pos (ts_nn h17)]; done) | (rw [if_pos (ts_nn h17)]; rfl) | (rw [if_neg h17]; done) | (rw [if_neg h17]; rfl))

set_option maxRecDepth 100000 in
set_option maxHeartbeats 4000000 in
theorem kX2_allNamed {G : Cx} {S : Sx} (hN : 80 ≤ gN G) {n : Nat} (hn : S 1 2 = nI n) (hn14 : n ≤ 14) : CT G (3) yX2_allNamed cX2_allNamed 3 (some .int) [ra G 1] S (anm (S 2) n (nI 0)) (S) := by
  refine CT_of (by decide) (Nat.le_of_ble_eq_true rfl) (by intro v hv; simp only [List.mem_cons, List.not_mem_nil, or_false] at hv; rcases hv with rfl <;> rfl) (fun F X E => ?_)
  have hR := RI_R E
  have loop : ∀ (k i : Nat) (a : Int32), i ≤ n → n - i < k → a = anm (S 2) i (nI 0) → V F G S 4 [some (ra G 1), some (.int a), some (.int (nI i))] [] := by
    intro k
    induction k with
    | zero => intro i a h1 h2; omega
    | succ k ih =>
      intro i a h1 h2 ha
      refine V_iload_n X dX2_allNamed_4 rfl ?_
      refine V_aload_n X dX2_allNamed_5 rfl ?_
      refine V_geti X flX2_18 (ltN (by decide) hN) rfl rfl dX2_allNamed_6 ?_
      refine V_top (nI (n)) (by first | exact hn | simp [st, upd, hn]) ?_
      refine V_cN_ge X 26 (by omega) (by omega) dX2_allNamed_9 (by decide) (fun h9 => ?_) (fun h9 => ?_)
      · refine V_iload_n X dX2_allNamed_26 rfl ?_
        exact V_iret X E dX2_allNamed_27 (by rw [show i = n by omega] at ha; exact ha) rfl
      · refine V_iload_n X dX2_allNamed_12 rfl ?_
        refine V_aload_n X dX2_allNamed_13 rfl ?_
        refine V_iload_n X dX2_allNamed_14 rfl ?_
        refine V_cvi X (ltN (by decide) hN) rfl rfl rfl (kX2_named hN (by omega)) cwX2_48 rfl (rm_ok hR (by decide) (by decide)) (Nat.le_of_ble_eq_true rfl) dX2_allNamed_15 ?_
        refine V_ior X dX2_allNamed_18 ?_
        refine V_istore_n X dX2_allNamed_19 (by rw [hR.2]; decide) ?_
        refine V_iinc X (nI (_ + 1)) dX2_allNamed_20 (by rw [hR.2]; decide) rfl (nI_add _ 1) ?_
        refine V_goto X 4 dX2_allNamed_23 (by decide) ?_
        exact ih (i + 1) _ (by omega) (by omega) (by rw [ha]; rfl)
  refine V_iconst X (nI 0) dX2_allNamed_0 (by decide) ?_
  refine V_istore_n X dX2_allNamed_1 (by rw [hR.2]; decide) ?_
  refine V_iconst X (nI 0) dX2_allNamed_2 (by decide) ?_
  refine V_istore_n X dX2_allNamed_3 (by rw [hR.2]; decide) ?_
  exact loop (n + 1) 0 _ (by omega) (by omega) rfl

set_option maxRecDepth 100000 in
set_option maxHeartbeats 4000000 in
theorem kX2_allPlaces {G : Cx} {S : Sx} (hN : 80 ≤ gN G) {n : Nat} (hn : S 1 2 = nI n) (hn14 : n ≤ 14) : CT G (3) yX2_allPlaces cX2_allPlaces 3 (some .int) [ra G 1] S (apl (S 2) n (nI 0)) (S) := by
  refine CT_of (by decide) (Nat.le_of_ble_eq_true rfl) (by intro v hv; simp only [List.mem_cons, List.not_mem_nil, or_false] at hv; rcases hv with rfl <;> rfl) (fun F X E => ?_)
  have hR := RI_R E
  have loop : ∀ (k i : Nat) (a : Int32), i ≤ n → n - i < k → a = apl (S 2) i (nI 0) → V F G S 4 [some (ra G 1), some (.int a), some (.int (nI i))] [] := by
    intro k
    induction k with
    | zero => intro i a h1 h2; omega
    | succ k ih =>
      intro i a h1 h2 ha
      refine V_iload_n X dX2_allPlaces_4 rfl ?_
      refine V_aload_n X dX2_allPlaces_5 rfl ?_
      refine V_geti X flX2_18 (ltN (by decide) hN) rfl rfl dX2_allPlaces_6 ?_
      refine V_top (nI (n)) (by first | exact hn | simp [st, upd, hn]) ?_
      refine V_cN_ge X 41 (by omega) (by omega) dX2_allPlaces_9 (by decide) (fun h9 => ?_) (fun h9 => ?_)
      · refine V_iload_n X dX2_allPlaces_41 rfl ?_
        exact V_iret X E dX2_allPlaces_42 (by rw [show i = n by omega] at ha; exact ha) rfl
      · refine V_aload_n X dX2_allPlaces_12 rfl ?_
        refine V_iload_n X dX2_allPlaces_13 rfl ?_
        refine V_cvi X (ltN (by decide) hN) rfl rfl rfl (kX2_verb hN (by omega)) cwX2_29 rfl (rm_ok hR (by decide) (by decide)) (Nat.le_of_ble_eq_true rfl) dX2_allPlaces_14 ?_
        refine V_bipush X (nI 30) dX2_allPlaces_17 (by decide) ?_
        refine V_icmp_ne X 35 dX2_allPlaces_19 (by decide) (fun h19 => ?_) (fun h19 => ?_)
        · refine V_iinc X (nI (_ + 1)) dX2_allPlaces_35 (by rw [hR.2]; decide) rfl (nI_add _ 1) ?_
          refine V_goto X 4 dX2_allPlaces_38 (by decide) ?_
          exact ih (i + 1) _ (by omega) (by omega) (by rw [ha]; (first | exact (if_neg h19).symm | exact (if_pos (ts_nn h19)).symm))
        · refine V_iload_n X dX2_allPlaces_22 rfl ?_
          refine V_iconst X (nI 1) dX2_allPlaces_23 (by decide) ?_
          refine V_aload_n X dX2_allPlaces_24 rfl ?_
          refine V_iload_n X dX2_allPlaces_25 rfl ?_
          refine V_cvi X (ltN (by decide) hN) rfl rfl rfl (kX2_object hN (by omega)) cwX2_54 rfl (rm_ok hR (by decide) (by decide)) (Nat.le_of_ble_eq_true rfl) dX2_allPlaces_26 ?_
          refine V_bipush X (nI 20) dX2_allPlaces_29 (by decide) ?_
          refine V_isub X dX2_allPlaces_31 ?_
          refine V_ishl X dX2_allPlaces_32 ?_
          refine V_ior X dX2_allPlaces_33 ?_
          refine V_istore_n X dX2_allPlaces_34 (by rw [hR.2]; decide) ?_
          refine V_iinc X (nI (_ + 1)) dX2_allPlaces_35 (by rw [hR.2]; decide) rfl (nI_add _ 1) ?_
          refine V_goto X 4 dX2_allPlaces_38 (by decide) ?_
          exact ih (i + 1) _ (by omega) (by omega) (by rw [ha]; (first | exact (if_neg h19).symm | exact (if_pos (ts_nn h19)).symm))
  refine V_iconst X (nI 0) dX2_allPlaces_0 (by decide) ?_
  refine V_istore_n X dX2_allPlaces_1 (by rw [hR.2]; decide) ?_
  refine V_iconst X (nI 0) dX2_allPlaces_2 (by decide) ?_
  refine V_istore_n X dX2_allPlaces_3 (by rw [hR.2]; decide) ?_
  exact loop (n + 1) 0 _ (by omega) (by omega) rfl

