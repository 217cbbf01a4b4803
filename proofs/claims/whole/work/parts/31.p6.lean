/-! ===== the candidates, by masks ===== -/
def psl (m : Nat) : List Nat := (List.range 8).filter (fun p => m.testBit p)
def fst8 (l : List Nat) : Int32 := match l with
  | [] => -1
  | p :: _ => nI p
def snd8 (l : List Nat) : Int32 := match l with
  | _ :: q :: _ => nI q
  | _ => -1
theorem psl_f : ∀ m, m < 256 → bcF (nI m) = nI (psl m).length ∧ prq (nI m) = fst8 (psl m) ∧ ((psl m).length ≤ 2 → prq (nI m &&& (nI m - nI 1)) = snd8 (psl m)) := by decide +kernel
theorem ct_len (f : Nat → Bool) : ∀ k, ct f k = ((List.range k).filter f).length
  | 0 => rfl
  | k + 1 => by
    simp only [ct]
    rw [List.range_succ, List.filter_append, List.length_append, ct_len f k]
    cases h : f k <;> simp [h]
theorem psl_mm {g : Nat → Int32} {a s : Nat} (ha : whoN a) (h : ∀ k, k < s → wfM g k) : psl (mkN g a s) = (List.range 8).filter (fun q => mmB g a s q) := by
  unfold psl
  apply List.filter_congr
  intro p hp
  have hp8 := List.mem_range.mp hp
  rw [Bool.eq_iff_iff, mk_bit ha hp8 h]
  unfold mmB
  simp
theorem psl_2 {g : Nat → Int32} {a s : Nat} (ha : whoN a) (h : ∀ k, k < s → wfM g k) : (psl (mkN g a s)).length ≤ 2 := by
  rw [psl_mm ha h, ← ct_len]; exact ct_mm g a s
theorem gBl_m {g : Nat → Int32} {s a : Nat} : ∀ k j, gBl g s a k j = ((List.range' j k).filter (fun q => mmB g (sbN g s) s q)).map (fun b => (a, nI b))
  | 0, _ => rfl
  | k + 1, j => by
    unfold gBl
    rw [gBl_m k (j + 1), List.range'_succ, List.filter_cons]
    unfold mmB
    by_cases e : mmF g (sbN g s) s j = 0 <;> simp [e]
theorem gWl_m {g : Nat → Int32} {s : Nat} : ∀ k a, gWl g s k a = ((List.range' a k).filter (fun q => mmB g (saN g s) s q)).flatMap (fun a => if g (s * 5 + 1) = nI 33 then gBl g s a 8 0 else [(a, -1)])
  | 0, _ => rfl
  | k + 1, a => by
    unfold gWl
    rw [gWl_m k (a + 1), List.range'_succ, List.filter_cons]
    unfold mmB
    by_cases e : mmF g (saN g s) s a = 0 <;> simp [e]
theorem cds_m {g : Nat → Int32} {s : Nat} (h : ∀ k, k ≤ s → wfM g k) : cds g s = (psl (mkN g (saN g s) s)).flatMap (fun a => if g (s * 5 + 1) = nI 33 then (psl (mkN g (sbN g s) s)).map (fun b => (a, nI b)) else [(a, -1)]) := by
  unfold cds
  rw [gWl_m, psl_mm (sa_n (h s (by omega))).1 (fun k hk => h k (by omega)), List.range_eq_range']
  congr 1
  funext a
  by_cases e : g (s * 5 + 1) = nI 33
  · rw [if_pos e, if_pos e, gBl_m, psl_mm (sb_n (h s (by omega)) e).1 (fun k hk => h k (by omega)), List.range_eq_range']
  · rw [if_neg e, if_neg e]

