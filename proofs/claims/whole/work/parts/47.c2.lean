theorem ffX0_9 : FF RX0 9 0 0 := ⟨RX0, TX0, 3, tyX0, .array .int, rfl, by decide, uX0, gw_mem (tb_in 106 (by decide +kernel)) rfl, tyX0_ok, nmX0, rfl, rfl, by decide +kernel, fun a => ⟨rfl, rfl⟩⟩
theorem oiX0 : Cond.methodLink RX0 3 Lib.objectInit ∈ gw := gw_mem (tb_in 105 (by decide +kernel)) rfl
theorem ffX1_11 : FF RX1 11 1 0 := ⟨RX1, TX1, 3, tyX1, .array (.array .int), rfl, by decide, uX1, gw_mem (tb_in 87 (by decide +kernel)) rfl, tyX1_ok, nmX1, rfl, rfl, by decide +kernel, fun a => ⟨rfl, rfl⟩⟩
theorem ffX1_16 : FF RX1 16 1 1 := ⟨RX1, TX1, 3, tyX1, .array (.array .int), rfl, by decide, uX1, gw_mem (tb_in 89 (by decide +kernel)) rfl, tyX1_ok, nmX1, rfl, rfl, by decide +kernel, fun a => ⟨rfl, rfl⟩⟩
theorem ffX1_19 : FF RX1 19 1 2 := ⟨RX1, TX1, 3, tyX1, .array (.array .int), rfl, by decide, uX1, gw_mem (tb_in 91 (by decide +kernel)) rfl, tyX1_ok, nmX1, rfl, rfl, by decide +kernel, fun a => ⟨rfl, rfl⟩⟩
theorem oiX1 : Cond.methodLink RX1 3 Lib.objectInit ∈ gw := gw_mem (tb_in 85 (by decide +kernel)) rfl
theorem ffX2_9 : FF RX2 9 2 0 := ⟨RX2, TX2, 4, tyX2, .array .int, rfl, by decide, uX2, gw_mem (tb_in 24 (by decide +kernel)) rfl, tyX2_ok, nmX2, rfl, rfl, by decide +kernel, fun a => ⟨rfl, rfl⟩⟩
theorem ffX2_15 : FF RX2 15 2 1 := ⟨RX2, TX2, 4, tyX2, .array .int, rfl, by decide, uX2, gw_mem (tb_in 25 (by decide +kernel)) rfl, tyX2_ok, nmX2, rfl, rfl, by decide +kernel, fun a => ⟨rfl, rfl⟩⟩
theorem oiX2 : Cond.methodLink RX2 3 Lib.objectInit ∈ gw := gw_mem (tb_in 23 (by decide +kernel)) rfl
theorem ffX3_11 : FF RX3 11 3 0 := ⟨RX3, TX3, 2, tyX3, .array (.array .int), rfl, by decide, uX3, gw_mem (tb_in 48 (by decide +kernel)) rfl, tyX3_ok, nmX3, rfl, rfl, by decide +kernel, fun a => ⟨rfl, rfl⟩⟩
theorem ffX3_16 : FF RX3 16 3 1 := ⟨RX3, TX3, 2, tyX3, .array .int, rfl, by decide, uX3, gw_mem (tb_in 49 (by decide +kernel)) rfl, tyX3_ok, nmX3, rfl, rfl, by decide +kernel, fun a => ⟨rfl, rfl⟩⟩
theorem oiX3 : Cond.methodLink RX3 3 Lib.objectInit ∈ gw := gw_mem (tb_in 45 (by decide +kernel)) rfl
theorem ffX4_9 : FF RX4 9 4 0 := ⟨RX4, TX4, 6, tyX4, .array .int, rfl, by decide, uX4, gw_mem (tb_in 61 (by decide +kernel)) rfl, tyX4_ok, nmX4, rfl, rfl, by decide +kernel, fun a => ⟨rfl, rfl⟩⟩
theorem ffX4_15 : FF RX4 15 4 1 := ⟨RX4, TX4, 6, tyX4, .array .int, rfl, by decide, uX4, gw_mem (tb_in 62 (by decide +kernel)) rfl, tyX4_ok, nmX4, rfl, rfl, by decide +kernel, fun a => ⟨rfl, rfl⟩⟩
theorem ffX4_18 : FF RX4 18 4 2 := ⟨RX4, TX4, 6, tyX4, .array .int, rfl, by decide, uX4, gw_mem (tb_in 63 (by decide +kernel)) rfl, tyX4_ok, nmX4, rfl, rfl, by decide +kernel, fun a => ⟨rfl, rfl⟩⟩
theorem ffX4_21 : FF RX4 21 4 3 := ⟨RX4, TX4, 6, tyX4, .array .int, rfl, by decide, uX4, gw_mem (tb_in 64 (by decide +kernel)) rfl, tyX4_ok, nmX4, rfl, rfl, by decide +kernel, fun a => ⟨rfl, rfl⟩⟩
theorem ffX4_24 : FF RX4 24 4 4 := ⟨RX4, TX4, 6, tyX4, .array .int, rfl, by decide, uX4, gw_mem (tb_in 65 (by decide +kernel)) rfl, tyX4_ok, nmX4, rfl, rfl, by decide +kernel, fun a => ⟨rfl, rfl⟩⟩
theorem ffX4_27 : FF RX4 27 4 5 := ⟨RX4, TX4, 6, tyX4, .array .int, rfl, by decide, uX4, gw_mem (tb_in 66 (by decide +kernel)) rfl, tyX4_ok, nmX4, rfl, rfl, by decide +kernel, fun a => ⟨rfl, rfl⟩⟩
theorem oiX4 : Cond.methodLink RX4 3 Lib.objectInit ∈ gw := gw_mem (tb_in 60 (by decide +kernel)) rfl
theorem ffX5_12 : FF RX5 12 5 0 := ⟨RX5, TX5, 5, tyX5, .object "TextAsker$Text", rfl, by decide, uX5, gw_mem (tb_in 236 (by decide +kernel)) rfl, tyX5_ok, nmX5, rfl, rfl, by decide +kernel, fun a => ⟨rfl, rfl⟩⟩
theorem ffX5_19 : FF RX5 19 5 1 := ⟨RX5, TX5, 5, tyX5, .object "TextAsker$Ways", rfl, by decide, uX5, gw_mem (tb_in 237 (by decide +kernel)) rfl, tyX5_ok, nmX5, rfl, rfl, by decide +kernel, fun a => ⟨rfl, rfl⟩⟩
theorem ffX5_26 : FF RX5 26 5 2 := ⟨RX5, TX5, 5, tyX5, .object "TextAsker$World", rfl, by decide, uX5, gw_mem (tb_in 238 (by decide +kernel)) rfl, tyX5_ok, nmX5, rfl, rfl, by decide +kernel, fun a => ⟨rfl, rfl⟩⟩
theorem ffX5_33 : FF RX5 33 5 3 := ⟨RX5, TX5, 5, tyX5, .object "TextAsker$Findings", rfl, by decide, uX5, gw_mem (tb_in 239 (by decide +kernel)) rfl, tyX5_ok, nmX5, rfl, rfl, by decide +kernel, fun a => ⟨rfl, rfl⟩⟩
theorem ffX5_40 : FF RX5 40 5 4 := ⟨RX5, TX5, 5, tyX5, .object "TextAsker$Cover", rfl, by decide, uX5, gw_mem (tb_in 240 (by decide +kernel)) rfl, tyX5_ok, nmX5, rfl, rfl, by decide +kernel, fun a => ⟨rfl, rfl⟩⟩
theorem oiX5 : Cond.methodLink RX5 3 Lib.objectInit ∈ gw := gw_mem (tb_in 15 (by decide +kernel)) rfl
theorem ffX6_9 : FF RX6 9 6 1 := ⟨RX6, TX6, 9, tyX6, .array .int, rfl, by decide, uX6, gw_mem (tb_in 480 (by decide +kernel)) rfl, tyX6_ok, nmX6, rfl, rfl, by decide +kernel, fun a => ⟨rfl, rfl⟩⟩
theorem ffX6_13 : FF RX6 13 6 2 := ⟨RX6, TX6, 9, tyX6, .array .int, rfl, by decide, uX6, gw_mem (tb_in 481 (by decide +kernel)) rfl, tyX6_ok, nmX6, rfl, rfl, by decide +kernel, fun a => ⟨rfl, rfl⟩⟩
theorem ffX6_16 : FF RX6 16 6 3 := ⟨RX6, TX6, 9, tyX6, .array .int, rfl, by decide, uX6, gw_mem (tb_in 482 (by decide +kernel)) rfl, tyX6_ok, nmX6, rfl, rfl, by decide +kernel, fun a => ⟨rfl, rfl⟩⟩
theorem ffX6_19 : FF RX6 19 6 4 := ⟨RX6, TX6, 9, tyX6, .array .int, rfl, by decide, uX6, gw_mem (tb_in 483 (by decide +kernel)) rfl, tyX6_ok, nmX6, rfl, rfl, by decide +kernel, fun a => ⟨rfl, rfl⟩⟩
theorem ffX6_22 : FF RX6 22 6 6 := ⟨RX6, TX6, 9, tyX6, .array .int, rfl, by decide, uX6, gw_mem (tb_in 485 (by decide +kernel)) rfl, tyX6_ok, nmX6, rfl, rfl, by decide +kernel, fun a => ⟨rfl, rfl⟩⟩
theorem ffX6_25 : FF RX6 25 6 7 := ⟨RX6, TX6, 9, tyX6, .array .int, rfl, by decide, uX6, gw_mem (tb_in 486 (by decide +kernel)) rfl, tyX6_ok, nmX6, rfl, rfl, by decide +kernel, fun a => ⟨rfl, rfl⟩⟩
theorem ffX6_28 : FF RX6 28 6 8 := ⟨RX6, TX6, 9, tyX6, .array .int, rfl, by decide, uX6, gw_mem (tb_in 487 (by decide +kernel)) rfl, tyX6_ok, nmX6, rfl, rfl, by decide +kernel, fun a => ⟨rfl, rfl⟩⟩
theorem oiX6 : Cond.methodLink RX6 3 Lib.objectInit ∈ gw := gw_mem (tb_in 478 (by decide +kernel)) rfl
theorem nwX5_9 : NW RX5 9 2 [.null, .null, .int 0, .int 0] 4 := ⟨RX2, TX2, tyX2, rfl, uX2, tyX2_ok, gw_mem (tb_in 18 (by decide +kernel)) rfl, gw_mem (by decide +kernel) rfl, gw_mem (by decide +kernel) rfl, fun j hj => by rcases (show j = 0 ∨ j = 1 ∨ j = 2 ∨ j = 3 by omega) with rfl | rfl | rfl | rfl <;> rfl⟩
theorem nwX5_16 : NW RX5 16 3 [.null, .null] 2 := ⟨RX3, TX3, tyX3, rfl, uX3, tyX3_ok, gw_mem (tb_in 40 (by decide +kernel)) rfl, gw_mem (by decide +kernel) rfl, gw_mem (by decide +kernel) rfl, fun j hj => by rcases (show j = 0 ∨ j = 1 by omega) with rfl | rfl <;> rfl⟩
theorem nwX5_23 : NW RX5 23 4 [.null, .null, .null, .null, .null, .null] 6 := ⟨RX4, TX4, tyX4, rfl, uX4, tyX4_ok, gw_mem (tb_in 55 (by decide +kernel)) rfl, gw_mem (by decide +kernel) rfl, gw_mem (by decide +kernel) rfl, fun j hj => by rcases (show j = 0 ∨ j = 1 ∨ j = 2 ∨ j = 3 ∨ j = 4 ∨ j = 5 by omega) with rfl | rfl | rfl | rfl | rfl | rfl <;> rfl⟩
theorem nwX5_30 : NW RX5 30 1 [.null, .null, .null] 3 := ⟨RX1, TX1, tyX1, rfl, uX1, tyX1_ok, gw_mem (tb_in 80 (by decide +kernel)) rfl, gw_mem (by decide +kernel) rfl, gw_mem (by decide +kernel) rfl, fun j hj => by rcases (show j = 0 ∨ j = 1 ∨ j = 2 by omega) with rfl | rfl | rfl <;> rfl⟩
theorem nwX5_37 : NW RX5 37 0 [.null, .int 0, .int 0] 3 := ⟨RX0, TX0, tyX0, rfl, uX0, tyX0_ok, gw_mem (tb_in 100 (by decide +kernel)) rfl, gw_mem (by decide +kernel) rfl, gw_mem (by decide +kernel) rfl, fun j hj => by rcases (show j = 0 ∨ j = 1 ∨ j = 2 by omega) with rfl | rfl | rfl <;> rfl⟩
theorem nwL_7 : NW RL 7 5 [.null, .null, .null, .null, .null] 5 := ⟨RX5, TX5, tyX5, rfl, uX5, tyX5_ok, gw_mem (tb_in 10 (by decide +kernel)) rfl, gw_mem (by decide +kernel) rfl, gw_mem (by decide +kernel) rfl, fun j hj => by rcases (show j = 0 ∨ j = 1 ∨ j = 2 ∨ j = 3 ∨ j = 4 by omega) with rfl | rfl | rfl | rfl | rfl <;> rfl⟩
theorem nwL_10 : NW RL 10 6 [.int 0, .null, .null, .null, .null, .int 0, .null, .null, .null] 9 := ⟨RX6, TX6, tyX6, rfl, uX6, tyX6_ok, gw_mem (tb_in 473 (by decide +kernel)) rfl, gw_mem (by decide +kernel) rfl, gw_mem (by decide +kernel) rfl, fun j hj => by rcases (show j = 0 ∨ j = 1 ∨ j = 2 ∨ j = 3 ∨ j = 4 ∨ j = 5 ∨ j = 6 ∨ j = 7 ∨ j = 8 by omega) with rfl | rfl | rfl | rfl | rfl | rfl | rfl | rfl | rfl <;> rfl⟩
theorem ciX5_11 : CWn RX5 11 yX2_init cX2_init := ⟨⟨"TextAsker", nw_mem (tb_in 20 (by decide +kernel)) rfl⟩, gw_mem (tb_in 21 (by decide +kernel)) rfl, gw_mem (tb_in 2 (by decide +kernel)) rfl, gw_mem (tb_in 22 (by decide +kernel)) rfl, ⟨by decide, by decide, by decide +kernel⟩⟩
theorem ciX5_25 : CWn RX5 25 yX4_init cX4_init := ⟨⟨"TextAsker", nw_mem (tb_in 57 (by decide +kernel)) rfl⟩, gw_mem (tb_in 58 (by decide +kernel)) rfl, gw_mem (tb_in 4 (by decide +kernel)) rfl, gw_mem (tb_in 59 (by decide +kernel)) rfl, ⟨by decide, by decide, by decide +kernel⟩⟩
theorem ciX5_32 : CWn RX5 32 yX1_init cX1_init := ⟨⟨"TextAsker", nw_mem (tb_in 82 (by decide +kernel)) rfl⟩, gw_mem (tb_in 83 (by decide +kernel)) rfl, gw_mem (tb_in 5 (by decide +kernel)) rfl, gw_mem (tb_in 84 (by decide +kernel)) rfl, ⟨by decide, by decide, by decide +kernel⟩⟩
theorem ciX5_39 : CWn RX5 39 yX0_init cX0_init := ⟨⟨"TextAsker", nw_mem (tb_in 102 (by decide +kernel)) rfl⟩, gw_mem (tb_in 103 (by decide +kernel)) rfl, gw_mem (tb_in 6 (by decide +kernel)) rfl, gw_mem (tb_in 104 (by decide +kernel)) rfl, ⟨by decide, by decide, by decide +kernel⟩⟩
theorem ciX5_18 : CWi RX5 18 yX3_init cX3_init := ⟨gw_mem (tb_in 42 (by decide +kernel)) rfl, gw_mem (tb_in 43 (by decide +kernel)) rfl, gw_mem (tb_in 3 (by decide +kernel)) rfl, gw_mem (tb_in 44 (by decide +kernel)) rfl, ⟨by decide, by decide, by decide +kernel⟩⟩
theorem ciL_9 : CWi RL 9 yX5_init cX5_init := ⟨gw_mem (tb_in 12 (by decide +kernel)) rfl, gw_mem (tb_in 13 (by decide +kernel)) rfl, gw_mem (tb_in 1 (by decide +kernel)) rfl, gw_mem (tb_in 14 (by decide +kernel)) rfl, ⟨by decide, by decide, by decide +kernel⟩⟩
theorem ciL_12 : CWi RL 12 yX6_init cX6_init := ⟨gw_mem (tb_in 475 (by decide +kernel)) rfl, gw_mem (tb_in 476 (by decide +kernel)) rfl, gw_mem (tb_in 9 (by decide +kernel)) rfl, gw_mem (tb_in 477 (by decide +kernel)) rfl, ⟨by decide, by decide, by decide +kernel⟩⟩
theorem clX3_9 : Cond.classLink RX3 9 "[[I" ∈ gw := gw_mem (tb_in 46 (by decide +kernel)) rfl
theorem clX1_9 : Cond.classLink RX1 9 "[[I" ∈ gw := gw_mem (tb_in 86 (by decide +kernel)) rfl
set_option maxRecDepth 100000 in
set_option maxHeartbeats 4000000 in
theorem iX2 {G : Cx} {h0 sz : Nat} : IC G 1 2 98 yX2_init cX2_init h0 sz 2 [.null, .null, .int 0, .int 0] (fun ws => ∃ a0 a1 : Nat, ws = (h0, .inr (2, [.ref a0, .ref a1, .int 0, .int 0])) :: ([(a0, zI G 70)] ++ [(a1, zI G 28)])) := by
  refine IC_of (by decide) rfl (fun F X hA hM E => ?_)
  have hR := RC_R E
  refine U_aload_n X dX2_init_0 rfl ?_
  refine U_obj X oiX2 (by rw [hR.1]; decide) (by rw [hR.1]; decide) dX2_init_1 ?_
  refine U_aload_n X dX2_init_4 rfl ?_
  refine U_bipush X (nI 70) dX2_init_5 (by decide) ?_
  refine U_newI X hA (by decide) (by rw [hR.1]; decide) (by rw [hR.1]; decide) dX2_init_7 (fun a0 => ?_)
  refine U_ws (ws' := (h0, .inr (2, [.null, .null, .int 0, .int 0])) :: ([(a0, zI G 70)])) rfl ?_
  refine U_putF X hM ffX2_9 (Nat.le_of_ble_eq_true rfl) dX2_init_9 ?_
  refine U_ws (ws' := (h0, .inr (2, [.ref a0, .null, .int 0, .int 0])) :: ([(a0, zI G 70)])) rfl ?_
  refine U_aload_n X dX2_init_12 rfl ?_
  refine U_bipush X (nI 28) dX2_init_13 (by decide) ?_
  refine U_newI X hA (by decide) (by rw [hR.1]; decide) (by rw [hR.1]; decide) dX2_init_15 (fun a1 => ?_)
  refine U_ws (ws' := (h0, .inr (2, [.ref a0, .null, .int 0, .int 0])) :: ([(a0, zI G 70)] ++ [(a1, zI G 28)])) rfl ?_
  refine U_putF X hM ffX2_15 (Nat.le_of_ble_eq_true rfl) dX2_init_17 ?_
  refine U_ws (ws' := (h0, .inr (2, [.ref a0, .ref a1, .int 0, .int 0])) :: ([(a0, zI G 70)] ++ [(a1, zI G 28)])) rfl ?_
  refine U_kn (k2 := 2) (n2 := 98) rfl rfl ?_
  exact U_ret X E dX2_init_20 ⟨a0, a1, rfl⟩
set_option maxRecDepth 100000 in
set_option maxHeartbeats 4000000 in
theorem iX0 {G : Cx} {h0 sz : Nat} : IC G 1 1 36 yX0_init cX0_init h0 sz 0 [.null, .int 0, .int 0] (fun ws => ∃ a0 : Nat, ws = (h0, .inr (0, [.ref a0, .int 0, .int 0])) :: ([(a0, zI G 36)])) := by
  refine IC_of (by decide) rfl (fun F X hA hM E => ?_)
  have hR := RC_R E
  refine U_aload_n X dX0_init_0 rfl ?_
  refine U_obj X oiX0 (by rw [hR.1]; decide) (by rw [hR.1]; decide) dX0_init_1 ?_
  refine U_aload_n X dX0_init_4 rfl ?_
  refine U_bipush X (nI 36) dX0_init_5 (by decide) ?_
  refine U_newI X hA (by decide) (by rw [hR.1]; decide) (by rw [hR.1]; decide) dX0_init_7 (fun a0 => ?_)
  refine U_ws (ws' := (h0, .inr (0, [.null, .int 0, .int 0])) :: ([(a0, zI G 36)])) rfl ?_
  refine U_putF X hM ffX0_9 (Nat.le_of_ble_eq_true rfl) dX0_init_9 ?_
  refine U_ws (ws' := (h0, .inr (0, [.ref a0, .int 0, .int 0])) :: ([(a0, zI G 36)])) rfl ?_
  refine U_kn (k2 := 1) (n2 := 36) rfl rfl ?_
  exact U_ret X E dX0_init_12 ⟨a0, rfl⟩
set_option maxRecDepth 100000 in
set_option maxHeartbeats 4000000 in
theorem iX4 {G : Cx} {h0 sz : Nat} : IC G 1 6 56 yX4_init cX4_init h0 sz 4 [.null, .null, .null, .null, .null, .null] (fun ws => ∃ a0 a1 a2 a3 a4 a5 : Nat, ws = (h0, .inr (4, [.ref a0, .ref a1, .ref a2, .ref a3, .ref a4, .ref a5])) :: ([(a0, zI G 8)] ++ [(a1, zI G 8)] ++ [(a2, zI G 10)] ++ [(a3, zI G 10)] ++ [(a4, zI G 10)] ++ [(a5, zI G 10)])) := by
  refine IC_of (by decide) rfl (fun F X hA hM E => ?_)
  have hR := RC_R E
  refine U_aload_n X dX4_init_0 rfl ?_
  refine U_obj X oiX4 (by rw [hR.1]; decide) (by rw [hR.1]; decide) dX4_init_1 ?_
  refine U_aload_n X dX4_init_4 rfl ?_
  refine U_bipush X (nI 8) dX4_init_5 (by decide) ?_
  refine U_newI X hA (by decide) (by rw [hR.1]; decide) (by rw [hR.1]; decide) dX4_init_7 (fun a0 => ?_)
  refine U_ws (ws' := (h0, .inr (4, [.null, .null, .null, .null, .null, .null])) :: ([(a0, zI G 8)])) rfl ?_
  refine U_putF X hM ffX4_9 (Nat.le_of_ble_eq_true rfl) dX4_init_9 ?_
  refine U_ws (ws' := (h0, .inr (4, [.ref a0, .null, .null, .null, .null, .null])) :: ([(a0, zI G 8)])) rfl ?_
  refine U_aload_n X dX4_init_12 rfl ?_
  refine U_bipush X (nI 8) dX4_init_13 (by decide) ?_
  refine U_newI X hA (by decide) (by rw [hR.1]; decide) (by rw [hR.1]; decide) dX4_init_15 (fun a1 => ?_)
  refine U_ws (ws' := (h0, .inr (4, [.ref a0, .null, .null, .null, .null, .null])) :: ([(a0, zI G 8)] ++ [(a1, zI G 8)])) rfl ?_
  refine U_putF X hM ffX4_15 (Nat.le_of_ble_eq_true rfl) dX4_init_17 ?_
  refine U_ws (ws' := (h0, .inr (4, [.ref a0, .ref a1, .null, .null, .null, .null])) :: ([(a0, zI G 8)] ++ [(a1, zI G 8)])) rfl ?_
  refine U_aload_n X dX4_init_20 rfl ?_
  refine U_bipush X (nI 10) dX4_init_21 (by decide) ?_
  refine U_newI X hA (by decide) (by rw [hR.1]; decide) (by rw [hR.1]; decide) dX4_init_23 (fun a2 => ?_)
  refine U_ws (ws' := (h0, .inr (4, [.ref a0, .ref a1, .null, .null, .null, .null])) :: ([(a0, zI G 8)] ++ [(a1, zI G 8)] ++ [(a2, zI G 10)])) rfl ?_
  refine U_putF X hM ffX4_18 (Nat.le_of_ble_eq_true rfl) dX4_init_25 ?_
  refine U_ws (ws' := (h0, .inr (4, [.ref a0, .ref a1, .ref a2, .null, .null, .null])) :: ([(a0, zI G 8)] ++ [(a1, zI G 8)] ++ [(a2, zI G 10)])) rfl ?_
  refine U_aload_n X dX4_init_28 rfl ?_
  refine U_bipush X (nI 10) dX4_init_29 (by decide) ?_
  refine U_newI X hA (by decide) (by rw [hR.1]; decide) (by rw [hR.1]; decide) dX4_init_31 (fun a3 => ?_)
  refine U_ws (ws' := (h0, .inr (4, [.ref a0, .ref a1, .ref a2, .null, .null, .null])) :: ([(a0, zI G 8)] ++ [(a1, zI G 8)] ++ [(a2, zI G 10)] ++ [(a3, zI G 10)])) rfl ?_
  refine U_putF X hM ffX4_21 (Nat.le_of_ble_eq_true rfl) dX4_init_33 ?_
  refine U_ws (ws' := (h0, .inr (4, [.ref a0, .ref a1, .ref a2, .ref a3, .null, .null])) :: ([(a0, zI G 8)] ++ [(a1, zI G 8)] ++ [(a2, zI G 10)] ++ [(a3, zI G 10)])) rfl ?_
  refine U_aload_n X dX4_init_36 rfl ?_
  refine U_bipush X (nI 10) dX4_init_37 (by decide) ?_
  refine U_newI X hA (by decide) (by rw [hR.1]; decide) (by rw [hR.1]; decide) dX4_init_39 (fun a4 => ?_)
  refine U_ws (ws' := (h0, .inr (4, [.ref a0, .ref a1, .ref a2, .ref a3, .null, .null])) :: ([(a0, zI G 8)] ++ [(a1, zI G 8)] ++ [(a2, zI G 10)] ++ [(a3, zI G 10)] ++ [(a4, zI G 10)])) rfl ?_
  refine U_putF X hM ffX4_24 (Nat.le_of_ble_eq_true rfl) dX4_init_41 ?_
  refine U_ws (ws' := (h0, .inr (4, [.ref a0, .ref a1, .ref a2, .ref a3, .ref a4, .null])) :: ([(a0, zI G 8)] ++ [(a1, zI G 8)] ++ [(a2, zI G 10)] ++ [(a3, zI G 10)] ++ [(a4, zI G 10)])) rfl ?_
  refine U_aload_n X dX4_init_44 rfl ?_
  refine U_bipush X (nI 10) dX4_init_45 (by decide) ?_
  refine U_newI X hA (by decide) (by rw [hR.1]; decide) (by rw [hR.1]; decide) dX4_init_47 (fun a5 => ?_)
  refine U_ws (ws' := (h0, .inr (4, [.ref a0, .ref a1, .ref a2, .ref a3, .ref a4, .null])) :: ([(a0, zI G 8)] ++ [(a1, zI G 8)] ++ [(a2, zI G 10)] ++ [(a3, zI G 10)] ++ [(a4, zI G 10)] ++ [(a5, zI G 10)])) rfl ?_
  refine U_putF X hM ffX4_27 (Nat.le_of_ble_eq_true rfl) dX4_init_49 ?_
  refine U_ws (ws' := (h0, .inr (4, [.ref a0, .ref a1, .ref a2, .ref a3, .ref a4, .ref a5])) :: ([(a0, zI G 8)] ++ [(a1, zI G 8)] ++ [(a2, zI G 10)] ++ [(a3, zI G 10)] ++ [(a4, zI G 10)] ++ [(a5, zI G 10)])) rfl ?_
  refine U_kn (k2 := 6) (n2 := 56) rfl rfl ?_
  exact U_ret X E dX4_init_52 ⟨a0, a1, a2, a3, a4, a5, rfl⟩
set_option maxRecDepth 100000 in
set_option maxHeartbeats 4000000 in
theorem iX3 {G : Cx} {h0 sz : Nat} : IC G 1 17 990 yX3_init cX3_init h0 sz 3 [.null, .null] (fun ws => ∃ a0 a1 : Nat, ws = (h0, .inr (3, [.ref a0, .ref a1])) :: (mrow (gI G) (gO G) a0 64 ++ [(a1, .inl (gI G, 15, .inl (upd (fun _ => 0) 0 (nI 1))))])) := by
  refine IC_of (by decide) rfl (fun F X hA hM E => ?_)
  have hR := RC_R E
  refine U_aload_n X dX3_init_0 rfl ?_
  refine U_obj X oiX3 (by rw [hR.1]; decide) (by rw [hR.1]; decide) dX3_init_1 ?_
  refine U_aload_n X dX3_init_4 rfl ?_
  refine U_bipush X (nI 15) dX3_init_5 (by decide) ?_
  refine U_bipush X (nI 64) dX3_init_7 (by decide) ?_
  refine U_mul X hA (by decide) clX3_9 (by rw [hR.1]; decide) (by rw [hR.1]; decide) dX3_init_9 (fun a0 => ?_)
  refine U_ws (ws' := (h0, .inr (3, [.null, .null])) :: (mrow (gI G) (gO G) a0 64)) rfl ?_
  refine U_putF X hM ffX3_11 (Nat.le_of_ble_eq_true rfl) dX3_init_13 ?_
  refine U_ws (ws' := (h0, .inr (3, [.ref a0, .null])) :: (mrow (gI G) (gO G) a0 64)) rfl ?_
  refine U_aload_n X dX3_init_16 rfl ?_
  refine U_bipush X (nI 15) dX3_init_17 (by decide) ?_
  refine U_newI X hA (by decide) (by rw [hR.1]; decide) (by rw [hR.1]; decide) dX3_init_19 (fun a1 => ?_)
  refine U_ws (ws' := (h0, .inr (3, [.ref a0, .null])) :: (mrow (gI G) (gO G) a0 64 ++ [(a1, zI G 15)])) rfl ?_
  refine U_putF X hM ffX3_16 (Nat.le_of_ble_eq_true rfl) dX3_init_21 ?_
  refine U_ws (ws' := (h0, .inr (3, [.ref a0, .ref a1])) :: (mrow (gI G) (gO G) a0 64 ++ [(a1, zI G 15)])) rfl ?_
  refine U_aload_n X dX3_init_24 rfl ?_
  refine U_get (q0 := 0) X flX3_16 rfl rfl dX3_init_25 ?_
  refine U_iconst X (nI 0) dX3_init_28 (by decide) ?_
  refine U_iconst X (nI 1) dX3_init_29 (by decide) ?_
  refine U_iast (q0 := 17) (i := 0) X rfl (by decide) (by decide) dX3_init_30 ?_
  refine U_ws (ws' := (h0, .inr (3, [.ref a0, .ref a1])) :: (mrow (gI G) (gO G) a0 64 ++ [(a1, .inl (gI G, 15, .inl (upd (fun _ => 0) 0 (nI 1))))])) rfl ?_
  refine U_kn (k2 := 17) (n2 := 990) rfl rfl ?_
  exact U_ret X E dX3_init_31 ⟨a0, a1, rfl⟩
set_option maxRecDepth 100000 in
set_option maxHeartbeats 4000000 in
theorem iX1 {G : Cx} {h0 sz : Nat} : IC G 1 48 1665 yX1_init cX1_init h0 sz 1 [.null, .null, .null] (fun ws => ∃ a0 a1 a2 : Nat, ws = (h0, .inr (1, [.ref a0, .ref a1, .ref a2])) :: (mrow (gI G) (gO G) a0 36 ++ mrow (gI G) (gO G) a1 36 ++ mrow (gI G) (gO G) a2 36)) := by
  refine IC_of (by decide) rfl (fun F X hA hM E => ?_)
  have hR := RC_R E
  refine U_aload_n X dX1_init_0 rfl ?_
  refine U_obj X oiX1 (by rw [hR.1]; decide) (by rw [hR.1]; decide) dX1_init_1 ?_
  refine U_aload_n X dX1_init_4 rfl ?_
  refine U_bipush X (nI 15) dX1_init_5 (by decide) ?_
  refine U_bipush X (nI 36) dX1_init_7 (by decide) ?_
  refine U_mul X hA (by decide) clX1_9 (by rw [hR.1]; decide) (by rw [hR.1]; decide) dX1_init_9 (fun a0 => ?_)
  refine U_ws (ws' := (h0, .inr (1, [.null, .null, .null])) :: (mrow (gI G) (gO G) a0 36)) rfl ?_
  refine U_putF X hM ffX1_11 (Nat.le_of_ble_eq_true rfl) dX1_init_13 ?_
  refine U_ws (ws' := (h0, .inr (1, [.ref a0, .null, .null])) :: (mrow (gI G) (gO G) a0 36)) rfl ?_
  refine U_aload_n X dX1_init_16 rfl ?_
  refine U_bipush X (nI 15) dX1_init_17 (by decide) ?_
  refine U_bipush X (nI 36) dX1_init_19 (by decide) ?_
  refine U_mul X hA (by decide) clX1_9 (by rw [hR.1]; decide) (by rw [hR.1]; decide) dX1_init_21 (fun a1 => ?_)
  refine U_ws (ws' := (h0, .inr (1, [.ref a0, .null, .null])) :: (mrow (gI G) (gO G) a0 36 ++ mrow (gI G) (gO G) a1 36)) rfl ?_
  refine U_putF X hM ffX1_16 (Nat.le_of_ble_eq_true rfl) dX1_init_25 ?_
  refine U_ws (ws' := (h0, .inr (1, [.ref a0, .ref a1, .null])) :: (mrow (gI G) (gO G) a0 36 ++ mrow (gI G) (gO G) a1 36)) rfl ?_
  refine U_aload_n X dX1_init_28 rfl ?_
  refine U_bipush X (nI 15) dX1_init_29 (by decide) ?_
  refine U_bipush X (nI 36) dX1_init_31 (by decide) ?_
  refine U_mul X hA (by decide) clX1_9 (by rw [hR.1]; decide) (by rw [hR.1]; decide) dX1_init_33 (fun a2 => ?_)
  refine U_ws (ws' := (h0, .inr (1, [.ref a0, .ref a1, .null])) :: (mrow (gI G) (gO G) a0 36 ++ mrow (gI G) (gO G) a1 36 ++ mrow (gI G) (gO G) a2 36)) rfl ?_
  refine U_putF X hM ffX1_19 (Nat.le_of_ble_eq_true rfl) dX1_init_37 ?_
  refine U_ws (ws' := (h0, .inr (1, [.ref a0, .ref a1, .ref a2])) :: (mrow (gI G) (gO G) a0 36 ++ mrow (gI G) (gO G) a1 36 ++ mrow (gI G) (gO G) a2 36)) rfl ?_
  refine U_kn (k2 := 48) (n2 := 1665) rfl rfl ?_
  exact U_ret X E dX1_init_40 ⟨a0, a1, a2, rfl⟩
set_option maxRecDepth 100000 in
set_option maxHeartbeats 4000000 in
theorem iX6 {G : Cx} {h0 sz : Nat} : IC G 1 7 53404 yX6_init cX6_init h0 sz 6 [.int 0, .null, .null, .null, .null, .int 0, .null, .null, .null] (fun ws => ∃ a0 a1 a2 a3 a4 a5 a6 : Nat, ws = (h0, .inr (6, [.int 0, .ref a0, .ref a1, .ref a2, .ref a3, .int 0, .ref a4, .ref a5, .ref a6])) :: ([(a0, zI G 75)] ++ [(a1, zI G 15)] ++ [(a2, zI G 26624)] ++ [(a3, zI G 26624)] ++ [(a4, zI G 36)] ++ [(a5, zI G 15)] ++ [(a6, zI G 15)])) := by
  refine IC_of (by decide) rfl (fun F X hA hM E => ?_)
  have hR := RC_R E
  refine U_aload_n X dX6_init_0 rfl ?_
  refine U_obj X oiX6 (by rw [hR.1]; decide) (by rw [hR.1]; decide) dX6_init_1 ?_
  refine U_aload_n X dX6_init_4 rfl ?_
  refine U_bipush X (nI 75) dX6_init_5 (by decide) ?_
  refine U_newI X hA (by decide) (by rw [hR.1]; decide) (by rw [hR.1]; decide) dX6_init_7 (fun a0 => ?_)
  refine U_ws (ws' := (h0, .inr (6, [.int 0, .null, .null, .null, .null, .int 0, .null, .null, .null])) :: ([(a0, zI G 75)])) rfl ?_
  refine U_putF X hM ffX6_9 (Nat.le_of_ble_eq_true rfl) dX6_init_9 ?_
  refine U_ws (ws' := (h0, .inr (6, [.int 0, .ref a0, .null, .null, .null, .int 0, .null, .null, .null])) :: ([(a0, zI G 75)])) rfl ?_
  refine U_aload_n X dX6_init_12 rfl ?_
  refine U_bipush X (nI 15) dX6_init_13 (by decide) ?_
  refine U_newI X hA (by decide) (by rw [hR.1]; decide) (by rw [hR.1]; decide) dX6_init_15 (fun a1 => ?_)
  refine U_ws (ws' := (h0, .inr (6, [.int 0, .ref a0, .null, .null, .null, .int 0, .null, .null, .null])) :: ([(a0, zI G 75)] ++ [(a1, zI G 15)])) rfl ?_
  refine U_putF X hM ffX6_13 (Nat.le_of_ble_eq_true rfl) dX6_init_17 ?_
  refine U_ws (ws' := (h0, .inr (6, [.int 0, .ref a0, .ref a1, .null, .null, .int 0, .null, .null, .null])) :: ([(a0, zI G 75)] ++ [(a1, zI G 15)])) rfl ?_
  refine U_aload_n X dX6_init_20 rfl ?_
  refine U_sipush X (nI 26624) dX6_init_21 (by decide) ?_
  refine U_newI X hA (by decide) (by rw [hR.1]; decide) (by rw [hR.1]; decide) dX6_init_24 (fun a2 => ?_)
  refine U_ws (ws' := (h0, .inr (6, [.int 0, .ref a0, .ref a1, .null, .null, .int 0, .null, .null, .null])) :: ([(a0, zI G 75)] ++ [(a1, zI G 15)] ++ [(a2, zI G 26624)])) rfl ?_
  refine U_putF X hM ffX6_16 (Nat.le_of_ble_eq_true rfl) dX6_init_26 ?_
  refine U_ws (ws' := (h0, .inr (6, [.int 0, .ref a0, .ref a1, .ref a2, .null, .int 0, .null, .null, .null])) :: ([(a0, zI G 75)] ++ [(a1, zI G 15)] ++ [(a2, zI G 26624)])) rfl ?_
  refine U_aload_n X dX6_init_29 rfl ?_
  refine U_sipush X (nI 26624) dX6_init_30 (by decide) ?_
  refine U_newI X hA (by decide) (by rw [hR.1]; decide) (by rw [hR.1]; decide) dX6_init_33 (fun a3 => ?_)
  refine U_ws (ws' := (h0, .inr (6, [.int 0, .ref a0, .ref a1, .ref a2, .null, .int 0, .null, .null, .null])) :: ([(a0, zI G 75)] ++ [(a1, zI G 15)] ++ [(a2, zI G 26624)] ++ [(a3, zI G 26624)])) rfl ?_
  refine U_putF X hM ffX6_19 (Nat.le_of_ble_eq_true rfl) dX6_init_35 ?_
  refine U_ws (ws' := (h0, .inr (6, [.int 0, .ref a0, .ref a1, .ref a2, .ref a3, .int 0, .null, .null, .null])) :: ([(a0, zI G 75)] ++ [(a1, zI G 15)] ++ [(a2, zI G 26624)] ++ [(a3, zI G 26624)])) rfl ?_
  refine U_aload_n X dX6_init_38 rfl ?_
  refine U_bipush X (nI 36) dX6_init_39 (by decide) ?_
  refine U_newI X hA (by decide) (by rw [hR.1]; decide) (by rw [hR.1]; decide) dX6_init_41 (fun a4 => ?_)
  refine U_ws (ws' := (h0, .inr (6, [.int 0, .ref a0, .ref a1, .ref a2, .ref a3, .int 0, .null, .null, .null])) :: ([(a0, zI G 75)] ++ [(a1, zI G 15)] ++ [(a2, zI G 26624)] ++ [(a3, zI G 26624)] ++ [(a4, zI G 36)])) rfl ?_
  refine U_putF X hM ffX6_22 (Nat.le_of_ble_eq_true rfl) dX6_init_43 ?_
  refine U_ws (ws' := (h0, .inr (6, [.int 0, .ref a0, .ref a1, .ref a2, .ref a3, .int 0, .ref a4, .null, .null])) :: ([(a0, zI G 75)] ++ [(a1, zI G 15)] ++ [(a2, zI G 26624)] ++ [(a3, zI G 26624)] ++ [(a4, zI G 36)])) rfl ?_
  refine U_aload_n X dX6_init_46 rfl ?_
  refine U_bipush X (nI 15) dX6_init_47 (by decide) ?_
  refine U_newI X hA (by decide) (by rw [hR.1]; decide) (by rw [hR.1]; decide) dX6_init_49 (fun a5 => ?_)
  refine U_ws (ws' := (h0, .inr (6, [.int 0, .ref a0, .ref a1, .ref a2, .ref a3, .int 0, .ref a4, .null, .null])) :: ([(a0, zI G 75)] ++ [(a1, zI G 15)] ++ [(a2, zI G 26624)] ++ [(a3, zI G 26624)] ++ [(a4, zI G 36)] ++ [(a5, zI G 15)])) rfl ?_
  refine U_putF X hM ffX6_25 (Nat.le_of_ble_eq_true rfl) dX6_init_51 ?_
  refine U_ws (ws' := (h0, .inr (6, [.int 0, .ref a0, .ref a1, .ref a2, .ref a3, .int 0, .ref a4, .ref a5, .null])) :: ([(a0, zI G 75)] ++ [(a1, zI G 15)] ++ [(a2, zI G 26624)] ++ [(a3, zI G 26624)] ++ [(a4, zI G 36)] ++ [(a5, zI G 15)])) rfl ?_
  refine U_aload_n X dX6_init_54 rfl ?_
  refine U_bipush X (nI 15) dX6_init_55 (by decide) ?_
  refine U_newI X hA (by decide) (by rw [hR.1]; decide) (by rw [hR.1]; decide) dX6_init_57 (fun a6 => ?_)
  refine U_ws (ws' := (h0, .inr (6, [.int 0, .ref a0, .ref a1, .ref a2, .ref a3, .int 0, .ref a4, .ref a5, .null])) :: ([(a0, zI G 75)] ++ [(a1, zI G 15)] ++ [(a2, zI G 26624)] ++ [(a3, zI G 26624)] ++ [(a4, zI G 36)] ++ [(a5, zI G 15)] ++ [(a6, zI G 15)])) rfl ?_
  refine U_putF X hM ffX6_28 (Nat.le_of_ble_eq_true rfl) dX6_init_59 ?_
  refine U_ws (ws' := (h0, .inr (6, [.int 0, .ref a0, .ref a1, .ref a2, .ref a3, .int 0, .ref a4, .ref a5, .ref a6])) :: ([(a0, zI G 75)] ++ [(a1, zI G 15)] ++ [(a2, zI G 26624)] ++ [(a3, zI G 26624)] ++ [(a4, zI G 36)] ++ [(a5, zI G 15)] ++ [(a6, zI G 15)])) rfl ?_
  refine U_kn (k2 := 7) (n2 := 53404) rfl rfl ?_
  exact U_ret X E dX6_init_62 ⟨a0, a1, a2, a3, a4, a5, a6, rfl⟩
