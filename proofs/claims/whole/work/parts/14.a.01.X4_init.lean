theorem mw_X4_init_0 : Cond.methodLink RX4 1 objectInit ∈ wsX4_init := by decide +kernel
theorem mw_X4_init_1 : Cond.instanceMethod objectInit ∈ wsX4_init := by decide +kernel
theorem mw_X4_init_2 : Cond.code objectInit ⟨#[0xb1]⟩ 1 none ∈ wsX4_init := by decide +kernel
theorem mw_X4_init_3 : ∀ w ∈ wsX20, w ∈ wsX4_init := by decide +kernel
theorem mw_X4_init_4 : Cond.classLink RX4 7 RX2 ∈ wsX4_init := by decide +kernel
theorem mw_X4_init_5 : Cond.instantiable RX2 1 ∈ wsX4_init := by decide +kernel
theorem mw_X4_init_6 : Cond.initialized RX2 ∈ wsX4_init := by decide +kernel
theorem mw_X4_init_7 : Cond.instanceMethod yX2_init ∈ wsX4_init := by decide +kernel
theorem mw_X4_init_8 : Cond.fieldLink RX4 10 "TypeFoundry" "stock" "LTypeFoundry$Sorts;" ∈ wsX4_init := by decide +kernel
theorem mw_X4_init_9 : ∀ w ∈ wsX40, w ∈ wsX4_init := by decide +kernel
theorem mw_X4_init_10 : Cond.classLink RX4 16 RX0 ∈ wsX4_init := by decide +kernel
theorem mw_X4_init_11 : Cond.fieldLink RX4 18 "TypeFoundry" "printers" "[LTypeFoundry$Printer;" ∈ wsX4_init := by decide +kernel
theorem mw_X4_init_12 : Cond.fieldLink RX4 22 "TypeFoundry" "metal" "I" ∈ wsX4_init := by decide +kernel
theorem mw_X4_init_13 : ∀ w ∈ wsX30, w ∈ wsX4_init := by decide +kernel
theorem mw_X4_init_14 : Cond.classLink RX4 26 RX3 ∈ wsX4_init := by decide +kernel
theorem mw_X4_init_15 : Cond.instantiable RX3 2 ∈ wsX4_init := by decide +kernel
theorem mw_X4_init_16 : Cond.initialized RX3 ∈ wsX4_init := by decide +kernel
theorem mw_X4_init_17 : Cond.instanceMethod yX3_init ∈ wsX4_init := by decide +kernel
theorem mw_X4_init_18 : Cond.fieldLink RX4 29 "TypeFoundry" "spelled" "LTypeFoundry$Word;" ∈ wsX4_init := by decide +kernel
theorem mw_X4_init_19 : ∀ w ∈ wsX10, w ∈ wsX4_init := by decide +kernel
theorem mw_X4_init_20 : Cond.classLink RX4 33 RX1 ∈ wsX4_init := by decide +kernel
theorem mw_X4_init_21 : Cond.instantiable RX1 2 ∈ wsX4_init := by decide +kernel
theorem mw_X4_init_22 : Cond.initialized RX1 ∈ wsX4_init := by decide +kernel
theorem mw_X4_init_23 : Cond.instanceMethod yX1_init ∈ wsX4_init := by decide +kernel
theorem mw_X4_init_24 : Cond.fieldLink RX4 36 "TypeFoundry" "setting" "LTypeFoundry$Setting;" ∈ wsX4_init := by decide +kernel
abbrev wp_X4_init (Z : zT) (x : Nat) : Nat × Nat × Nat × Nat × Nat × Nat × Nat × Nat → va_W := fun (u : Nat × Nat × Nat × Nat × Nat × Nat × Nat × Nat) => match u with | (st, sb, pa, sp, spb, se, sl, sk) => [(x, .inr (4, [.ref st, .ref pa, .int 0, .int 0, .int (nI 500), .int 0, .int 0, .int 0, .int 0, .ref sp, .ref se])), (st, .inr (2, [.ref sb])), (sb, zI Z 290 (fun _ => 0)), (pa, zQ Z 6 (fun _ => none)), (sp, .inr (3, [.ref spb, .int (nI 6)])), (spb, zI Z 6 (fun _ => 0)), (se, .inr (1, [.ref sl, .ref sk])), (sl, zI Z 29 (fun _ => 0)), (sk, zI Z 29 (fun _ => 0))]
abbrev po_X4_init (Z : zT) (x : Nat) : Nat × Nat × Nat × Nat × Nat × Nat × Nat × Nat → Prop := fun (u : Nat × Nat × Nat × Nat × Nat × Nat × Nat × Nat) => match u with | (st, sb, pa, sp, spb, se, sl, sk) => True
abbrev rm_X4_init : Room := { frames := 2, cells := 8, slots := 368, locals := 32 }
set_option maxHeartbeats 4000000 in
set_option maxRecDepth 100000 in
theorem c_X4_init (l : Launch) (Z : zT) (x : Nat)  : zMet l yX4_init wsX4_init rm_X4_init [.ref x] Z [(x, .inr (4, [.null, .null, .int 0, .int 0, .int 0, .int 0, .int 0, .int 0, .int 0, .null, .null]))] (zQv Z (po_X4_init Z x) (wp_X4_init Z x)) 8 368 := by
  refine zstart (cc := cX4_init) (maxL := 1) (ret := none) (by decide) rfl (Nat.le_of_ble_eq_true rfl) ?_
  intro p e s m below meth c ls A hx hb hr hC hlk hnm hX hW hl
  have hml := hC.2.2.1
  have hown : s.vm.findClass RX4 = some m.cls := hC.2.2.2.1
  have hts := hC.2.2.2.2
  have hl : lv_has ls 1 [(0, .ref x)] := hl
  refine lv_aload_n hx hb dX4_init_0 rfl (lv_at hl 0 rfl) ?_
  refine W.objInit hx hb hown (hts _ mw_X4_init_0) (hts _ mw_X4_init_1) (hts _ mw_X4_init_2) rfl (by rw [hml]; exact hl.1) rfl dX4_init_1 (Nat.le_of_ble_eq_true rfl) (Nat.le_of_ble_eq_true rfl) ?_
  refine W.eq (g2 := F0 m 4 ls []) rfl ?_
  refine lv_aload_n hx hb dX4_init_4 rfl (lv_at hl 0 rfl) ?_
  refine z_new (ci := 2) (fs := [.null]) (C := RX2) (T := TX2) (N := 1) hx hb hts mw_X4_init_3 tyX2 tyX2_ok hown mw_X4_init_4 mw_X4_init_5 mw_X4_init_6 hX hW rfl (fun j hj => by rcases (show j = 0 by omega) with rfl <;> rfl) (Nat.le_of_ble_eq_true rfl) (Nat.le_of_ble_eq_true rfl) dX4_init_5 (fun qo_1 H hW => ?_)
  have hW : zW Z s A [(x, .inr (4, [.null, .null, .int 0, .int 0, .int 0, .int 0, .int 0, .int 0, .int 0, .null, .null])), (qo_1, .inr (2, [.null]))] _ _ := hW
  refine lv_dup hx hb dX4_init_8 rfl ?_
  refine zc_vN (va_runIN (As := []) (rest := [.ref qo_1, .ref x]) hC (c_X2_init l Z qo_1  _) ⟨va_cnB 0 hts gX4_init_X2_init_n9 rfl rfl rfl (hX.1.2.1 (Cond.methodLinkNest RX4 9 yX2_init RX4) (by decide +kernel)) (hts _ mw_X4_init_6) (by decide +kernel) ⟨Nat.le_of_ble_eq_true rfl, Nat.le_of_ble_eq_true rfl⟩, rfl, hts _ mw_X4_init_7⟩ (zpreS hX hW [1] rfl (by decide)) rfl rfl hl.1 rfl (lv_room (Nat.le_of_ble_eq_true rfl)) dX4_init_9 ⟨Nat.le_of_ble_eq_true rfl, Nat.le_of_ble_eq_true rfl⟩) hX hW [1] rfl (by decide) (wa := fun (u : Nat) => match u with | q => [(qo_1, .inr (2, [.ref q]))]) (wb := fun (u : Nat) => match u with | q => [(q, zI Z 290 (fun _ => 0))]) (fun _ => rfl) (fun _ => rfl) (fun u_9 H locs h_9 hW => ?_)
  obtain ⟨q_9, rfl⟩ : ∃ z, z = u_9 := ⟨_, rfl⟩
  have hW : zW Z s A [(x, .inr (4, [.null, .null, .int 0, .int 0, .int 0, .int 0, .int 0, .int 0, .int 0, .null, .null])), (qo_1, .inr (2, [.ref q_9])), (q_9, zI Z 290 (fun _ => 0))] _ _ := hW
  refine z_putF (C := RX4) (T := TX4) (N := 11) (v := .ref qo_1) (ty := .object "TypeFoundry$Sorts") hx hb hts mw_X4_init_9 tyX4 tyX4_ok nmX4 hown hX hW 0 rfl rfl 0 (by decide) mw_X4_init_8 (fun _ h9 => h9) rfl hnm rfl (by decide +kernel) rfl rfl (Nat.le_of_ble_eq_true rfl) dX4_init_12 (fun H locs hW => ?_)
  have hW : zW Z s A [(x, .inr (4, [.ref qo_1, .null, .int 0, .int 0, .int 0, .int 0, .int 0, .int 0, .int 0, .null, .null])), (qo_1, .inr (2, [.ref q_9])), (q_9, zI Z 290 (fun _ => 0))] _ _ := hW
  refine lv_aload_n hx hb dX4_init_15 rfl (lv_at hl 0 rfl) ?_
  refine lv_bipush (v := nI 6) hx hb dX4_init_16 (by decide) ?_
  refine z_newq (own := RX4) hx hb hts hown mw_X4_init_10 hX hW (n := 6) (by omega) (Nat.le_of_ble_eq_true rfl) (Nat.le_of_ble_eq_true rfl) dX4_init_18 (fun qa_2 H hW => ?_)
  have hW : zW Z s A [(x, .inr (4, [.ref qo_1, .null, .int 0, .int 0, .int 0, .int 0, .int 0, .int 0, .int 0, .null, .null])), (qo_1, .inr (2, [.ref q_9])), (q_9, zI Z 290 (fun _ => 0)), (qa_2, zQ Z 6 (fun _ => none))] _ _ := hW
  refine z_putF (C := RX4) (T := TX4) (N := 11) (v := .ref qa_2) (ty := .array (.object "TypeFoundry$Printer")) hx hb hts mw_X4_init_9 tyX4 tyX4_ok nmX4 hown hX hW 0 rfl rfl 1 (by decide) mw_X4_init_11 (fun _ h9 => h9) rfl hnm rfl (by decide +kernel) rfl rfl (Nat.le_of_ble_eq_true rfl) dX4_init_21 (fun H locs hW => ?_)
  have hW : zW Z s A [(x, .inr (4, [.ref qo_1, .ref qa_2, .int 0, .int 0, .int 0, .int 0, .int 0, .int 0, .int 0, .null, .null])), (qo_1, .inr (2, [.ref q_9])), (q_9, zI Z 290 (fun _ => 0)), (qa_2, zQ Z 6 (fun _ => none))] _ _ := hW
  refine lv_aload_n hx hb dX4_init_24 rfl (lv_at hl 0 rfl) ?_
  refine lv_sipush (v := nI 500) hx hb dX4_init_25 (by decide) ?_
  refine z_put (C := RX4) (T := TX4) (N := 11) (v := .int (nI 500)) (ty := .int) hx hb hts mw_X4_init_9 tyX4 tyX4_ok nmX4 hown hX hW 0 rfl rfl 4 (by decide) mw_X4_init_12 (fun _ h9 => h9) rfl (by decide +kernel) rfl rfl (Nat.le_of_ble_eq_true rfl) dX4_init_28 (fun H locs hW => ?_)
  have hW : zW Z s A [(x, .inr (4, [.ref qo_1, .ref qa_2, .int 0, .int 0, .int (nI 500), .int 0, .int 0, .int 0, .int 0, .null, .null])), (qo_1, .inr (2, [.ref q_9])), (q_9, zI Z 290 (fun _ => 0)), (qa_2, zQ Z 6 (fun _ => none))] _ _ := hW
  refine lv_aload_n hx hb dX4_init_31 rfl (lv_at hl 0 rfl) ?_
  refine z_new (ci := 3) (fs := [.null, .int 0]) (C := RX3) (T := TX3) (N := 2) hx hb hts mw_X4_init_13 tyX3 tyX3_ok hown mw_X4_init_14 mw_X4_init_15 mw_X4_init_16 hX hW rfl (fun j hj => by rcases (show j = 0 ∨ j = 1 by omega) with rfl | rfl <;> rfl) (Nat.le_of_ble_eq_true rfl) (Nat.le_of_ble_eq_true rfl) dX4_init_32 (fun qo_3 H hW => ?_)
  have hW : zW Z s A [(x, .inr (4, [.ref qo_1, .ref qa_2, .int 0, .int 0, .int (nI 500), .int 0, .int 0, .int 0, .int 0, .null, .null])), (qo_1, .inr (2, [.ref q_9])), (q_9, zI Z 290 (fun _ => 0)), (qa_2, zQ Z 6 (fun _ => none)), (qo_3, .inr (3, [.null, .int 0]))] _ _ := hW
  refine lv_dup hx hb dX4_init_35 rfl ?_
  refine zc_vN (va_runIN (As := []) (rest := [.ref qo_3, .ref x]) hC (c_X3_init l Z qo_3  _) ⟨va_cnB 0 hts gX4_init_X3_init_n28 rfl rfl rfl (hX.1.2.1 (Cond.methodLinkNest RX4 28 yX3_init RX4) (by decide +kernel)) (hts _ mw_X4_init_16) (by decide +kernel) ⟨Nat.le_of_ble_eq_true rfl, Nat.le_of_ble_eq_true rfl⟩, rfl, hts _ mw_X4_init_17⟩ (zpreS hX hW [4] rfl (by decide)) rfl rfl hl.1 rfl (lv_room (Nat.le_of_ble_eq_true rfl)) dX4_init_36 ⟨Nat.le_of_ble_eq_true rfl, Nat.le_of_ble_eq_true rfl⟩) hX hW [4] rfl (by decide) (wa := fun (u : Nat) => match u with | q => [(qo_3, .inr (3, [.ref q, .int (nI 6)]))]) (wb := fun (u : Nat) => match u with | q => [(q, zI Z 6 (fun _ => 0))]) (fun _ => rfl) (fun _ => rfl) (fun u_36 H locs h_36 hW => ?_)
  obtain ⟨q_36, rfl⟩ : ∃ z, z = u_36 := ⟨_, rfl⟩
  have hW : zW Z s A [(x, .inr (4, [.ref qo_1, .ref qa_2, .int 0, .int 0, .int (nI 500), .int 0, .int 0, .int 0, .int 0, .null, .null])), (qo_1, .inr (2, [.ref q_9])), (q_9, zI Z 290 (fun _ => 0)), (qa_2, zQ Z 6 (fun _ => none)), (qo_3, .inr (3, [.ref q_36, .int (nI 6)])), (q_36, zI Z 6 (fun _ => 0))] _ _ := hW
  refine z_putF (C := RX4) (T := TX4) (N := 11) (v := .ref qo_3) (ty := .object "TypeFoundry$Word") hx hb hts mw_X4_init_9 tyX4 tyX4_ok nmX4 hown hX hW 0 rfl rfl 9 (by decide) mw_X4_init_18 (fun _ h9 => h9) rfl hnm rfl (by decide +kernel) rfl rfl (Nat.le_of_ble_eq_true rfl) dX4_init_39 (fun H locs hW => ?_)
  have hW : zW Z s A [(x, .inr (4, [.ref qo_1, .ref qa_2, .int 0, .int 0, .int (nI 500), .int 0, .int 0, .int 0, .int 0, .ref qo_3, .null])), (qo_1, .inr (2, [.ref q_9])), (q_9, zI Z 290 (fun _ => 0)), (qa_2, zQ Z 6 (fun _ => none)), (qo_3, .inr (3, [.ref q_36, .int (nI 6)])), (q_36, zI Z 6 (fun _ => 0))] _ _ := hW
  refine lv_aload_n hx hb dX4_init_42 rfl (lv_at hl 0 rfl) ?_
  refine z_new (ci := 1) (fs := [.null, .null]) (C := RX1) (T := TX1) (N := 2) hx hb hts mw_X4_init_19 tyX1 tyX1_ok hown mw_X4_init_20 mw_X4_init_21 mw_X4_init_22 hX hW rfl (fun j hj => by rcases (show j = 0 ∨ j = 1 by omega) with rfl | rfl <;> rfl) (Nat.le_of_ble_eq_true rfl) (Nat.le_of_ble_eq_true rfl) dX4_init_43 (fun qo_4 H hW => ?_)
  have hW : zW Z s A [(x, .inr (4, [.ref qo_1, .ref qa_2, .int 0, .int 0, .int (nI 500), .int 0, .int 0, .int 0, .int 0, .ref qo_3, .null])), (qo_1, .inr (2, [.ref q_9])), (q_9, zI Z 290 (fun _ => 0)), (qa_2, zQ Z 6 (fun _ => none)), (qo_3, .inr (3, [.ref q_36, .int (nI 6)])), (q_36, zI Z 6 (fun _ => 0)), (qo_4, .inr (1, [.null, .null]))] _ _ := hW
  refine lv_dup hx hb dX4_init_46 rfl ?_
  refine zc_vN (va_runIN (As := []) (rest := [.ref qo_4, .ref x]) hC (c_X1_init l Z qo_4  _) ⟨va_cnB 0 hts gX4_init_X1_init_n35 rfl rfl rfl (hX.1.2.1 (Cond.methodLinkNest RX4 35 yX1_init RX4) (by decide +kernel)) (hts _ mw_X4_init_22) (by decide +kernel) ⟨Nat.le_of_ble_eq_true rfl, Nat.le_of_ble_eq_true rfl⟩, rfl, hts _ mw_X4_init_23⟩ (zpreS hX hW [6] rfl (by decide)) rfl rfl hl.1 rfl (lv_room (Nat.le_of_ble_eq_true rfl)) dX4_init_47 ⟨Nat.le_of_ble_eq_true rfl, Nat.le_of_ble_eq_true rfl⟩) hX hW [6] rfl (by decide) (wa := fun (u : Nat × Nat) => match u with | (q1, q2) => [(qo_4, .inr (1, [.ref q1, .ref q2]))]) (wb := fun (u : Nat × Nat) => match u with | (q1, q2) => [(q1, zI Z 29 (fun _ => 0)), (q2, zI Z 29 (fun _ => 0))]) (fun _ => rfl) (fun _ => rfl) (fun u_47 H locs h_47 hW => ?_)
  obtain ⟨q1_47, q2_47⟩ := u_47
  have hW : zW Z s A [(x, .inr (4, [.ref qo_1, .ref qa_2, .int 0, .int 0, .int (nI 500), .int 0, .int 0, .int 0, .int 0, .ref qo_3, .null])), (qo_1, .inr (2, [.ref q_9])), (q_9, zI Z 290 (fun _ => 0)), (qa_2, zQ Z 6 (fun _ => none)), (qo_3, .inr (3, [.ref q_36, .int (nI 6)])), (q_36, zI Z 6 (fun _ => 0)), (qo_4, .inr (1, [.ref q1_47, .ref q2_47])), (q1_47, zI Z 29 (fun _ => 0)), (q2_47, zI Z 29 (fun _ => 0))] _ _ := hW
  refine z_putF (C := RX4) (T := TX4) (N := 11) (v := .ref qo_4) (ty := .object "TypeFoundry$Setting") hx hb hts mw_X4_init_9 tyX4 tyX4_ok nmX4 hown hX hW 0 rfl rfl 10 (by decide) mw_X4_init_24 (fun _ h9 => h9) rfl hnm rfl (by decide +kernel) rfl rfl (Nat.le_of_ble_eq_true rfl) dX4_init_50 (fun H locs hW => ?_)
  have hW : zW Z s A [(x, .inr (4, [.ref qo_1, .ref qa_2, .int 0, .int 0, .int (nI 500), .int 0, .int 0, .int 0, .int 0, .ref qo_3, .ref qo_4])), (qo_1, .inr (2, [.ref q_9])), (q_9, zI Z 290 (fun _ => 0)), (qa_2, zQ Z 6 (fun _ => none)), (qo_3, .inr (3, [.ref q_36, .int (nI 6)])), (q_36, zI Z 6 (fun _ => 0)), (qo_4, .inr (1, [.ref q1_47, .ref q2_47])), (q1_47, zI Z 29 (fun _ => 0)), (q2_47, zI Z 29 (fun _ => 0))] _ _ := hW
  exact z_vret hx hb hr hlk hW (qo_1, q_9, qa_2, qo_3, q_36, qo_4, q1_47, q2_47) (trivial) (rfl) (by omega) (by omega) dX4_init_53
