theorem mw_X0_init_0 : Cond.methodLink RX0 3 objectInit ∈ wsX0_init := by decide +kernel
theorem mw_X0_init_1 : Cond.instanceMethod objectInit ∈ wsX0_init := by decide +kernel
theorem mw_X0_init_2 : Cond.code objectInit ⟨#[0xb1]⟩ 1 none ∈ wsX0_init := by decide +kernel
theorem mw_X0_init_3 : ∀ w ∈ wsX20, w ∈ wsX0_init := by decide +kernel
theorem mw_X0_init_4 : Cond.classLink RX0 9 RX2 ∈ wsX0_init := by decide +kernel
theorem mw_X0_init_5 : Cond.instantiable RX2 1 ∈ wsX0_init := by decide +kernel
theorem mw_X0_init_6 : Cond.initialized RX2 ∈ wsX0_init := by decide +kernel
theorem mw_X0_init_7 : Cond.instanceMethod yX2_init ∈ wsX0_init := by decide +kernel
theorem mw_X0_init_8 : Cond.fieldLink RX0 12 "TypeFoundry$Printer" "tray" "LTypeFoundry$Sorts;" ∈ wsX0_init := by decide +kernel
theorem mw_X0_init_9 : ∀ w ∈ wsX00, w ∈ wsX0_init := by decide +kernel
theorem mw_X0_init_10 : Cond.fieldLink RX0 18 "TypeFoundry$Printer" "form" "LTypeFoundry$Sorts;" ∈ wsX0_init := by decide +kernel
theorem mw_X0_init_11 : Cond.fieldLink RX0 21 "TypeFoundry$Printer" "coins" "I" ∈ wsX0_init := by decide +kernel
abbrev wp_X0_init (Z : zT) (a0 : Nat) (c0 : Int32) : Nat × Nat × Nat × Nat → va_W := fun (u : Nat × Nat × Nat × Nat) => match u with | (q1, q2, q3, q5) => [(a0, .inr (0, [.ref q1, .ref q3, .int c0, .int 0, .int 0, .int 0])), (q1, .inr (2, [.ref q2])), (q2, zI Z 290 (fun _ => 0)), (q3, .inr (2, [.ref q5])), (q5, zI Z 290 (fun _ => 0))]
abbrev po_X0_init (Z : zT) (a0 : Nat) (c0 : Int32) : Nat × Nat × Nat × Nat → Prop := fun (u : Nat × Nat × Nat × Nat) => match u with | (q1, q2, q3, q5) => True
abbrev rm_X0_init : Room := { frames := 2, cells := 4, slots := 582, locals := 32 }
set_option maxHeartbeats 4000000 in
set_option maxRecDepth 100000 in
theorem c_X0_init (l : Launch) (Z : zT) (a0 : Nat) (c0 : Int32)  : zMet l yX0_init wsX0_init rm_X0_init [.ref a0, .int c0] Z [(a0, .inr (0, [.null, .null, .int 0, .int 0, .int 0, .int 0]))] (zQv Z (po_X0_init Z a0 c0) (wp_X0_init Z a0 c0)) 4 582 := by
  refine zstart (cc := cX0_init) (maxL := 2) (ret := none) (by decide) rfl (Nat.le_of_ble_eq_true rfl) ?_
  intro p e s m below meth c ls A hx hb hr hC hlk hnm hX hW hl
  have hml := hC.2.2.1
  have hown : s.vm.findClass RX0 = some m.cls := hC.2.2.2.1
  have hts := hC.2.2.2.2
  have hl : lv_has ls 2 [(0, .ref a0), (1, .int c0)] := hl
  refine lv_aload_n hx hb dX0_init_0 rfl (lv_at hl 0 rfl) ?_
  refine W.objInit hx hb hown (hts _ mw_X0_init_0) (hts _ mw_X0_init_1) (hts _ mw_X0_init_2) rfl (by rw [hml]; exact hl.1) rfl dX0_init_1 (Nat.le_of_ble_eq_true rfl) (Nat.le_of_ble_eq_true rfl) ?_
  refine W.eq (g2 := F0 m 4 ls []) rfl ?_
  refine lv_aload_n hx hb dX0_init_4 rfl (lv_at hl 0 rfl) ?_
  refine z_new (ci := 2) (fs := [.null]) (C := RX2) (T := TX2) (N := 1) hx hb hts mw_X0_init_3 tyX2 tyX2_ok hown mw_X0_init_4 mw_X0_init_5 mw_X0_init_6 hX hW rfl (fun j hj => by rcases (show j = 0 by omega) with rfl <;> rfl) (Nat.le_of_ble_eq_true rfl) (Nat.le_of_ble_eq_true rfl) dX0_init_5 (fun qo_1 H hW => ?_)
  have hW : zW Z s A [(a0, .inr (0, [.null, .null, .int 0, .int 0, .int 0, .int 0])), (qo_1, .inr (2, [.null]))] _ _ := hW
  refine lv_dup hx hb dX0_init_8 rfl ?_
  refine zc_vN (va_runIN (As := []) (rest := [.ref qo_1, .ref a0]) hC (c_X2_init l Z qo_1  _) ⟨va_cnB 0 hts gX0_init_X2_init_n11 rfl rfl rfl (hX.1.2.1 (Cond.methodLinkNest RX0 11 yX2_init RX4) (by decide +kernel)) (hts _ mw_X0_init_6) (by decide +kernel) ⟨Nat.le_of_ble_eq_true rfl, Nat.le_of_ble_eq_true rfl⟩, rfl, hts _ mw_X0_init_7⟩ (zpreS hX hW [1] rfl (by decide)) rfl rfl hl.1 rfl (lv_room (Nat.le_of_ble_eq_true rfl)) dX0_init_9 ⟨Nat.le_of_ble_eq_true rfl, Nat.le_of_ble_eq_true rfl⟩) hX hW [1] rfl (by decide) (wa := fun (u : Nat) => match u with | q => [(qo_1, .inr (2, [.ref q]))]) (wb := fun (u : Nat) => match u with | q => [(q, zI Z 290 (fun _ => 0))]) (fun _ => rfl) (fun _ => rfl) (fun u_9 H locs h_9 hW => ?_)
  obtain ⟨q_9, rfl⟩ : ∃ z, z = u_9 := ⟨_, rfl⟩
  have hW : zW Z s A [(a0, .inr (0, [.null, .null, .int 0, .int 0, .int 0, .int 0])), (qo_1, .inr (2, [.ref q_9])), (q_9, zI Z 290 (fun _ => 0))] _ _ := hW
  refine z_putF (C := RX0) (T := TX0) (N := 6) (v := .ref qo_1) (ty := .object "TypeFoundry$Sorts") hx hb hts mw_X0_init_9 tyX0 tyX0_ok nmX0 hown hX hW 0 rfl rfl 0 (by decide) mw_X0_init_8 (fun _ h9 => h9) rfl hnm rfl (by decide +kernel) rfl rfl (Nat.le_of_ble_eq_true rfl) dX0_init_12 (fun H locs hW => ?_)
  have hW : zW Z s A [(a0, .inr (0, [.ref qo_1, .null, .int 0, .int 0, .int 0, .int 0])), (qo_1, .inr (2, [.ref q_9])), (q_9, zI Z 290 (fun _ => 0))] _ _ := hW
  refine lv_aload_n hx hb dX0_init_15 rfl (lv_at hl 0 rfl) ?_
  refine z_new (ci := 2) (fs := [.null]) (C := RX2) (T := TX2) (N := 1) hx hb hts mw_X0_init_3 tyX2 tyX2_ok hown mw_X0_init_4 mw_X0_init_5 mw_X0_init_6 hX hW rfl (fun j hj => by rcases (show j = 0 by omega) with rfl <;> rfl) (Nat.le_of_ble_eq_true rfl) (Nat.le_of_ble_eq_true rfl) dX0_init_16 (fun qo_2 H hW => ?_)
  have hW : zW Z s A [(a0, .inr (0, [.ref qo_1, .null, .int 0, .int 0, .int 0, .int 0])), (qo_1, .inr (2, [.ref q_9])), (q_9, zI Z 290 (fun _ => 0)), (qo_2, .inr (2, [.null]))] _ _ := hW
  refine lv_dup hx hb dX0_init_19 rfl ?_
  refine zc_vN (va_runIN (As := []) (rest := [.ref qo_2, .ref a0]) hC (c_X2_init l Z qo_2  _) ⟨va_cnB 0 hts gX0_init_X2_init_n11 rfl rfl rfl (hX.1.2.1 (Cond.methodLinkNest RX0 11 yX2_init RX4) (by decide +kernel)) (hts _ mw_X0_init_6) (by decide +kernel) ⟨Nat.le_of_ble_eq_true rfl, Nat.le_of_ble_eq_true rfl⟩, rfl, hts _ mw_X0_init_7⟩ (zpreS hX hW [3] rfl (by decide)) rfl rfl hl.1 rfl (lv_room (Nat.le_of_ble_eq_true rfl)) dX0_init_20 ⟨Nat.le_of_ble_eq_true rfl, Nat.le_of_ble_eq_true rfl⟩) hX hW [3] rfl (by decide) (wa := fun (u : Nat) => match u with | q => [(qo_2, .inr (2, [.ref q]))]) (wb := fun (u : Nat) => match u with | q => [(q, zI Z 290 (fun _ => 0))]) (fun _ => rfl) (fun _ => rfl) (fun u_20 H locs h_20 hW => ?_)
  obtain ⟨q_20, rfl⟩ : ∃ z, z = u_20 := ⟨_, rfl⟩
  have hW : zW Z s A [(a0, .inr (0, [.ref qo_1, .null, .int 0, .int 0, .int 0, .int 0])), (qo_1, .inr (2, [.ref q_9])), (q_9, zI Z 290 (fun _ => 0)), (qo_2, .inr (2, [.ref q_20])), (q_20, zI Z 290 (fun _ => 0))] _ _ := hW
  refine z_putF (C := RX0) (T := TX0) (N := 6) (v := .ref qo_2) (ty := .object "TypeFoundry$Sorts") hx hb hts mw_X0_init_9 tyX0 tyX0_ok nmX0 hown hX hW 0 rfl rfl 1 (by decide) mw_X0_init_10 (fun _ h9 => h9) rfl hnm rfl (by decide +kernel) rfl rfl (Nat.le_of_ble_eq_true rfl) dX0_init_23 (fun H locs hW => ?_)
  have hW : zW Z s A [(a0, .inr (0, [.ref qo_1, .ref qo_2, .int 0, .int 0, .int 0, .int 0])), (qo_1, .inr (2, [.ref q_9])), (q_9, zI Z 290 (fun _ => 0)), (qo_2, .inr (2, [.ref q_20])), (q_20, zI Z 290 (fun _ => 0))] _ _ := hW
  refine lv_aload_n hx hb dX0_init_26 rfl (lv_at hl 0 rfl) ?_
  refine lv_iload_n hx hb dX0_init_27 rfl (lv_at hl 1 rfl) ?_
  refine z_put (C := RX0) (T := TX0) (N := 6) (v := .int c0) (ty := .int) hx hb hts mw_X0_init_9 tyX0 tyX0_ok nmX0 hown hX hW 0 rfl rfl 2 (by decide) mw_X0_init_11 (fun _ h9 => h9) rfl (by decide +kernel) rfl rfl (Nat.le_of_ble_eq_true rfl) dX0_init_28 (fun H locs hW => ?_)
  have hW : zW Z s A [(a0, .inr (0, [.ref qo_1, .ref qo_2, .int c0, .int 0, .int 0, .int 0])), (qo_1, .inr (2, [.ref q_9])), (q_9, zI Z 290 (fun _ => 0)), (qo_2, .inr (2, [.ref q_20])), (q_20, zI Z 290 (fun _ => 0))] _ _ := hW
  exact z_vret hx hb hr hlk hW (qo_1, q_9, qo_2, q_20) (trivial) (rfl) (by omega) (by omega) dX0_init_31
