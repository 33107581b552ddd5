theorem mw_X0_rentOfADay_0 : Cond.fieldLink RX0 12 "TypeFoundry$Printer" "tray" "LTypeFoundry$Sorts;" ∈ wsX0_rentOfADay := by decide +kernel
theorem mw_X0_rentOfADay_1 : ∀ w ∈ wsX00, w ∈ wsX0_rentOfADay := by decide +kernel
theorem mw_X0_rentOfADay_2 : Cond.fieldLink RX0 18 "TypeFoundry$Printer" "form" "LTypeFoundry$Sorts;" ∈ wsX0_rentOfADay := by decide +kernel
abbrev wp_X0_rentOfADay (Z : zT) (a0 a1 a2 a3 a4 : Nat) (f g : Nat → Int32) (c0 c1 c2 c3 : Int32) : Unit → va_W := fun (u : Unit) => [(a0, .inr (0, [.ref a1, .ref a3, .int c0, .int c1, .int c2, .int c3])), (a1, .inr (2, [.ref a2])), (a2, zI Z 290 f), (a3, .inr (2, [.ref a4])), (a4, zI Z 290 g)]
abbrev po_X0_rentOfADay (Z : zT) (a0 a1 a2 a3 a4 : Nat) (f g : Nat → Int32) (c0 c1 c2 c3 : Int32) : Int32 → Unit → Prop := fun (r : Int32) (u : Unit) => r = (bx_sum f 290 + bx_sum g 290 + nI 10 - nI 1) / nI 10
abbrev rm_X0_rentOfADay : Room := { frames := 1, cells := 0, slots := 0, locals := 22 }
set_option maxHeartbeats 4000000 in
set_option maxRecDepth 100000 in
theorem c_X0_rentOfADay (l : Launch) (Z : zT) (a0 a1 a2 a3 a4 : Nat) (f g : Nat → Int32) (c0 c1 c2 c3 : Int32)  : zMet l yX0_rentOfADay wsX0_rentOfADay rm_X0_rentOfADay [.ref a0] Z [(a0, .inr (0, [.ref a1, .ref a3, .int c0, .int c1, .int c2, .int c3])), (a1, .inr (2, [.ref a2])), (a2, zI Z 290 f), (a3, .inr (2, [.ref a4])), (a4, zI Z 290 g)] (zQi Z (po_X0_rentOfADay Z a0 a1 a2 a3 a4 f g c0 c1 c2 c3) (wp_X0_rentOfADay Z a0 a1 a2 a3 a4 f g c0 c1 c2 c3)) 0 0 := by
  refine zstart (cc := cX0_rentOfADay) (maxL := 1) (ret := (some .int)) (by decide) rfl (Nat.le_of_ble_eq_true rfl) ?_
  intro p e s m below meth c ls A hx hb hr hC hlk hnm hX hW hl
  have hml := hC.2.2.1
  have hown : s.vm.findClass RX0 = some m.cls := hC.2.2.2.1
  have hts := hC.2.2.2.2
  have hl : lv_has ls 1 [(0, .ref a0)] := hl
  refine lv_aload_n hx hb dX0_rentOfADay_0 rfl (lv_at hl 0 rfl) ?_
  refine z_get (C := RX0) (T := TX0) (N := 6) hx hb hts mw_X0_rentOfADay_1 hown hX hW 0 rfl rfl 0 (by decide) mw_X0_rentOfADay_0 (fun _ h9 => h9) rfl dX0_rentOfADay_1 ?_
  refine zc_i (va_runV (As := []) (rest := []) hC (c_X2_inAll l Z a1 a2 f  _) (cwV 0 hts gX0_rentOfADay_X2_inAll rfl rfl rfl (by decide +kernel) ⟨Nat.le_of_ble_eq_true rfl, Nat.le_of_ble_eq_true rfl⟩) (zpreV (ci := 2) (q0 := 1) hX hW rfl rfl [1, 2] rfl (by decide)) rfl rfl hl.1 rfl (lv_room (Nat.le_of_ble_eq_true rfl)) dX0_rentOfADay_4 ⟨Nat.le_of_ble_eq_true rfl, Nat.le_of_ble_eq_true rfl⟩) hX hW [1, 2] rfl (by decide) (fun _ => rfl) (fun r_4 u_4 H locs h_4 hW => ?_)
  have hW : zW Z s A [(a0, .inr (0, [.ref a1, .ref a3, .int c0, .int c1, .int c2, .int c3])), (a1, .inr (2, [.ref a2])), (a2, zI Z 290 f), (a3, .inr (2, [.ref a4])), (a4, zI Z 290 g)] _ _ := hW
  subst h_4
  refine lv_aload_n hx hb dX0_rentOfADay_7 rfl (lv_at hl 0 rfl) ?_
  refine z_get (C := RX0) (T := TX0) (N := 6) hx hb hts mw_X0_rentOfADay_1 hown hX hW 0 rfl rfl 1 (by decide) mw_X0_rentOfADay_2 (fun _ h9 => h9) rfl dX0_rentOfADay_8 ?_
  refine zc_i (va_runV (As := []) (rest := [.int (bx_sum f 290)]) hC (c_X2_inAll l Z a3 a4 g  _) (cwV 0 hts gX0_rentOfADay_X2_inAll rfl rfl rfl (by decide +kernel) ⟨Nat.le_of_ble_eq_true rfl, Nat.le_of_ble_eq_true rfl⟩) (zpreV (ci := 2) (q0 := 3) hX hW rfl rfl [3, 4] rfl (by decide)) rfl rfl hl.1 rfl (lv_room (Nat.le_of_ble_eq_true rfl)) dX0_rentOfADay_11 ⟨Nat.le_of_ble_eq_true rfl, Nat.le_of_ble_eq_true rfl⟩) hX hW [3, 4] rfl (by decide) (fun _ => rfl) (fun r_11 u_11 H locs h_11 hW => ?_)
  have hW : zW Z s A [(a0, .inr (0, [.ref a1, .ref a3, .int c0, .int c1, .int c2, .int c3])), (a1, .inr (2, [.ref a2])), (a2, zI Z 290 f), (a3, .inr (2, [.ref a4])), (a4, zI Z 290 g)] _ _ := hW
  subst h_11
  refine lv_iadd hx hb dX0_rentOfADay_14 ?_
  refine lv_bipush (v := nI 10) hx hb dX0_rentOfADay_15 (by decide) ?_
  refine lv_iadd hx hb dX0_rentOfADay_17 ?_
  refine lv_iconst (v := nI 1) hx hb dX0_rentOfADay_18 (by decide) ?_
  refine lv_isub hx hb dX0_rentOfADay_19 ?_
  refine lv_bipush (v := nI 10) hx hb dX0_rentOfADay_20 (by decide) ?_
  refine lv_idiv hx hb dX0_rentOfADay_22 (by decide) ?_
  exact z_iret hx hb hr hlk hW () (rfl) (rfl) (by omega) (by omega) dX0_rentOfADay_23
