theorem mw_X0_number_0 : Cond.fieldLink RX0 21 "TypeFoundry$Printer" "coins" "I" ∈ wsX0_number := by decide +kernel
theorem mw_X0_number_1 : ∀ w ∈ wsX00, w ∈ wsX0_number := by decide +kernel
theorem mw_X0_number_2 : Cond.fieldLink RX0 29 "TypeFoundry$Printer" "owed" "I" ∈ wsX0_number := by decide +kernel
theorem mw_X0_number_3 : Cond.fieldLink RX0 12 "TypeFoundry$Printer" "tray" "LTypeFoundry$Sorts;" ∈ wsX0_number := by decide +kernel
theorem mw_X0_number_4 : Cond.fieldLink RX0 18 "TypeFoundry$Printer" "form" "LTypeFoundry$Sorts;" ∈ wsX0_number := by decide +kernel
theorem mw_X0_number_5 : Cond.fieldLink RX0 35 "TypeFoundry$Printer" "copies" "I" ∈ wsX0_number := by decide +kernel
theorem mw_X0_number_6 : Cond.fieldLink RX0 38 "TypeFoundry$Printer" "words" "I" ∈ wsX0_number := by decide +kernel
abbrev wp_X0_number (Z : zT) (a0 a1 a2 a3 a4 : Nat) (f g : Nat → Int32) (c0 c1 c2 c3 : Int32) (w : Nat) : Unit → va_W := fun (u : Unit) => [(a0, .inr (0, [.ref a1, .ref a3, .int c0, .int c1, .int c2, .int c3])), (a1, .inr (2, [.ref a2])), (a2, zI Z 290 f), (a3, .inr (2, [.ref a4])), (a4, zI Z 290 g)]
abbrev po_X0_number (Z : zT) (a0 a1 a2 a3 a4 : Nat) (f g : Nat → Int32) (c0 c1 c2 c3 : Int32) (w : Nat) : Int32 → Unit → Prop := fun (r : Int32) (u : Unit) => r = nmb f g (q4 c0 c1 c2 c3) w
abbrev rm_X0_number : Room := { frames := 1, cells := 0, slots := 0, locals := 22 }
set_option maxHeartbeats 4000000 in
set_option maxRecDepth 100000 in
theorem c_X0_number (l : Launch) (Z : zT) (a0 a1 a2 a3 a4 : Nat) (f g : Nat → Int32) (c0 c1 c2 c3 : Int32) (w : Nat) (hw : w < 7) : zMet l yX0_number wsX0_number rm_X0_number [.ref a0, .int (nI w)] Z [(a0, .inr (0, [.ref a1, .ref a3, .int c0, .int c1, .int c2, .int c3])), (a1, .inr (2, [.ref a2])), (a2, zI Z 290 f), (a3, .inr (2, [.ref a4])), (a4, zI Z 290 g)] (zQi Z (po_X0_number Z a0 a1 a2 a3 a4 f g c0 c1 c2 c3 w) (wp_X0_number Z a0 a1 a2 a3 a4 f g c0 c1 c2 c3 w)) 0 0 := by
  refine zstart (cc := cX0_number) (maxL := 2) (ret := (some .int)) (by decide) rfl (Nat.le_of_ble_eq_true rfl) ?_
  intro p e s m below meth c ls A hx hb hr hC hlk hnm hX hW hl
  have hml := hC.2.2.1
  have hown : s.vm.findClass RX0 = some m.cls := hC.2.2.2.1
  have hts := hC.2.2.2.2
  have hl : lv_has ls 2 [(0, .ref a0), (1, .int (nI w))] := hl
  rcases (show w = 0 ∨ w = 1 ∨ w = 2 ∨ w = 3 ∨ w = 4 ∨ w = 5 ∨ w = 6 by omega) with rfl | rfl | rfl | rfl | rfl | rfl | rfl
  · refine lv_iload_n hx hb dX0_number_0 rfl (lv_at hl 1 rfl) ?_
    refine lv_tableIn (tgt := 44) hx hb dX0_number_1 (by decide) (by decide) rfl (by decide) ?_
    refine lv_aload_n hx hb dX0_number_44 rfl (lv_at hl 0 rfl) ?_
    refine z_get (C := RX0) (T := TX0) (N := 6) hx hb hts mw_X0_number_1 hown hX hW 0 rfl rfl 2 (by decide) mw_X0_number_0 (fun _ h9 => h9) rfl dX0_number_45 ?_
    exact z_iret hx hb hr hlk hW () (rfl) (rfl) (by omega) (by omega) dX0_number_48
  · refine lv_iload_n hx hb dX0_number_0 rfl (lv_at hl 1 rfl) ?_
    refine lv_tableIn (tgt := 49) hx hb dX0_number_1 (by decide) (by decide) rfl (by decide) ?_
    refine lv_aload_n hx hb dX0_number_49 rfl (lv_at hl 0 rfl) ?_
    refine z_get (C := RX0) (T := TX0) (N := 6) hx hb hts mw_X0_number_1 hown hX hW 0 rfl rfl 3 (by decide) mw_X0_number_2 (fun _ h9 => h9) rfl dX0_number_50 ?_
    exact z_iret hx hb hr hlk hW () (rfl) (rfl) (by omega) (by omega) dX0_number_53
  · refine lv_iload_n hx hb dX0_number_0 rfl (lv_at hl 1 rfl) ?_
    refine lv_tableIn (tgt := 54) hx hb dX0_number_1 (by decide) (by decide) rfl (by decide) ?_
    refine lv_aload_n hx hb dX0_number_54 rfl (lv_at hl 0 rfl) ?_
    refine z_get (C := RX0) (T := TX0) (N := 6) hx hb hts mw_X0_number_1 hown hX hW 0 rfl rfl 0 (by decide) mw_X0_number_3 (fun _ h9 => h9) rfl dX0_number_55 ?_
    refine zc_i (va_runV (As := []) (rest := []) hC (c_X2_inAll l Z a1 a2 f  _) (cwV 0 hts gX0_number_X2_inAll rfl rfl rfl (by decide +kernel) ⟨Nat.le_of_ble_eq_true rfl, Nat.le_of_ble_eq_true rfl⟩) (zpreV (ci := 2) (q0 := 1) hX hW rfl rfl [1, 2] rfl (by decide)) rfl rfl hl.1 rfl (lv_room (Nat.le_of_ble_eq_true rfl)) dX0_number_58 ⟨Nat.le_of_ble_eq_true rfl, Nat.le_of_ble_eq_true rfl⟩) hX hW [1, 2] rfl (by decide) (fun _ => rfl) (fun r_58 u_58 H locs h_58 hW => ?_)
    have hW : zW Z s A [(a0, .inr (0, [.ref a1, .ref a3, .int c0, .int c1, .int c2, .int c3])), (a1, .inr (2, [.ref a2])), (a2, zI Z 290 f), (a3, .inr (2, [.ref a4])), (a4, zI Z 290 g)] _ _ := hW
    subst h_58
    exact z_iret hx hb hr hlk hW () (rfl) (rfl) (by omega) (by omega) dX0_number_61
  · refine lv_iload_n hx hb dX0_number_0 rfl (lv_at hl 1 rfl) ?_
    refine lv_tableIn (tgt := 62) hx hb dX0_number_1 (by decide) (by decide) rfl (by decide) ?_
    refine lv_aload_n hx hb dX0_number_62 rfl (lv_at hl 0 rfl) ?_
    refine z_get (C := RX0) (T := TX0) (N := 6) hx hb hts mw_X0_number_1 hown hX hW 0 rfl rfl 1 (by decide) mw_X0_number_4 (fun _ h9 => h9) rfl dX0_number_63 ?_
    refine zc_i (va_runV (As := []) (rest := []) hC (c_X2_inAll l Z a3 a4 g  _) (cwV 0 hts gX0_number_X2_inAll rfl rfl rfl (by decide +kernel) ⟨Nat.le_of_ble_eq_true rfl, Nat.le_of_ble_eq_true rfl⟩) (zpreV (ci := 2) (q0 := 3) hX hW rfl rfl [3, 4] rfl (by decide)) rfl rfl hl.1 rfl (lv_room (Nat.le_of_ble_eq_true rfl)) dX0_number_66 ⟨Nat.le_of_ble_eq_true rfl, Nat.le_of_ble_eq_true rfl⟩) hX hW [3, 4] rfl (by decide) (fun _ => rfl) (fun r_66 u_66 H locs h_66 hW => ?_)
    have hW : zW Z s A [(a0, .inr (0, [.ref a1, .ref a3, .int c0, .int c1, .int c2, .int c3])), (a1, .inr (2, [.ref a2])), (a2, zI Z 290 f), (a3, .inr (2, [.ref a4])), (a4, zI Z 290 g)] _ _ := hW
    subst h_66
    exact z_iret hx hb hr hlk hW () (rfl) (rfl) (by omega) (by omega) dX0_number_69
  · refine lv_iload_n hx hb dX0_number_0 rfl (lv_at hl 1 rfl) ?_
    refine lv_tableIn (tgt := 70) hx hb dX0_number_1 (by decide) (by decide) rfl (by decide) ?_
    refine lv_aload_n hx hb dX0_number_70 rfl (lv_at hl 0 rfl) ?_
    refine z_get (C := RX0) (T := TX0) (N := 6) hx hb hts mw_X0_number_1 hown hX hW 0 rfl rfl 1 (by decide) mw_X0_number_4 (fun _ h9 => h9) rfl dX0_number_71 ?_
    refine zc_i (va_runV (As := []) (rest := []) hC (c_X2_wearInAll l Z a3 a4 g  _) (cwV 0 hts gX0_number_X2_wearInAll rfl rfl rfl (by decide +kernel) ⟨Nat.le_of_ble_eq_true rfl, Nat.le_of_ble_eq_true rfl⟩) (zpreV (ci := 2) (q0 := 3) hX hW rfl rfl [3, 4] rfl (by decide)) rfl rfl hl.1 rfl (lv_room (Nat.le_of_ble_eq_true rfl)) dX0_number_74 ⟨Nat.le_of_ble_eq_true rfl, Nat.le_of_ble_eq_true rfl⟩) hX hW [3, 4] rfl (by decide) (fun _ => rfl) (fun r_74 u_74 H locs h_74 hW => ?_)
    have hW : zW Z s A [(a0, .inr (0, [.ref a1, .ref a3, .int c0, .int c1, .int c2, .int c3])), (a1, .inr (2, [.ref a2])), (a2, zI Z 290 f), (a3, .inr (2, [.ref a4])), (a4, zI Z 290 g)] _ _ := hW
    subst h_74
    exact z_iret hx hb hr hlk hW () (rfl) (rfl) (by omega) (by omega) dX0_number_77
  · refine lv_iload_n hx hb dX0_number_0 rfl (lv_at hl 1 rfl) ?_
    refine lv_tableIn (tgt := 78) hx hb dX0_number_1 (by decide) (by decide) rfl (by decide) ?_
    refine lv_aload_n hx hb dX0_number_78 rfl (lv_at hl 0 rfl) ?_
    refine z_get (C := RX0) (T := TX0) (N := 6) hx hb hts mw_X0_number_1 hown hX hW 0 rfl rfl 4 (by decide) mw_X0_number_5 (fun _ h9 => h9) rfl dX0_number_79 ?_
    exact z_iret hx hb hr hlk hW () (rfl) (rfl) (by omega) (by omega) dX0_number_82
  · refine lv_iload_n hx hb dX0_number_0 rfl (lv_at hl 1 rfl) ?_
    refine lv_tableIn (tgt := 83) hx hb dX0_number_1 (by decide) (by decide) rfl (by decide) ?_
    refine lv_aload_n hx hb dX0_number_83 rfl (lv_at hl 0 rfl) ?_
    refine z_get (C := RX0) (T := TX0) (N := 6) hx hb hts mw_X0_number_1 hown hX hW 0 rfl rfl 5 (by decide) mw_X0_number_6 (fun _ h9 => h9) rfl dX0_number_84 ?_
    exact z_iret hx hb hr hlk hW () (rfl) (rfl) (by omega) (by omega) dX0_number_87
