theorem mw_X5_init_0 : Cond.methodLink RX5 1 objectInit ∈ wsX5_init := by decide +kernel
theorem mw_X5_init_1 : Cond.instanceMethod objectInit ∈ wsX5_init := by decide +kernel
theorem mw_X5_init_2 : Cond.code objectInit ⟨#[0xb1]⟩ 1 none ∈ wsX5_init := by decide +kernel
theorem mw_X5_init_3 : Cond.fieldLink RX5 7 "TypeFoundryModel" "metal" "I" ∈ wsX5_init := by decide +kernel
theorem mw_X5_init_4 : ∀ w ∈ wsX50, w ∈ wsX5_init := by decide +kernel
theorem mw_X5_init_5 : Cond.arrayClass .int ∈ wsX5_init := by decide +kernel
theorem mw_X5_init_6 : Cond.fieldLink RX5 13 "TypeFoundryModel" "store" "[I" ∈ wsX5_init := by decide +kernel
theorem mw_X5_init_7 : Cond.fieldLink RX5 17 "TypeFoundryModel" "own" "[I" ∈ wsX5_init := by decide +kernel
theorem mw_X5_init_8 : Cond.fieldLink RX5 20 "TypeFoundryModel" "owed" "[I" ∈ wsX5_init := by decide +kernel
theorem mw_X5_init_9 : Cond.fieldLink RX5 23 "TypeFoundryModel" "copies" "[I" ∈ wsX5_init := by decide +kernel
theorem mw_X5_init_10 : Cond.fieldLink RX5 26 "TypeFoundryModel" "words" "[I" ∈ wsX5_init := by decide +kernel
theorem mw_X5_init_11 : Cond.fieldLink RX5 29 "TypeFoundryModel" "letter" "[I" ∈ wsX5_init := by decide +kernel
theorem mw_X5_init_12 : Cond.fieldLink RX5 32 "TypeFoundryModel" "takes" "[I" ∈ wsX5_init := by decide +kernel
theorem mw_X5_init_13 : Cond.fieldLink RX5 35 "TypeFoundryModel" "left" "[I" ∈ wsX5_init := by decide +kernel
abbrev wp_X5_init (Z : zT) (o0 : Nat) : Nat × Nat × Nat × Nat × Nat × Nat × Nat × Nat → va_W := fun (u : Nat × Nat × Nat × Nat × Nat × Nat × Nat × Nat) => match u with | (o1, o2, o3, o4, o5, o6, o7, o8) => [(o0, .inr (5, [.int 0, .int 0, .int (nI 500), .int 0, .int 0, .int 0, .int 0, .int 0, .ref o1, .ref o2, .ref o3, .ref o4, .ref o5, .ref o6, .int 0, .ref o7, .ref o8])), (o1, zI Z 3770 (fun _ => 0)), (o2, zI Z 6 (fun _ => 0)), (o3, zI Z 6 (fun _ => 0)), (o4, zI Z 6 (fun _ => 0)), (o5, zI Z 6 (fun _ => 0)), (o6, zI Z 6 (fun _ => 0)), (o7, zI Z 29 (fun _ => 0)), (o8, zI Z 29 (fun _ => 0))]
abbrev po_X5_init (Z : zT) (o0 : Nat) : Nat × Nat × Nat × Nat × Nat × Nat × Nat × Nat → Prop := fun (u : Nat × Nat × Nat × Nat × Nat × Nat × Nat × Nat) => match u with | (o1, o2, o3, o4, o5, o6, o7, o8) => True
abbrev rm_X5_init : Room := { frames := 1, cells := 8, slots := 3858, locals := 12 }
set_option maxHeartbeats 4000000 in
set_option maxRecDepth 100000 in
theorem c_X5_init (l : Launch) (Z : zT) (o0 : Nat)  : zMet l yX5_init wsX5_init rm_X5_init [.ref o0] Z [(o0, .inr (5, [.int 0, .int 0, .int 0, .int 0, .int 0, .int 0, .int 0, .int 0, .null, .null, .null, .null, .null, .null, .int 0, .null, .null]))] (zQv Z (po_X5_init Z o0) (wp_X5_init Z o0)) 8 3858 := by
  refine zstart (cc := cX5_init) (maxL := 1) (ret := none) (by decide) rfl (Nat.le_of_ble_eq_true rfl) ?_
  intro p e s m below meth c ls A hx hb hr hC hlk hnm hX hW hl
  have hml := hC.2.2.1
  have hown : s.vm.findClass RX5 = some m.cls := hC.2.2.2.1
  have hts := hC.2.2.2.2
  have hl : lv_has ls 1 [(0, .ref o0)] := hl
  refine lv_aload_n hx hb dX5_init_0 rfl (lv_at hl 0 rfl) ?_
  refine W.objInit hx hb hown (hts _ mw_X5_init_0) (hts _ mw_X5_init_1) (hts _ mw_X5_init_2) rfl (by rw [hml]; exact hl.1) rfl dX5_init_1 (Nat.le_of_ble_eq_true rfl) (Nat.le_of_ble_eq_true rfl) ?_
  refine W.eq (g2 := F0 m 4 ls []) rfl ?_
  refine lv_aload_n hx hb dX5_init_4 rfl (lv_at hl 0 rfl) ?_
  refine lv_sipush (v := nI 500) hx hb dX5_init_5 (by decide) ?_
  refine z_put (C := RX5) (T := TX5) (N := 17) (v := .int (nI 500)) (ty := .int) hx hb hts mw_X5_init_4 tyX5 tyX5_ok nmX5 hown hX hW 0 rfl rfl 2 (by decide) mw_X5_init_3 (fun _ h9 => h9) rfl (by decide +kernel) rfl rfl (Nat.le_of_ble_eq_true rfl) dX5_init_8 (fun H locs hW => ?_)
  have hW : zW Z s A [(o0, .inr (5, [.int 0, .int 0, .int (nI 500), .int 0, .int 0, .int 0, .int 0, .int 0, .null, .null, .null, .null, .null, .null, .int 0, .null, .null]))] _ _ := hW
  refine lv_aload_n hx hb dX5_init_11 rfl (lv_at hl 0 rfl) ?_
  refine lv_sipush (v := nI 3770) hx hb dX5_init_12 (by decide) ?_
  refine z_newa hx hb hts mw_X5_init_5 hX hW (n := 3770) (by omega) (Nat.le_of_ble_eq_true rfl) (Nat.le_of_ble_eq_true rfl) dX5_init_15 (fun qa_1 H hW => ?_)
  have hW : zW Z s A [(o0, .inr (5, [.int 0, .int 0, .int (nI 500), .int 0, .int 0, .int 0, .int 0, .int 0, .null, .null, .null, .null, .null, .null, .int 0, .null, .null])), (qa_1, zI Z 3770 (fun _ => 0))] _ _ := hW
  refine z_putF (C := RX5) (T := TX5) (N := 17) (v := .ref qa_1) (ty := .array .int) hx hb hts mw_X5_init_4 tyX5 tyX5_ok nmX5 hown hX hW 0 rfl rfl 8 (by decide) mw_X5_init_6 (fun _ h9 => h9) rfl hnm rfl (by decide +kernel) rfl rfl (Nat.le_of_ble_eq_true rfl) dX5_init_17 (fun H locs hW => ?_)
  have hW : zW Z s A [(o0, .inr (5, [.int 0, .int 0, .int (nI 500), .int 0, .int 0, .int 0, .int 0, .int 0, .ref qa_1, .null, .null, .null, .null, .null, .int 0, .null, .null])), (qa_1, zI Z 3770 (fun _ => 0))] _ _ := hW
  refine lv_aload_n hx hb dX5_init_20 rfl (lv_at hl 0 rfl) ?_
  refine lv_bipush (v := nI 6) hx hb dX5_init_21 (by decide) ?_
  refine z_newa hx hb hts mw_X5_init_5 hX hW (n := 6) (by omega) (Nat.le_of_ble_eq_true rfl) (Nat.le_of_ble_eq_true rfl) dX5_init_23 (fun qa_2 H hW => ?_)
  have hW : zW Z s A [(o0, .inr (5, [.int 0, .int 0, .int (nI 500), .int 0, .int 0, .int 0, .int 0, .int 0, .ref qa_1, .null, .null, .null, .null, .null, .int 0, .null, .null])), (qa_1, zI Z 3770 (fun _ => 0)), (qa_2, zI Z 6 (fun _ => 0))] _ _ := hW
  refine z_putF (C := RX5) (T := TX5) (N := 17) (v := .ref qa_2) (ty := .array .int) hx hb hts mw_X5_init_4 tyX5 tyX5_ok nmX5 hown hX hW 0 rfl rfl 9 (by decide) mw_X5_init_7 (fun _ h9 => h9) rfl hnm rfl (by decide +kernel) rfl rfl (Nat.le_of_ble_eq_true rfl) dX5_init_25 (fun H locs hW => ?_)
  have hW : zW Z s A [(o0, .inr (5, [.int 0, .int 0, .int (nI 500), .int 0, .int 0, .int 0, .int 0, .int 0, .ref qa_1, .ref qa_2, .null, .null, .null, .null, .int 0, .null, .null])), (qa_1, zI Z 3770 (fun _ => 0)), (qa_2, zI Z 6 (fun _ => 0))] _ _ := hW
  refine lv_aload_n hx hb dX5_init_28 rfl (lv_at hl 0 rfl) ?_
  refine lv_bipush (v := nI 6) hx hb dX5_init_29 (by decide) ?_
  refine z_newa hx hb hts mw_X5_init_5 hX hW (n := 6) (by omega) (Nat.le_of_ble_eq_true rfl) (Nat.le_of_ble_eq_true rfl) dX5_init_31 (fun qa_3 H hW => ?_)
  have hW : zW Z s A [(o0, .inr (5, [.int 0, .int 0, .int (nI 500), .int 0, .int 0, .int 0, .int 0, .int 0, .ref qa_1, .ref qa_2, .null, .null, .null, .null, .int 0, .null, .null])), (qa_1, zI Z 3770 (fun _ => 0)), (qa_2, zI Z 6 (fun _ => 0)), (qa_3, zI Z 6 (fun _ => 0))] _ _ := hW
  refine z_putF (C := RX5) (T := TX5) (N := 17) (v := .ref qa_3) (ty := .array .int) hx hb hts mw_X5_init_4 tyX5 tyX5_ok nmX5 hown hX hW 0 rfl rfl 10 (by decide) mw_X5_init_8 (fun _ h9 => h9) rfl hnm rfl (by decide +kernel) rfl rfl (Nat.le_of_ble_eq_true rfl) dX5_init_33 (fun H locs hW => ?_)
  have hW : zW Z s A [(o0, .inr (5, [.int 0, .int 0, .int (nI 500), .int 0, .int 0, .int 0, .int 0, .int 0, .ref qa_1, .ref qa_2, .ref qa_3, .null, .null, .null, .int 0, .null, .null])), (qa_1, zI Z 3770 (fun _ => 0)), (qa_2, zI Z 6 (fun _ => 0)), (qa_3, zI Z 6 (fun _ => 0))] _ _ := hW
  refine lv_aload_n hx hb dX5_init_36 rfl (lv_at hl 0 rfl) ?_
  refine lv_bipush (v := nI 6) hx hb dX5_init_37 (by decide) ?_
  refine z_newa hx hb hts mw_X5_init_5 hX hW (n := 6) (by omega) (Nat.le_of_ble_eq_true rfl) (Nat.le_of_ble_eq_true rfl) dX5_init_39 (fun qa_4 H hW => ?_)
  have hW : zW Z s A [(o0, .inr (5, [.int 0, .int 0, .int (nI 500), .int 0, .int 0, .int 0, .int 0, .int 0, .ref qa_1, .ref qa_2, .ref qa_3, .null, .null, .null, .int 0, .null, .null])), (qa_1, zI Z 3770 (fun _ => 0)), (qa_2, zI Z 6 (fun _ => 0)), (qa_3, zI Z 6 (fun _ => 0)), (qa_4, zI Z 6 (fun _ => 0))] _ _ := hW
  refine z_putF (C := RX5) (T := TX5) (N := 17) (v := .ref qa_4) (ty := .array .int) hx hb hts mw_X5_init_4 tyX5 tyX5_ok nmX5 hown hX hW 0 rfl rfl 11 (by decide) mw_X5_init_9 (fun _ h9 => h9) rfl hnm rfl (by decide +kernel) rfl rfl (Nat.le_of_ble_eq_true rfl) dX5_init_41 (fun H locs hW => ?_)
  have hW : zW Z s A [(o0, .inr (5, [.int 0, .int 0, .int (nI 500), .int 0, .int 0, .int 0, .int 0, .int 0, .ref qa_1, .ref qa_2, .ref qa_3, .ref qa_4, .null, .null, .int 0, .null, .null])), (qa_1, zI Z 3770 (fun _ => 0)), (qa_2, zI Z 6 (fun _ => 0)), (qa_3, zI Z 6 (fun _ => 0)), (qa_4, zI Z 6 (fun _ => 0))] _ _ := hW
  refine lv_aload_n hx hb dX5_init_44 rfl (lv_at hl 0 rfl) ?_
  refine lv_bipush (v := nI 6) hx hb dX5_init_45 (by decide) ?_
  refine z_newa hx hb hts mw_X5_init_5 hX hW (n := 6) (by omega) (Nat.le_of_ble_eq_true rfl) (Nat.le_of_ble_eq_true rfl) dX5_init_47 (fun qa_5 H hW => ?_)
  have hW : zW Z s A [(o0, .inr (5, [.int 0, .int 0, .int (nI 500), .int 0, .int 0, .int 0, .int 0, .int 0, .ref qa_1, .ref qa_2, .ref qa_3, .ref qa_4, .null, .null, .int 0, .null, .null])), (qa_1, zI Z 3770 (fun _ => 0)), (qa_2, zI Z 6 (fun _ => 0)), (qa_3, zI Z 6 (fun _ => 0)), (qa_4, zI Z 6 (fun _ => 0)), (qa_5, zI Z 6 (fun _ => 0))] _ _ := hW
  refine z_putF (C := RX5) (T := TX5) (N := 17) (v := .ref qa_5) (ty := .array .int) hx hb hts mw_X5_init_4 tyX5 tyX5_ok nmX5 hown hX hW 0 rfl rfl 12 (by decide) mw_X5_init_10 (fun _ h9 => h9) rfl hnm rfl (by decide +kernel) rfl rfl (Nat.le_of_ble_eq_true rfl) dX5_init_49 (fun H locs hW => ?_)
  have hW : zW Z s A [(o0, .inr (5, [.int 0, .int 0, .int (nI 500), .int 0, .int 0, .int 0, .int 0, .int 0, .ref qa_1, .ref qa_2, .ref qa_3, .ref qa_4, .ref qa_5, .null, .int 0, .null, .null])), (qa_1, zI Z 3770 (fun _ => 0)), (qa_2, zI Z 6 (fun _ => 0)), (qa_3, zI Z 6 (fun _ => 0)), (qa_4, zI Z 6 (fun _ => 0)), (qa_5, zI Z 6 (fun _ => 0))] _ _ := hW
  refine lv_aload_n hx hb dX5_init_52 rfl (lv_at hl 0 rfl) ?_
  refine lv_bipush (v := nI 6) hx hb dX5_init_53 (by decide) ?_
  refine z_newa hx hb hts mw_X5_init_5 hX hW (n := 6) (by omega) (Nat.le_of_ble_eq_true rfl) (Nat.le_of_ble_eq_true rfl) dX5_init_55 (fun qa_6 H hW => ?_)
  have hW : zW Z s A [(o0, .inr (5, [.int 0, .int 0, .int (nI 500), .int 0, .int 0, .int 0, .int 0, .int 0, .ref qa_1, .ref qa_2, .ref qa_3, .ref qa_4, .ref qa_5, .null, .int 0, .null, .null])), (qa_1, zI Z 3770 (fun _ => 0)), (qa_2, zI Z 6 (fun _ => 0)), (qa_3, zI Z 6 (fun _ => 0)), (qa_4, zI Z 6 (fun _ => 0)), (qa_5, zI Z 6 (fun _ => 0)), (qa_6, zI Z 6 (fun _ => 0))] _ _ := hW
  refine z_putF (C := RX5) (T := TX5) (N := 17) (v := .ref qa_6) (ty := .array .int) hx hb hts mw_X5_init_4 tyX5 tyX5_ok nmX5 hown hX hW 0 rfl rfl 13 (by decide) mw_X5_init_11 (fun _ h9 => h9) rfl hnm rfl (by decide +kernel) rfl rfl (Nat.le_of_ble_eq_true rfl) dX5_init_57 (fun H locs hW => ?_)
  have hW : zW Z s A [(o0, .inr (5, [.int 0, .int 0, .int (nI 500), .int 0, .int 0, .int 0, .int 0, .int 0, .ref qa_1, .ref qa_2, .ref qa_3, .ref qa_4, .ref qa_5, .ref qa_6, .int 0, .null, .null])), (qa_1, zI Z 3770 (fun _ => 0)), (qa_2, zI Z 6 (fun _ => 0)), (qa_3, zI Z 6 (fun _ => 0)), (qa_4, zI Z 6 (fun _ => 0)), (qa_5, zI Z 6 (fun _ => 0)), (qa_6, zI Z 6 (fun _ => 0))] _ _ := hW
  refine lv_aload_n hx hb dX5_init_60 rfl (lv_at hl 0 rfl) ?_
  refine lv_bipush (v := nI 29) hx hb dX5_init_61 (by decide) ?_
  refine z_newa hx hb hts mw_X5_init_5 hX hW (n := 29) (by omega) (Nat.le_of_ble_eq_true rfl) (Nat.le_of_ble_eq_true rfl) dX5_init_63 (fun qa_7 H hW => ?_)
  have hW : zW Z s A [(o0, .inr (5, [.int 0, .int 0, .int (nI 500), .int 0, .int 0, .int 0, .int 0, .int 0, .ref qa_1, .ref qa_2, .ref qa_3, .ref qa_4, .ref qa_5, .ref qa_6, .int 0, .null, .null])), (qa_1, zI Z 3770 (fun _ => 0)), (qa_2, zI Z 6 (fun _ => 0)), (qa_3, zI Z 6 (fun _ => 0)), (qa_4, zI Z 6 (fun _ => 0)), (qa_5, zI Z 6 (fun _ => 0)), (qa_6, zI Z 6 (fun _ => 0)), (qa_7, zI Z 29 (fun _ => 0))] _ _ := hW
  refine z_putF (C := RX5) (T := TX5) (N := 17) (v := .ref qa_7) (ty := .array .int) hx hb hts mw_X5_init_4 tyX5 tyX5_ok nmX5 hown hX hW 0 rfl rfl 15 (by decide) mw_X5_init_12 (fun _ h9 => h9) rfl hnm rfl (by decide +kernel) rfl rfl (Nat.le_of_ble_eq_true rfl) dX5_init_65 (fun H locs hW => ?_)
  have hW : zW Z s A [(o0, .inr (5, [.int 0, .int 0, .int (nI 500), .int 0, .int 0, .int 0, .int 0, .int 0, .ref qa_1, .ref qa_2, .ref qa_3, .ref qa_4, .ref qa_5, .ref qa_6, .int 0, .ref qa_7, .null])), (qa_1, zI Z 3770 (fun _ => 0)), (qa_2, zI Z 6 (fun _ => 0)), (qa_3, zI Z 6 (fun _ => 0)), (qa_4, zI Z 6 (fun _ => 0)), (qa_5, zI Z 6 (fun _ => 0)), (qa_6, zI Z 6 (fun _ => 0)), (qa_7, zI Z 29 (fun _ => 0))] _ _ := hW
  refine lv_aload_n hx hb dX5_init_68 rfl (lv_at hl 0 rfl) ?_
  refine lv_bipush (v := nI 29) hx hb dX5_init_69 (by decide) ?_
  refine z_newa hx hb hts mw_X5_init_5 hX hW (n := 29) (by omega) (Nat.le_of_ble_eq_true rfl) (Nat.le_of_ble_eq_true rfl) dX5_init_71 (fun qa_8 H hW => ?_)
  have hW : zW Z s A [(o0, .inr (5, [.int 0, .int 0, .int (nI 500), .int 0, .int 0, .int 0, .int 0, .int 0, .ref qa_1, .ref qa_2, .ref qa_3, .ref qa_4, .ref qa_5, .ref qa_6, .int 0, .ref qa_7, .null])), (qa_1, zI Z 3770 (fun _ => 0)), (qa_2, zI Z 6 (fun _ => 0)), (qa_3, zI Z 6 (fun _ => 0)), (qa_4, zI Z 6 (fun _ => 0)), (qa_5, zI Z 6 (fun _ => 0)), (qa_6, zI Z 6 (fun _ => 0)), (qa_7, zI Z 29 (fun _ => 0)), (qa_8, zI Z 29 (fun _ => 0))] _ _ := hW
  refine z_putF (C := RX5) (T := TX5) (N := 17) (v := .ref qa_8) (ty := .array .int) hx hb hts mw_X5_init_4 tyX5 tyX5_ok nmX5 hown hX hW 0 rfl rfl 16 (by decide) mw_X5_init_13 (fun _ h9 => h9) rfl hnm rfl (by decide +kernel) rfl rfl (Nat.le_of_ble_eq_true rfl) dX5_init_73 (fun H locs hW => ?_)
  have hW : zW Z s A [(o0, .inr (5, [.int 0, .int 0, .int (nI 500), .int 0, .int 0, .int 0, .int 0, .int 0, .ref qa_1, .ref qa_2, .ref qa_3, .ref qa_4, .ref qa_5, .ref qa_6, .int 0, .ref qa_7, .ref qa_8])), (qa_1, zI Z 3770 (fun _ => 0)), (qa_2, zI Z 6 (fun _ => 0)), (qa_3, zI Z 6 (fun _ => 0)), (qa_4, zI Z 6 (fun _ => 0)), (qa_5, zI Z 6 (fun _ => 0)), (qa_6, zI Z 6 (fun _ => 0)), (qa_7, zI Z 29 (fun _ => 0)), (qa_8, zI Z 29 (fun _ => 0))] _ _ := hW
  exact z_vret hx hb hr hlk hW (qa_1, qa_2, qa_3, qa_4, qa_5, qa_6, qa_7, qa_8) (trivial) (rfl) (by omega) (by omega) dX5_init_76
