theorem mw_X1_init_0 : Cond.methodLink RX1 3 objectInit ∈ wsX1_init := by decide +kernel
theorem mw_X1_init_1 : Cond.instanceMethod objectInit ∈ wsX1_init := by decide +kernel
theorem mw_X1_init_2 : Cond.code objectInit ⟨#[0xb1]⟩ 1 none ∈ wsX1_init := by decide +kernel
theorem mw_X1_init_3 : Cond.arrayClass .int ∈ wsX1_init := by decide +kernel
theorem mw_X1_init_4 : Cond.fieldLink RX1 9 "TypeFoundry$Setting" "left" "[I" ∈ wsX1_init := by decide +kernel
theorem mw_X1_init_5 : ∀ w ∈ wsX10, w ∈ wsX1_init := by decide +kernel
theorem mw_X1_init_6 : Cond.fieldLink RX1 15 "TypeFoundry$Setting" "taken" "[I" ∈ wsX1_init := by decide +kernel
abbrev wp_X1_init (Z : zT) (z : Nat) : Nat × Nat → va_W := fun (u : Nat × Nat) => match u with | (q1, q2) => [(z, .inr (1, [.ref q1, .ref q2])), (q1, zI Z 29 (fun _ => 0)), (q2, zI Z 29 (fun _ => 0))]
abbrev po_X1_init (Z : zT) (z : Nat) : Nat × Nat → Prop := fun (u : Nat × Nat) => match u with | (q1, q2) => True
abbrev rm_X1_init : Room := { frames := 1, cells := 2, slots := 58, locals := 12 }
set_option maxHeartbeats 4000000 in
set_option maxRecDepth 100000 in
theorem c_X1_init (l : Launch) (Z : zT) (z : Nat)  : zMet l yX1_init wsX1_init rm_X1_init [.ref z] Z [(z, .inr (1, [.null, .null]))] (zQv Z (po_X1_init Z z) (wp_X1_init Z z)) 2 58 := by
  refine zstart (cc := cX1_init) (maxL := 1) (ret := none) (by decide) rfl (Nat.le_of_ble_eq_true rfl) ?_
  intro p e s m below meth c ls A hx hb hr hC hlk hnm hX hW hl
  have hml := hC.2.2.1
  have hown : s.vm.findClass RX1 = some m.cls := hC.2.2.2.1
  have hts := hC.2.2.2.2
  have hl : lv_has ls 1 [(0, .ref z)] := hl
  refine lv_aload_n hx hb dX1_init_0 rfl (lv_at hl 0 rfl) ?_
  refine W.objInit hx hb hown (hts _ mw_X1_init_0) (hts _ mw_X1_init_1) (hts _ mw_X1_init_2) rfl (by rw [hml]; exact hl.1) rfl dX1_init_1 (Nat.le_of_ble_eq_true rfl) (Nat.le_of_ble_eq_true rfl) ?_
  refine W.eq (g2 := F0 m 4 ls []) rfl ?_
  refine lv_aload_n hx hb dX1_init_4 rfl (lv_at hl 0 rfl) ?_
  refine lv_bipush (v := nI 29) hx hb dX1_init_5 (by decide) ?_
  refine z_newa hx hb hts mw_X1_init_3 hX hW (n := 29) (by omega) (Nat.le_of_ble_eq_true rfl) (Nat.le_of_ble_eq_true rfl) dX1_init_7 (fun qa_1 H hW => ?_)
  have hW : zW Z s A [(z, .inr (1, [.null, .null])), (qa_1, zI Z 29 (fun _ => 0))] _ _ := hW
  refine z_putF (C := RX1) (T := TX1) (N := 2) (v := .ref qa_1) (ty := .array .int) hx hb hts mw_X1_init_5 tyX1 tyX1_ok nmX1 hown hX hW 0 rfl rfl 0 (by decide) mw_X1_init_4 (fun _ h9 => h9) rfl hnm rfl (by decide +kernel) rfl rfl (Nat.le_of_ble_eq_true rfl) dX1_init_9 (fun H locs hW => ?_)
  have hW : zW Z s A [(z, .inr (1, [.ref qa_1, .null])), (qa_1, zI Z 29 (fun _ => 0))] _ _ := hW
  refine lv_aload_n hx hb dX1_init_12 rfl (lv_at hl 0 rfl) ?_
  refine lv_bipush (v := nI 29) hx hb dX1_init_13 (by decide) ?_
  refine z_newa hx hb hts mw_X1_init_3 hX hW (n := 29) (by omega) (Nat.le_of_ble_eq_true rfl) (Nat.le_of_ble_eq_true rfl) dX1_init_15 (fun qa_2 H hW => ?_)
  have hW : zW Z s A [(z, .inr (1, [.ref qa_1, .null])), (qa_1, zI Z 29 (fun _ => 0)), (qa_2, zI Z 29 (fun _ => 0))] _ _ := hW
  refine z_putF (C := RX1) (T := TX1) (N := 2) (v := .ref qa_2) (ty := .array .int) hx hb hts mw_X1_init_5 tyX1 tyX1_ok nmX1 hown hX hW 0 rfl rfl 1 (by decide) mw_X1_init_6 (fun _ h9 => h9) rfl hnm rfl (by decide +kernel) rfl rfl (Nat.le_of_ble_eq_true rfl) dX1_init_17 (fun H locs hW => ?_)
  have hW : zW Z s A [(z, .inr (1, [.ref qa_1, .ref qa_2])), (qa_1, zI Z 29 (fun _ => 0)), (qa_2, zI Z 29 (fun _ => 0))] _ _ := hW
  exact z_vret hx hb hr hlk hW (qa_1, qa_2) (trivial) (rfl) (by omega) (by omega) dX1_init_20
