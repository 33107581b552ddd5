theorem mw_X3_init_0 : Cond.methodLink RX3 3 objectInit ∈ wsX3_init := by decide +kernel
theorem mw_X3_init_1 : Cond.instanceMethod objectInit ∈ wsX3_init := by decide +kernel
theorem mw_X3_init_2 : Cond.code objectInit ⟨#[0xb1]⟩ 1 none ∈ wsX3_init := by decide +kernel
theorem mw_X3_init_3 : Cond.arrayClass .int ∈ wsX3_init := by decide +kernel
theorem mw_X3_init_4 : Cond.fieldLink RX3 9 "TypeFoundry$Word" "letters" "[I" ∈ wsX3_init := by decide +kernel
theorem mw_X3_init_5 : ∀ w ∈ wsX30, w ∈ wsX3_init := by decide +kernel
theorem mw_X3_init_6 : Cond.fieldLink RX3 15 "TypeFoundry$Word" "firstPlace" "I" ∈ wsX3_init := by decide +kernel
abbrev wp_X3_init (Z : zT) (a : Nat) : Nat → va_W := fun (u : Nat) => match u with | q => [(a, .inr (3, [.ref q, .int (nI 6)])), (q, zI Z 6 (fun _ => 0))]
abbrev po_X3_init (Z : zT) (a : Nat) : Nat → Prop := fun (u : Nat) => match u with | q => True
abbrev rm_X3_init : Room := { frames := 1, cells := 1, slots := 6, locals := 12 }
set_option maxHeartbeats 4000000 in
set_option maxRecDepth 100000 in
theorem c_X3_init (l : Launch) (Z : zT) (a : Nat)  : zMet l yX3_init wsX3_init rm_X3_init [.ref a] Z [(a, .inr (3, [.null, .int 0]))] (zQv Z (po_X3_init Z a) (wp_X3_init Z a)) 1 6 := by
  refine zstart (cc := cX3_init) (maxL := 1) (ret := none) (by decide) rfl (Nat.le_of_ble_eq_true rfl) ?_
  intro p e s m below meth c ls A hx hb hr hC hlk hnm hX hW hl
  have hml := hC.2.2.1
  have hown : s.vm.findClass RX3 = some m.cls := hC.2.2.2.1
  have hts := hC.2.2.2.2
  have hl : lv_has ls 1 [(0, .ref a)] := hl
  refine lv_aload_n hx hb dX3_init_0 rfl (lv_at hl 0 rfl) ?_
  refine W.objInit hx hb hown (hts _ mw_X3_init_0) (hts _ mw_X3_init_1) (hts _ mw_X3_init_2) rfl (by rw [hml]; exact hl.1) rfl dX3_init_1 (Nat.le_of_ble_eq_true rfl) (Nat.le_of_ble_eq_true rfl) ?_
  refine W.eq (g2 := F0 m 4 ls []) rfl ?_
  refine lv_aload_n hx hb dX3_init_4 rfl (lv_at hl 0 rfl) ?_
  refine lv_bipush (v := nI 6) hx hb dX3_init_5 (by decide) ?_
  refine z_newa hx hb hts mw_X3_init_3 hX hW (n := 6) (by omega) (Nat.le_of_ble_eq_true rfl) (Nat.le_of_ble_eq_true rfl) dX3_init_7 (fun qa_1 H hW => ?_)
  have hW : zW Z s A [(a, .inr (3, [.null, .int 0])), (qa_1, zI Z 6 (fun _ => 0))] _ _ := hW
  refine z_putF (C := RX3) (T := TX3) (N := 2) (v := .ref qa_1) (ty := .array .int) hx hb hts mw_X3_init_5 tyX3 tyX3_ok nmX3 hown hX hW 0 rfl rfl 0 (by decide) mw_X3_init_4 (fun _ h9 => h9) rfl hnm rfl (by decide +kernel) rfl rfl (Nat.le_of_ble_eq_true rfl) dX3_init_9 (fun H locs hW => ?_)
  have hW : zW Z s A [(a, .inr (3, [.ref qa_1, .int 0])), (qa_1, zI Z 6 (fun _ => 0))] _ _ := hW
  refine lv_aload_n hx hb dX3_init_12 rfl (lv_at hl 0 rfl) ?_
  refine lv_bipush (v := nI 6) hx hb dX3_init_13 (by decide) ?_
  refine z_put (C := RX3) (T := TX3) (N := 2) (v := .int (nI 6)) (ty := .int) hx hb hts mw_X3_init_5 tyX3 tyX3_ok nmX3 hown hX hW 0 rfl rfl 1 (by decide) mw_X3_init_6 (fun _ h9 => h9) rfl (by decide +kernel) rfl rfl (Nat.le_of_ble_eq_true rfl) dX3_init_15 (fun H locs hW => ?_)
  have hW : zW Z s A [(a, .inr (3, [.ref qa_1, .int (nI 6)])), (qa_1, zI Z 6 (fun _ => 0))] _ _ := hW
  exact z_vret hx hb hr hlk hW qa_1 (trivial) (rfl) (by omega) (by omega) dX3_init_18
