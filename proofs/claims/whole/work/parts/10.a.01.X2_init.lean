theorem mw_X2_init_0 : Cond.methodLink RX2 3 objectInit ∈ wsX2_init := by decide +kernel
theorem mw_X2_init_1 : Cond.instanceMethod objectInit ∈ wsX2_init := by decide +kernel
theorem mw_X2_init_2 : Cond.code objectInit ⟨#[0xb1]⟩ 1 none ∈ wsX2_init := by decide +kernel
theorem mw_X2_init_3 : Cond.arrayClass .int ∈ wsX2_init := by decide +kernel
theorem mw_X2_init_4 : Cond.fieldLink RX2 9 "TypeFoundry$Sorts" "numbers" "[I" ∈ wsX2_init := by decide +kernel
theorem mw_X2_init_5 : ∀ w ∈ wsX20, w ∈ wsX2_init := by decide +kernel
abbrev wp_X2_init (Z : zT) (a : Nat) : Nat → va_W := fun (u : Nat) => match u with | q => [(a, .inr (2, [.ref q])), (q, zI Z 290 (fun _ => 0))]
abbrev po_X2_init (Z : zT) (a : Nat) : Nat → Prop := fun (u : Nat) => match u with | q => True
abbrev rm_X2_init : Room := { frames := 1, cells := 1, slots := 290, locals := 12 }
set_option maxHeartbeats 4000000 in
set_option maxRecDepth 100000 in
theorem c_X2_init (l : Launch) (Z : zT) (a : Nat)  : zMet l yX2_init wsX2_init rm_X2_init [.ref a] Z [(a, .inr (2, [.null]))] (zQv Z (po_X2_init Z a) (wp_X2_init Z a)) 1 290 := by
  refine zstart (cc := cX2_init) (maxL := 1) (ret := none) (by decide) rfl (Nat.le_of_ble_eq_true rfl) ?_
  intro p e s m below meth c ls A hx hb hr hC hlk hnm hX hW hl
  have hml := hC.2.2.1
  have hown : s.vm.findClass RX2 = some m.cls := hC.2.2.2.1
  have hts := hC.2.2.2.2
  have hl : lv_has ls 1 [(0, .ref a)] := hl
  refine lv_aload_n hx hb dX2_init_0 rfl (lv_at hl 0 rfl) ?_
  refine W.objInit hx hb hown (hts _ mw_X2_init_0) (hts _ mw_X2_init_1) (hts _ mw_X2_init_2) rfl (by rw [hml]; exact hl.1) rfl dX2_init_1 (Nat.le_of_ble_eq_true rfl) (Nat.le_of_ble_eq_true rfl) ?_
  refine W.eq (g2 := F0 m 4 ls []) rfl ?_
  refine lv_aload_n hx hb dX2_init_4 rfl (lv_at hl 0 rfl) ?_
  refine lv_sipush (v := nI 290) hx hb dX2_init_5 (by decide) ?_
  refine z_newa hx hb hts mw_X2_init_3 hX hW (n := 290) (by omega) (Nat.le_of_ble_eq_true rfl) (Nat.le_of_ble_eq_true rfl) dX2_init_8 (fun qa_1 H hW => ?_)
  have hW : zW Z s A [(a, .inr (2, [.null])), (qa_1, zI Z 290 (fun _ => 0))] _ _ := hW
  refine z_putF (C := RX2) (T := TX2) (N := 1) (v := .ref qa_1) (ty := .array .int) hx hb hts mw_X2_init_5 tyX2 tyX2_ok nmX2 hown hX hW 0 rfl rfl 0 (by decide) mw_X2_init_4 (fun _ h9 => h9) rfl hnm rfl (by decide +kernel) rfl rfl (Nat.le_of_ble_eq_true rfl) dX2_init_10 (fun H locs hW => ?_)
  have hW : zW Z s A [(a, .inr (2, [.ref qa_1])), (qa_1, zI Z 290 (fun _ => 0))] _ _ := hW
  exact z_vret hx hb hr hlk hW qa_1 (trivial) (rfl) (by omega) (by omega) dX2_init_13
