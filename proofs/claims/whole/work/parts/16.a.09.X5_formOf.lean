abbrev wp_X5_formOf (Z : zT) (pk : Nat) : Unit → va_W := fun (u : Unit) => []
abbrev po_X5_formOf (Z : zT) (pk : Nat) : Int32 → Unit → Prop := fun (r : Int32) (u : Unit) => r = nI (290 * (7 + pk))
abbrev rm_X5_formOf : Room := { frames := 0, cells := 0, slots := 0, locals := 0 }
set_option maxHeartbeats 4000000 in
set_option maxRecDepth 100000 in
theorem c_X5_formOf (l : Launch) (Z : zT) (pk : Nat)  : zMet l yX5_formOf wsX5_formOf rm_X5_formOf [.int (nI pk)] Z [] (zQi Z (po_X5_formOf Z pk) (wp_X5_formOf Z pk)) 0 0 := by
  refine zstart (cc := cX5_formOf) (maxL := 1) (ret := (some .int)) (by decide) rfl (Nat.le_of_ble_eq_true rfl) ?_
  intro p e s m below meth c ls A hx hb hr hC hlk hnm hX hW hl
  have hml := hC.2.2.1
  have hown : s.vm.findClass RX5 = some m.cls := hC.2.2.2.1
  have hts := hC.2.2.2.2
  have hl : lv_has ls 1 [(0, .int (nI pk))] := hl
  refine lv_sipush (v := nI 290) hx hb dX5_formOf_0 (by decide) ?_
  refine lv_bipush (v := nI 7) hx hb dX5_formOf_3 (by decide) ?_
  refine lv_iload_n hx hb dX5_formOf_5 rfl (lv_at hl 0 rfl) ?_
  refine lv_iadd hx hb dX5_formOf_6 ?_
  refine zw_topi (nI_add _ _) ?_
  refine lv_imul hx hb dX5_formOf_7 ?_
  refine zw_topi (pk_mul _ _) ?_
  exact z_iret hx hb hr hlk hW () (rfl) (rfl) (by omega) (by omega) dX5_formOf_8
