abbrev wp_X5_caseM (Z : zT) (pk : Int32) : Unit → va_W := fun (u : Unit) => []
abbrev po_X5_caseM (Z : zT) (pk : Int32) : Int32 → Unit → Prop := fun (r : Int32) (u : Unit) => r = nI 290 * (nI 1 + pk)
abbrev rm_X5_caseM : Room := { frames := 0, cells := 0, slots := 0, locals := 0 }
set_option maxHeartbeats 4000000 in
set_option maxRecDepth 100000 in
theorem c_X5_caseM (l : Launch) (Z : zT) (pk : Int32)  : zMet l yX5_caseOf wsX5_caseOf rm_X5_caseM [.int pk] Z [] (zQi Z (po_X5_caseM Z pk) (wp_X5_caseM Z pk)) 0 0 := by
  refine zstart (cc := cX5_caseOf) (maxL := 1) (ret := (some .int)) (by decide) rfl (Nat.le_of_ble_eq_true rfl) ?_
  intro p e s m below meth c ls A hx hb hr hC hlk hnm hX hW hl
  have hml := hC.2.2.1
  have hown : s.vm.findClass RX5 = some m.cls := hC.2.2.2.1
  have hts := hC.2.2.2.2
  have hl : lv_has ls 1 [(0, .int pk)] := hl
  refine lv_sipush (v := nI 290) hx hb dX5_caseOf_0 (by decide) ?_
  refine lv_iconst (v := nI 1) hx hb dX5_caseOf_3 (by decide) ?_
  refine lv_iload_n hx hb dX5_caseOf_4 rfl (lv_at hl 0 rfl) ?_
  refine lv_iadd hx hb dX5_caseOf_5 ?_
  refine lv_imul hx hb dX5_caseOf_6 ?_
  exact z_iret hx hb hr hlk hW () (rfl) (rfl) (by omega) (by omega) dX5_caseOf_7
