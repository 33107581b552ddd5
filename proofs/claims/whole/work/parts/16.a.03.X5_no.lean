theorem mw_X5_no_0 : Cond.fieldLink RX5 38 "TypeFoundryModel" "thrown" "I" ∈ wsX5_no := by decide +kernel
theorem mw_X5_no_1 : ∀ w ∈ wsX50, w ∈ wsX5_no := by decide +kernel
abbrev wp_X5_no (Z : zT) (o0 o1 o2 o3 o4 o5 o6 o7 o8 np : Nat) (th dy me co ca br ml le : Int32) (k1 : Nat) : Unit → va_W := fun (u : Unit) => [(o0, .inr (5, [.int (nI k1), .int dy, .int me, .int co, .int (nI np), .int ca, .int br, .int ml, .ref o1, .ref o2, .ref o3, .ref o4, .ref o5, .ref o6, .int le, .ref o7, .ref o8]))]
abbrev po_X5_no (Z : zT) (o0 o1 o2 o3 o4 o5 o6 o7 o8 np : Nat) (th dy me co ca br ml le : Int32) (k1 : Nat) : Int32 → Unit → Prop := fun (r : Int32) (u : Unit) => r = nI 0
abbrev rm_X5_no : Room := { frames := 0, cells := 0, slots := 0, locals := 0 }
set_option maxHeartbeats 4000000 in
set_option maxRecDepth 100000 in
theorem c_X5_no (l : Launch) (Z : zT) (o0 o1 o2 o3 o4 o5 o6 o7 o8 np : Nat) (th dy me co ca br ml le : Int32) (k1 : Nat)  : zMet l yX5_no wsX5_no rm_X5_no [.ref o0, .int (nI k1)] Z [(o0, .inr (5, [.int th, .int dy, .int me, .int co, .int (nI np), .int ca, .int br, .int ml, .ref o1, .ref o2, .ref o3, .ref o4, .ref o5, .ref o6, .int le, .ref o7, .ref o8]))] (zQi Z (po_X5_no Z o0 o1 o2 o3 o4 o5 o6 o7 o8 np th dy me co ca br ml le k1) (wp_X5_no Z o0 o1 o2 o3 o4 o5 o6 o7 o8 np th dy me co ca br ml le k1)) 0 0 := by
  refine zstart (cc := cX5_no) (maxL := 2) (ret := (some .int)) (by decide) rfl (Nat.le_of_ble_eq_true rfl) ?_
  intro p e s m below meth c ls A hx hb hr hC hlk hnm hX hW hl
  have hml := hC.2.2.1
  have hown : s.vm.findClass RX5 = some m.cls := hC.2.2.2.1
  have hts := hC.2.2.2.2
  have hl : lv_has ls 2 [(0, .ref o0), (1, .int (nI k1))] := hl
  refine lv_aload_n hx hb dX5_no_0 rfl (lv_at hl 0 rfl) ?_
  refine lv_iload_n hx hb dX5_no_1 rfl (lv_at hl 1 rfl) ?_
  refine z_put (C := RX5) (T := TX5) (N := 17) (v := .int (nI k1)) (ty := .int) hx hb hts mw_X5_no_1 tyX5 tyX5_ok nmX5 hown hX hW 0 rfl rfl 0 (by decide) mw_X5_no_0 (fun _ h9 => h9) rfl (by decide +kernel) rfl rfl (Nat.le_of_ble_eq_true rfl) dX5_no_2 (fun H locs hW => ?_)
  have hW : zW Z s A [(o0, .inr (5, [.int (nI k1), .int dy, .int me, .int co, .int (nI np), .int ca, .int br, .int ml, .ref o1, .ref o2, .ref o3, .ref o4, .ref o5, .ref o6, .int le, .ref o7, .ref o8]))] _ _ := hW
  refine lv_iconst (v := nI 0) hx hb dX5_no_5 (by decide) ?_
  exact z_iret hx hb hr hlk hW () (rfl) (rfl) (by omega) (by omega) dX5_no_6
