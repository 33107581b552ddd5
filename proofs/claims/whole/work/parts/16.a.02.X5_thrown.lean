theorem mw_X5_thrown_0 : Cond.fieldLink RX5 38 "TypeFoundryModel" "thrown" "I" ∈ wsX5_thrown := by decide +kernel
theorem mw_X5_thrown_1 : ∀ w ∈ wsX50, w ∈ wsX5_thrown := by decide +kernel
abbrev wp_X5_thrown (Z : zT) (o0 o1 o2 o3 o4 o5 o6 o7 o8 np : Nat) (th dy me co ca br ml le : Int32) : Unit → va_W := fun (u : Unit) => [(o0, .inr (5, [.int th, .int dy, .int me, .int co, .int (nI np), .int ca, .int br, .int ml, .ref o1, .ref o2, .ref o3, .ref o4, .ref o5, .ref o6, .int le, .ref o7, .ref o8]))]
abbrev po_X5_thrown (Z : zT) (o0 o1 o2 o3 o4 o5 o6 o7 o8 np : Nat) (th dy me co ca br ml le : Int32) : Int32 → Unit → Prop := fun (r : Int32) (u : Unit) => r = th
abbrev rm_X5_thrown : Room := { frames := 0, cells := 0, slots := 0, locals := 0 }
set_option maxHeartbeats 4000000 in
set_option maxRecDepth 100000 in
theorem c_X5_thrown (l : Launch) (Z : zT) (o0 o1 o2 o3 o4 o5 o6 o7 o8 np : Nat) (th dy me co ca br ml le : Int32)  : zMet l yX5_thrown wsX5_thrown rm_X5_thrown [.ref o0] Z [(o0, .inr (5, [.int th, .int dy, .int me, .int co, .int (nI np), .int ca, .int br, .int ml, .ref o1, .ref o2, .ref o3, .ref o4, .ref o5, .ref o6, .int le, .ref o7, .ref o8]))] (zQi Z (po_X5_thrown Z o0 o1 o2 o3 o4 o5 o6 o7 o8 np th dy me co ca br ml le) (wp_X5_thrown Z o0 o1 o2 o3 o4 o5 o6 o7 o8 np th dy me co ca br ml le)) 0 0 := by
  refine zstart (cc := cX5_thrown) (maxL := 1) (ret := (some .int)) (by decide) rfl (Nat.le_of_ble_eq_true rfl) ?_
  intro p e s m below meth c ls A hx hb hr hC hlk hnm hX hW hl
  have hml := hC.2.2.1
  have hown : s.vm.findClass RX5 = some m.cls := hC.2.2.2.1
  have hts := hC.2.2.2.2
  have hl : lv_has ls 1 [(0, .ref o0)] := hl
  refine lv_aload_n hx hb dX5_thrown_0 rfl (lv_at hl 0 rfl) ?_
  refine z_get (C := RX5) (T := TX5) (N := 17) hx hb hts mw_X5_thrown_1 hown hX hW 0 rfl rfl 0 (by decide) mw_X5_thrown_0 (fun _ h9 => h9) rfl dX5_thrown_1 ?_
  exact z_iret hx hb hr hlk hW () (rfl) (rfl) (by omega) (by omega) dX5_thrown_4
