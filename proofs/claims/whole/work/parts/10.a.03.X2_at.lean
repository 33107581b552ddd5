theorem mw_X2_at_0 : Cond.fieldLink RX2 9 "TypeFoundry$Sorts" "numbers" "[I" ∈ wsX2_at := by decide +kernel
theorem mw_X2_at_1 : ∀ w ∈ wsX20, w ∈ wsX2_at := by decide +kernel
abbrev wp_X2_at (Z : zT) (a b : Nat) (f : Nat → Int32) (g w : Nat) : Unit → va_W := fun (u : Unit) => [(a, .inr (2, [.ref b])), (b, zI Z 290 f)]
abbrev po_X2_at (Z : zT) (a b : Nat) (f : Nat → Int32) (g w : Nat) : Int32 → Unit → Prop := fun (r : Int32) (u : Unit) => r = f (g * 10 + w)
abbrev rm_X2_at : Room := { frames := 0, cells := 0, slots := 0, locals := 0 }
set_option maxHeartbeats 4000000 in
set_option maxRecDepth 100000 in
theorem c_X2_at (l : Launch) (Z : zT) (a b : Nat) (f : Nat → Int32) (g w : Nat) (hg : g < 29) (hw : w < 10) : zMet l yX2_at wsX2_at rm_X2_at [.ref a, .int (nI g), .int (nI w)] Z [(a, .inr (2, [.ref b])), (b, zI Z 290 f)] (zQi Z (po_X2_at Z a b f g w) (wp_X2_at Z a b f g w)) 0 0 := by
  refine zstart (cc := cX2_at) (maxL := 3) (ret := (some .int)) (by decide) rfl (Nat.le_of_ble_eq_true rfl) ?_
  intro p e s m below meth c ls A hx hb hr hC hlk hnm hX hW hl
  have hml := hC.2.2.1
  have hown : s.vm.findClass RX2 = some m.cls := hC.2.2.2.1
  have hts := hC.2.2.2.2
  have hl : lv_has ls 3 [(0, .ref a), (1, .int (nI g)), (2, .int (nI w))] := hl
  refine lv_iload_n hx hb dX2_at_0 rfl (lv_at hl 1 rfl) ?_
  refine zn_if_lt (tgt := 20) (a := g) hx hb (by omega) dX2_at_1 (by decide) ?_
  refine lv_iload_n hx hb dX2_at_4 rfl (lv_at hl 1 rfl) ?_
  refine lv_bipush (v := nI 29) hx hb dX2_at_5 (by decide) ?_
  refine zn_icmp_ge (tgt := 20) (a := g) (b := 29) hx hb (by omega) (by omega) dX2_at_7 (by decide) (fun c_7 => absurd c_7 (by omega)) (fun c_7 => ?_)
  refine lv_iload_n hx hb dX2_at_10 rfl (lv_at hl 2 rfl) ?_
  refine zn_if_lt (tgt := 20) (a := w) hx hb (by omega) dX2_at_11 (by decide) ?_
  refine lv_iload_n hx hb dX2_at_14 rfl (lv_at hl 2 rfl) ?_
  refine lv_bipush (v := nI 10) hx hb dX2_at_15 (by decide) ?_
  refine zn_icmp_lt (tgt := 22) (a := w) (b := 10) hx hb (by omega) (by omega) dX2_at_17 (by decide) (fun c_17 => ?_) (fun c_17 => absurd (by omega) c_17)
  refine lv_aload_n hx hb dX2_at_22 rfl (lv_at hl 0 rfl) ?_
  refine z_get (C := RX2) (T := TX2) (N := 1) hx hb hts mw_X2_at_1 hown hX hW 0 rfl rfl 0 (by decide) mw_X2_at_0 (fun _ h9 => h9) rfl dX2_at_23 ?_
  refine lv_iload_n hx hb dX2_at_26 rfl (lv_at hl 1 rfl) ?_
  refine lv_bipush (v := nI 10) hx hb dX2_at_27 (by decide) ?_
  refine lv_imul hx hb dX2_at_29 ?_
  refine zw_topi (pk_mul _ _) ?_
  refine lv_iload_n hx hb dX2_at_30 rfl (lv_at hl 2 rfl) ?_
  refine lv_iadd hx hb dX2_at_31 ?_
  refine zw_topi (nI_add _ _) ?_
  refine z_iald hx hb hX hW 1 rfl (k := ((g * 10) + w)) (by omega) (by omega) dX2_at_32 ?_
  exact z_iret hx hb hr hlk hW () (rfl) (rfl) (by omega) (by omega) dX2_at_33
