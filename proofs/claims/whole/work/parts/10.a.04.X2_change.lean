theorem mw_X2_change_0 : Cond.fieldLink RX2 9 "TypeFoundry$Sorts" "numbers" "[I" ∈ wsX2_change := by decide +kernel
theorem mw_X2_change_1 : ∀ w ∈ wsX20, w ∈ wsX2_change := by decide +kernel
abbrev wp_X2_change (Z : zT) (a b : Nat) (f : Nat → Int32) (g w : Nat) (by1 : Int32) : Unit → va_W := fun (u : Unit) => [(a, .inr (2, [.ref b])), (b, zI Z 290 (upd f (g * 10 + w) (f (g * 10 + w) + by1)))]
abbrev po_X2_change (Z : zT) (a b : Nat) (f : Nat → Int32) (g w : Nat) (by1 : Int32) : Unit → Prop := fun (u : Unit) => True
abbrev rm_X2_change : Room := { frames := 0, cells := 0, slots := 0, locals := 0 }
set_option maxHeartbeats 4000000 in
set_option maxRecDepth 100000 in
theorem c_X2_change (l : Launch) (Z : zT) (a b : Nat) (f : Nat → Int32) (g w : Nat) (by1 : Int32) (hg : g < 29) (hw : w < 10) : zMet l yX2_change wsX2_change rm_X2_change [.ref a, .int (nI g), .int (nI w), .int by1] Z [(a, .inr (2, [.ref b])), (b, zI Z 290 f)] (zQv Z (po_X2_change Z a b f g w by1) (wp_X2_change Z a b f g w by1)) 0 0 := by
  refine zstart (cc := cX2_change) (maxL := 4) (ret := none) (by decide) rfl (Nat.le_of_ble_eq_true rfl) ?_
  intro p e s m below meth c ls A hx hb hr hC hlk hnm hX hW hl
  have hml := hC.2.2.1
  have hown : s.vm.findClass RX2 = some m.cls := hC.2.2.2.1
  have hts := hC.2.2.2.2
  have hl : lv_has ls 4 [(0, .ref a), (1, .int (nI g)), (2, .int (nI w)), (3, .int by1)] := hl
  refine lv_iload_n hx hb dX2_change_0 rfl (lv_at hl 1 rfl) ?_
  refine zn_if_lt (tgt := 20) (a := g) hx hb (by omega) dX2_change_1 (by decide) ?_
  refine lv_iload_n hx hb dX2_change_4 rfl (lv_at hl 1 rfl) ?_
  refine lv_bipush (v := nI 29) hx hb dX2_change_5 (by decide) ?_
  refine zn_icmp_ge (tgt := 20) (a := g) (b := 29) hx hb (by omega) (by omega) dX2_change_7 (by decide) (fun c_7 => absurd c_7 (by omega)) (fun c_7 => ?_)
  refine lv_iload_n hx hb dX2_change_10 rfl (lv_at hl 2 rfl) ?_
  refine zn_if_lt (tgt := 20) (a := w) hx hb (by omega) dX2_change_11 (by decide) ?_
  refine lv_iload_n hx hb dX2_change_14 rfl (lv_at hl 2 rfl) ?_
  refine lv_bipush (v := nI 10) hx hb dX2_change_15 (by decide) ?_
  refine zn_icmp_lt (tgt := 21) (a := w) (b := 10) hx hb (by omega) (by omega) dX2_change_17 (by decide) (fun c_17 => ?_) (fun c_17 => absurd (by omega) c_17)
  refine lv_aload_n hx hb dX2_change_21 rfl (lv_at hl 0 rfl) ?_
  refine z_get (C := RX2) (T := TX2) (N := 1) hx hb hts mw_X2_change_1 hown hX hW 0 rfl rfl 0 (by decide) mw_X2_change_0 (fun _ h9 => h9) rfl dX2_change_22 ?_
  refine lv_iload_n hx hb dX2_change_25 rfl (lv_at hl 1 rfl) ?_
  refine lv_bipush (v := nI 10) hx hb dX2_change_26 (by decide) ?_
  refine lv_imul hx hb dX2_change_28 ?_
  refine zw_topi (pk_mul _ _) ?_
  refine lv_iload_n hx hb dX2_change_29 rfl (lv_at hl 2 rfl) ?_
  refine lv_iadd hx hb dX2_change_30 ?_
  refine zw_topi (nI_add _ _) ?_
  refine lv_dup2_11 hx hb dX2_change_31 rfl rfl ?_
  refine z_iald hx hb hX hW 1 rfl (k := ((g * 10) + w)) (by omega) (by omega) dX2_change_32 ?_
  refine lv_iload_n hx hb dX2_change_33 rfl (lv_at hl 3 rfl) ?_
  refine lv_iadd hx hb dX2_change_34 ?_
  refine z_iast hx hb hX hW 1 rfl (k := ((g * 10) + w)) (by omega) (by omega) dX2_change_35 (fun H locs hW => ?_)
  have hW : zW Z s A [(a, .inr (2, [.ref b])), (b, zI Z 290 (upd f ((g * 10) + w) ((f ((g * 10) + w)) + by1)))] _ _ := hW
  exact z_vret hx hb hr hlk hW () (trivial) (rfl) (by omega) (by omega) dX2_change_36
