theorem mw_X3_letterAt_0 : Cond.fieldLink RX3 15 "TypeFoundry$Word" "firstPlace" "I" ∈ wsX3_letterAt := by decide +kernel
theorem mw_X3_letterAt_1 : ∀ w ∈ wsX30, w ∈ wsX3_letterAt := by decide +kernel
theorem mw_X3_letterAt_2 : Cond.fieldLink RX3 9 "TypeFoundry$Word" "letters" "[I" ∈ wsX3_letterAt := by decide +kernel
abbrev wp_X3_letterAt (Z : zT) (a b : Nat) (L : Nat → Int32) (k pl : Nat) : Unit → va_W := fun (u : Unit) => [(a, .inr (3, [.ref b, .int (nI (6 - k))])), (b, zI Z 6 L)]
abbrev po_X3_letterAt (Z : zT) (a b : Nat) (L : Nat → Int32) (k pl : Nat) : Int32 → Unit → Prop := fun (r : Int32) (u : Unit) => r = if pl < 6 then L pl else -1
abbrev rm_X3_letterAt : Room := { frames := 0, cells := 0, slots := 0, locals := 0 }
set_option maxHeartbeats 4000000 in
set_option maxRecDepth 100000 in
theorem c_X3_letterAt (l : Launch) (Z : zT) (a b : Nat) (L : Nat → Int32) (k pl : Nat) (hk : 6 - k ≤ pl ∧ pl ≤ 6) : zMet l yX3_letterAt wsX3_letterAt rm_X3_letterAt [.ref a, .int (nI pl)] Z [(a, .inr (3, [.ref b, .int (nI (6 - k))])), (b, zI Z 6 L)] (zQi Z (po_X3_letterAt Z a b L k pl) (wp_X3_letterAt Z a b L k pl)) 0 0 := by
  refine zstart (cc := cX3_letterAt) (maxL := 2) (ret := (some .int)) (by decide) rfl (Nat.le_of_ble_eq_true rfl) ?_
  intro p e s m below meth c ls A hx hb hr hC hlk hnm hX hW hl
  have hml := hC.2.2.1
  have hown : s.vm.findClass RX3 = some m.cls := hC.2.2.2.1
  have hts := hC.2.2.2.2
  have hl : lv_has ls 2 [(0, .ref a), (1, .int (nI pl))] := hl
  refine lv_iload_n hx hb dX3_letterAt_0 rfl (lv_at hl 1 rfl) ?_
  refine zn_if_lt (tgt := 18) (a := pl) hx hb (by omega) dX3_letterAt_1 (by decide) ?_
  refine lv_iload_n hx hb dX3_letterAt_4 rfl (lv_at hl 1 rfl) ?_
  refine lv_aload_n hx hb dX3_letterAt_5 rfl (lv_at hl 0 rfl) ?_
  refine z_get (C := RX3) (T := TX3) (N := 2) hx hb hts mw_X3_letterAt_1 hown hX hW 0 rfl rfl 1 (by decide) mw_X3_letterAt_0 (fun _ h9 => h9) rfl dX3_letterAt_6 ?_
  refine zn_icmp_lt (tgt := 18) (a := pl) (b := (6 - k)) hx hb (by omega) (by omega) dX3_letterAt_9 (by decide) (fun c_9 => absurd c_9 (by omega)) (fun c_9 => ?_)
  refine lv_iload_n hx hb dX3_letterAt_12 rfl (lv_at hl 1 rfl) ?_
  refine lv_bipush (v := nI 6) hx hb dX3_letterAt_13 (by decide) ?_
  refine zn_icmp_lt (tgt := 20) (a := pl) (b := 6) hx hb (by omega) (by omega) dX3_letterAt_15 (by decide) (fun c_15 => ?_) (fun c_15 => ?_)
  · refine lv_aload_n hx hb dX3_letterAt_20 rfl (lv_at hl 0 rfl) ?_
    refine z_get (C := RX3) (T := TX3) (N := 2) hx hb hts mw_X3_letterAt_1 hown hX hW 0 rfl rfl 0 (by decide) mw_X3_letterAt_2 (fun _ h9 => h9) rfl dX3_letterAt_21 ?_
    refine lv_iload_n hx hb dX3_letterAt_24 rfl (lv_at hl 1 rfl) ?_
    refine z_iald hx hb hX hW 1 rfl (k := pl) (by omega) (by omega) dX3_letterAt_25 ?_
    exact z_iret hx hb hr hlk hW () (by unfold po_X3_letterAt; rw [if_pos c_15]) (rfl) (by omega) (by omega) dX3_letterAt_26
  · refine lv_iconst (v := -1) hx hb dX3_letterAt_18 (by decide) ?_
    exact z_iret hx hb hr hlk hW () (by unfold po_X3_letterAt; rw [if_neg c_15]) (rfl) (by omega) (by omega) dX3_letterAt_19
