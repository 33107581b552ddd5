theorem mw_X3_firstPlace_0 : Cond.fieldLink RX3 15 "TypeFoundry$Word" "firstPlace" "I" ∈ wsX3_firstPlace := by decide +kernel
theorem mw_X3_firstPlace_1 : ∀ w ∈ wsX30, w ∈ wsX3_firstPlace := by decide +kernel
abbrev wp_X3_firstPlace (Z : zT) (a b : Nat) (L : Nat → Int32) (fp : Nat) : Unit → va_W := fun (u : Unit) => [(a, .inr (3, [.ref b, .int (nI fp)])), (b, zI Z 6 L)]
abbrev po_X3_firstPlace (Z : zT) (a b : Nat) (L : Nat → Int32) (fp : Nat) : Int32 → Unit → Prop := fun (r : Int32) (u : Unit) => r = nI fp
abbrev rm_X3_firstPlace : Room := { frames := 0, cells := 0, slots := 0, locals := 0 }
set_option maxHeartbeats 4000000 in
set_option maxRecDepth 100000 in
theorem c_X3_firstPlace (l : Launch) (Z : zT) (a b : Nat) (L : Nat → Int32) (fp : Nat)  : zMet l yX3_firstPlace wsX3_firstPlace rm_X3_firstPlace [.ref a] Z [(a, .inr (3, [.ref b, .int (nI fp)])), (b, zI Z 6 L)] (zQi Z (po_X3_firstPlace Z a b L fp) (wp_X3_firstPlace Z a b L fp)) 0 0 := by
  refine zstart (cc := cX3_firstPlace) (maxL := 1) (ret := (some .int)) (by decide) rfl (Nat.le_of_ble_eq_true rfl) ?_
  intro p e s m below meth c ls A hx hb hr hC hlk hnm hX hW hl
  have hml := hC.2.2.1
  have hown : s.vm.findClass RX3 = some m.cls := hC.2.2.2.1
  have hts := hC.2.2.2.2
  have hl : lv_has ls 1 [(0, .ref a)] := hl
  refine lv_aload_n hx hb dX3_firstPlace_0 rfl (lv_at hl 0 rfl) ?_
  refine z_get (C := RX3) (T := TX3) (N := 2) hx hb hts mw_X3_firstPlace_1 hown hX hW 0 rfl rfl 1 (by decide) mw_X3_firstPlace_0 (fun _ h9 => h9) rfl dX3_firstPlace_1 ?_
  exact z_iret hx hb hr hlk hW () (rfl) (rfl) (by omega) (by omega) dX3_firstPlace_4
