abbrev wp_X5_price (Z : zT) (g : Nat) : Unit → va_W := fun (u : Unit) => []
abbrev po_X5_price (Z : zT) (g : Nat) : Int32 → Unit → Prop := fun (r : Int32) (u : Unit) => r = pr3 g
abbrev rm_X5_price : Room := { frames := 0, cells := 0, slots := 0, locals := 0 }
set_option maxHeartbeats 4000000 in
set_option maxRecDepth 100000 in
theorem c_X5_price (l : Launch) (Z : zT) (g : Nat) (hg : g < 29) : zMet l yX5_price wsX5_price rm_X5_price [.int (nI g)] Z [] (zQi Z (po_X5_price Z g) (wp_X5_price Z g)) 0 0 := by
  refine zstart (cc := cX5_price) (maxL := 1) (ret := (some .int)) (by decide) rfl (Nat.le_of_ble_eq_true rfl) ?_
  intro p e s m below meth c ls A hx hb hr hC hlk hnm hX hW hl
  have hml := hC.2.2.1
  have hown : s.vm.findClass RX5 = some m.cls := hC.2.2.2.1
  have hts := hC.2.2.2.2
  have hl : lv_has ls 1 [(0, .int (nI g))] := hl
  refine lv_iload_n hx hb dX5_price_0 rfl (lv_at hl 0 rfl) ?_
  refine lv_bipush (v := nI 26) hx hb dX5_price_1 (by decide) ?_
  refine zn_icmp_ge (tgt := 10) (a := g) (b := 26) hx hb (by omega) (by omega) dX5_price_3 (by decide) (fun c_3 => ?_) (fun c_3 => ?_)
  · refine lv_iconst (v := nI 3) hx hb dX5_price_10 (by decide) ?_
    exact z_iret hx hb hr hlk hW () (by first | exact pr3_f (by omega) | exact pr3_t (by omega)) (rfl) (by omega) (by omega) dX5_price_11
  · refine lv_iconst (v := nI 2) hx hb dX5_price_6 (by decide) ?_
    refine lv_goto (tgt := 11) hx hb dX5_price_7 (by decide) ?_
    exact z_iret hx hb hr hlk hW () (by first | exact pr3_f (by omega) | exact pr3_t (by omega)) (rfl) (by omega) (by omega) dX5_price_11
