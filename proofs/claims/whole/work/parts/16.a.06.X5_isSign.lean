abbrev wp_X5_isSign (Z : zT) (v : Int32) : Unit → va_W := fun (u : Unit) => []
abbrev po_X5_isSign (Z : zT) (v : Int32) : Int32 → Unit → Prop := fun (r : Int32) (u : Unit) => r = bI (isS v)
abbrev rm_X5_isSign : Room := { frames := 1, cells := 0, slots := 0, locals := 22 }
set_option maxHeartbeats 4000000 in
set_option maxRecDepth 100000 in
theorem c_X5_isSign (l : Launch) (Z : zT) (v : Int32)  : zMet l yX5_isSign wsX5_isSign rm_X5_isSign [.int v] Z [] (zQi Z (po_X5_isSign Z v) (wp_X5_isSign Z v)) 0 0 := by
  refine zstart (cc := cX5_isSign) (maxL := 1) (ret := (some .boolean)) (by decide) rfl (Nat.le_of_ble_eq_true rfl) ?_
  intro p e s m below meth c ls A hx hb hr hC hlk hnm hX hW hl
  have hml := hC.2.2.1
  have hown : s.vm.findClass RX5 = some m.cls := hC.2.2.2.1
  have hts := hC.2.2.2.2
  have hl : lv_has ls 1 [(0, .int v)] := hl
  refine lv_iload_n hx hb dX5_isSign_0 rfl (lv_at hl 0 rfl) ?_
  refine lv_iconst (v := nI 0) hx hb dX5_isSign_1 (by decide) ?_
  refine lv_bipush (v := nI 28) hx hb dX5_isSign_2 (by decide) ?_
  refine zc_i (va_runS (As := [.int v, .int (nI 0), .int (nI 28)]) (rest := []) hC (c_X5_isIn l Z v (nI 0) (nI 28)  _) (va_cwS 3 hts gX5_isSign_X5_isIn rfl rfl rfl (by decide +kernel) ⟨Nat.le_of_ble_eq_true rfl, Nat.le_of_ble_eq_true rfl⟩) (zpreS hX hW [] rfl (by decide)) rfl rfl hl.1 rfl (lv_room (Nat.le_of_ble_eq_true rfl)) dX5_isSign_4 ⟨Nat.le_of_ble_eq_true rfl, Nat.le_of_ble_eq_true rfl⟩) hX hW [] rfl (by decide) (fun _ => rfl) (fun r_4 u_4 H locs h_4 hW => ?_)
  have hW : zW Z s A [] _ _ := hW
  subst h_4
  exact z_zret hx hb hr hlk (bI_z _) hW () (by unfold po_X5_isSign; exact congrArg bI (propext (zin_iff (n := 28) (by omega)))) (rfl) (by omega) (by omega) dX5_isSign_7
