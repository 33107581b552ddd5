theorem mw_X1_fillWithoutEnd_0 : Cond.fieldLink RX1 9 "TypeFoundry$Setting" "left" "[I" ∈ wsX1_fillWithoutEnd := by decide +kernel
theorem mw_X1_fillWithoutEnd_1 : ∀ w ∈ wsX10, w ∈ wsX1_fillWithoutEnd := by decide +kernel
abbrev wp_X1_fillWithoutEnd (Z : zT) (z zl zt : Nat) (lf tk : Nat → Int32) : Unit → va_W := fun (u : Unit) => [(z, .inr (1, [.ref zl, .ref zt])), (zl, zI Z 29 (fun _ => nI 100)), (zt, zI Z 29 tk)]
abbrev po_X1_fillWithoutEnd (Z : zT) (z zl zt : Nat) (lf tk : Nat → Int32) : Unit → Prop := fun (u : Unit) => True
abbrev rm_X1_fillWithoutEnd : Room := { frames := 1, cells := 0, slots := 0, locals := 23 }
set_option maxHeartbeats 4000000 in
set_option maxRecDepth 100000 in
theorem c_X1_fillWithoutEnd (l : Launch) (Z : zT) (z zl zt : Nat) (lf tk : Nat → Int32)  : zMet l yX1_fillWithoutEnd wsX1_fillWithoutEnd rm_X1_fillWithoutEnd [.ref z] Z [(z, .inr (1, [.ref zl, .ref zt])), (zl, zI Z 29 lf), (zt, zI Z 29 tk)] (zQv Z (po_X1_fillWithoutEnd Z z zl zt lf tk) (wp_X1_fillWithoutEnd Z z zl zt lf tk)) 0 0 := by
  refine zstart (cc := cX1_fillWithoutEnd) (maxL := 1) (ret := none) (by decide) rfl (Nat.le_of_ble_eq_true rfl) ?_
  intro p e s m below meth c ls A hx hb hr hC hlk hnm hX hW hl
  have hml := hC.2.2.1
  have hown : s.vm.findClass RX1 = some m.cls := hC.2.2.2.1
  have hts := hC.2.2.2.2
  have hl : lv_has ls 1 [(0, .ref z)] := hl
  refine lv_aload_n hx hb dX1_fillWithoutEnd_0 rfl (lv_at hl 0 rfl) ?_
  refine z_get (C := RX1) (T := TX1) (N := 2) hx hb hts mw_X1_fillWithoutEnd_1 hown hX hW 0 rfl rfl 0 (by decide) mw_X1_fillWithoutEnd_0 (fun _ h9 => h9) rfl dX1_fillWithoutEnd_1 ?_
  refine lv_bipush (v := nI 100) hx hb dX1_fillWithoutEnd_4 (by decide) ?_
  refine zc_v (va_runS (As := [.ref zl, .int (nI 100)]) (rest := []) hC (c_J7_fill_53178 l Z zl lf (nI 100)  _) (va_cwS 2 hts gX1_fillWithoutEnd_J7_fill_53178 rfl rfl rfl (by decide +kernel) ⟨Nat.le_of_ble_eq_true rfl, Nat.le_of_ble_eq_true rfl⟩) (zpreS hX hW [1] rfl (by decide)) rfl rfl hl.1 rfl (lv_room (Nat.le_of_ble_eq_true rfl)) dX1_fillWithoutEnd_6 ⟨Nat.le_of_ble_eq_true rfl, Nat.le_of_ble_eq_true rfl⟩) hX hW [1] rfl (by decide) (fun _ => rfl) (fun u_6 H locs h_6 hW => ?_)
  have hW : zW Z s A [(z, .inr (1, [.ref zl, .ref zt])), (zl, zI Z 29 (fun _ => (nI 100))), (zt, zI Z 29 tk)] _ _ := hW
  exact z_vret hx hb hr hlk hW () (trivial) (rfl) (by omega) (by omega) dX1_fillWithoutEnd_9
