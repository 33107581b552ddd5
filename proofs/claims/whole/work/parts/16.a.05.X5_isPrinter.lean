theorem mw_X5_isPrinter_0 : Cond.fieldLink RX5 41 "TypeFoundryModel" "printers" "I" ∈ wsX5_isPrinter := by decide +kernel
theorem mw_X5_isPrinter_1 : ∀ w ∈ wsX50, w ∈ wsX5_isPrinter := by decide +kernel
abbrev wp_X5_isPrinter (Z : zT) (o0 o1 o2 o3 o4 o5 o6 o7 o8 np : Nat) (th dy me co ca br ml le : Int32) (v : Int32) : Unit → va_W := fun (u : Unit) => [(o0, .inr (5, [.int th, .int dy, .int me, .int co, .int (nI np), .int ca, .int br, .int ml, .ref o1, .ref o2, .ref o3, .ref o4, .ref o5, .ref o6, .int le, .ref o7, .ref o8]))]
abbrev po_X5_isPrinter (Z : zT) (o0 o1 o2 o3 o4 o5 o6 o7 o8 np : Nat) (th dy me co ca br ml le : Int32) (v : Int32) : Int32 → Unit → Prop := fun (r : Int32) (u : Unit) => r = bI (isP v np)
abbrev rm_X5_isPrinter : Room := { frames := 1, cells := 0, slots := 0, locals := 22 }
set_option maxHeartbeats 4000000 in
set_option maxRecDepth 100000 in
theorem c_X5_isPrinter (l : Launch) (Z : zT) (o0 o1 o2 o3 o4 o5 o6 o7 o8 np : Nat) (th dy me co ca br ml le : Int32) (v : Int32) (hnp : np ≤ 6) : zMet l yX5_isPrinter wsX5_isPrinter rm_X5_isPrinter [.ref o0, .int v] Z [(o0, .inr (5, [.int th, .int dy, .int me, .int co, .int (nI np), .int ca, .int br, .int ml, .ref o1, .ref o2, .ref o3, .ref o4, .ref o5, .ref o6, .int le, .ref o7, .ref o8]))] (zQi Z (po_X5_isPrinter Z o0 o1 o2 o3 o4 o5 o6 o7 o8 np th dy me co ca br ml le v) (wp_X5_isPrinter Z o0 o1 o2 o3 o4 o5 o6 o7 o8 np th dy me co ca br ml le v)) 0 0 := by
  refine zstart (cc := cX5_isPrinter) (maxL := 2) (ret := (some .boolean)) (by decide) rfl (Nat.le_of_ble_eq_true rfl) ?_
  intro p e s m below meth c ls A hx hb hr hC hlk hnm hX hW hl
  have hml := hC.2.2.1
  have hown : s.vm.findClass RX5 = some m.cls := hC.2.2.2.1
  have hts := hC.2.2.2.2
  have hl : lv_has ls 2 [(0, .ref o0), (1, .int v)] := hl
  refine lv_iload_n hx hb dX5_isPrinter_0 rfl (lv_at hl 1 rfl) ?_
  refine lv_iconst (v := nI 0) hx hb dX5_isPrinter_1 (by decide) ?_
  refine lv_aload_n hx hb dX5_isPrinter_2 rfl (lv_at hl 0 rfl) ?_
  refine z_get (C := RX5) (T := TX5) (N := 17) hx hb hts mw_X5_isPrinter_1 hown hX hW 0 rfl rfl 4 (by decide) mw_X5_isPrinter_0 (fun _ h9 => h9) rfl dX5_isPrinter_3 ?_
  refine lv_iconst (v := nI 1) hx hb dX5_isPrinter_6 (by decide) ?_
  refine lv_isub hx hb dX5_isPrinter_7 ?_
  refine zc_i (va_runS (As := [.int v, .int (nI 0), .int ((nI np) - (nI 1))]) (rest := []) hC (c_X5_isIn l Z v (nI 0) ((nI np) - (nI 1))  _) (va_cwS 3 hts gX5_isPrinter_X5_isIn rfl rfl rfl (by decide +kernel) ⟨Nat.le_of_ble_eq_true rfl, Nat.le_of_ble_eq_true rfl⟩) (zpreS hX hW [] rfl (by decide)) rfl rfl hl.1 rfl (lv_room (Nat.le_of_ble_eq_true rfl)) dX5_isPrinter_8 ⟨Nat.le_of_ble_eq_true rfl, Nat.le_of_ble_eq_true rfl⟩) hX hW [] rfl (by decide) (fun _ => rfl) (fun r_8 u_8 H locs h_8 hW => ?_)
  have hW : zW Z s A [(o0, .inr (5, [.int th, .int dy, .int me, .int co, .int (nI np), .int ca, .int br, .int ml, .ref o1, .ref o2, .ref o3, .ref o4, .ref o5, .ref o6, .int le, .ref o7, .ref o8]))] _ _ := hW
  subst h_8
  exact z_zret hx hb hr hlk (bI_z _) hW () (by unfold po_X5_isPrinter; exact congrArg bI (propext (isP_iff hnp))) (rfl) (by omega) (by omega) dX5_isPrinter_11
