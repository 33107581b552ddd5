theorem mw_X2_moveAt_0 : Cond.methodLink RX2 41 Lib.Math.min.name ∈ wsX2_moveAt := by decide +kernel
theorem mw_X2_moveAt_1 : Cond.static Lib.Math.min.name ∈ wsX2_moveAt := by decide +kernel
theorem mw_X2_moveAt_2 : Cond.initialized "java/lang/Math" ∈ wsX2_moveAt := by decide +kernel
theorem mw_X2_moveAt_3 : Cond.code Lib.Math.min.name Lib.Math.min.code 2 (some .int) ∈ wsX2_moveAt := by decide +kernel
abbrev wp_X2_moveAt (Z : zT) (a b a2 b2 : Nat) (f h : Nat → Int32) (g w : Nat) (q : Int32) : Unit → va_W := fun (u : Unit) => [(a, .inr (2, [.ref b])), (b, zI Z 290 (upd f (g * 10 + w) (f (g * 10 + w) + -mn q (f (g * 10 + w))))), (a2, .inr (2, [.ref b2])), (b2, zI Z 290 (upd h (g * 10 + w) (h (g * 10 + w) + mn q (f (g * 10 + w)))))]
abbrev po_X2_moveAt (Z : zT) (a b a2 b2 : Nat) (f h : Nat → Int32) (g w : Nat) (q : Int32) : Int32 → Unit → Prop := fun (r : Int32) (u : Unit) => r = mn q (f (g * 10 + w))
abbrev rm_X2_moveAt : Room := { frames := 1, cells := 0, slots := 0, locals := 23 }
set_option maxHeartbeats 4000000 in
set_option maxRecDepth 100000 in
theorem c_X2_moveAt (l : Launch) (Z : zT) (a b a2 b2 : Nat) (f h : Nat → Int32) (g w : Nat) (q : Int32) (hg : g < 29) (hw : w < 10) : zMet l yX2_moveAt wsX2_moveAt rm_X2_moveAt [.ref a, .ref a2, .int (nI g), .int (nI w), .int q] Z [(a, .inr (2, [.ref b])), (b, zI Z 290 f), (a2, .inr (2, [.ref b2])), (b2, zI Z 290 h)] (zQi Z (po_X2_moveAt Z a b a2 b2 f h g w q) (wp_X2_moveAt Z a b a2 b2 f h g w q)) 0 0 := by
  refine zstart (cc := cX2_moveAt) (maxL := 6) (ret := (some .int)) (by decide) rfl (Nat.le_of_ble_eq_true rfl) ?_
  intro p e s m below meth c ls A hx hb hr hC hlk hnm hX hW hl
  have hml := hC.2.2.1
  have hown : s.vm.findClass RX2 = some m.cls := hC.2.2.2.1
  have hts := hC.2.2.2.2
  have hl : lv_has ls 6 [(0, .ref a), (1, .ref a2), (2, .int (nI g)), (3, .int (nI w)), (4, .int q)] := hl
  refine lv_iload hx hb dX2_moveAt_0 (lv_at hl 4 rfl) ?_
  refine lv_aload_n hx hb dX2_moveAt_2 rfl (lv_at hl 0 rfl) ?_
  refine lv_iload_n hx hb dX2_moveAt_3 rfl (lv_at hl 2 rfl) ?_
  refine lv_iload_n hx hb dX2_moveAt_4 rfl (lv_at hl 3 rfl) ?_
  refine zc_i (va_runV (As := [.int (nI g), .int (nI w)]) (rest := [.int q]) hC (c_X2_at l Z a b f g w (by omega) (by omega) _) (cwV 2 hts gX2_moveAt_X2_at rfl rfl rfl (by decide +kernel) ⟨Nat.le_of_ble_eq_true rfl, Nat.le_of_ble_eq_true rfl⟩) (zpreV (ci := 2) (q0 := 0) hX hW rfl rfl [0, 1] rfl (by decide)) rfl rfl hl.1 rfl (lv_room (Nat.le_of_ble_eq_true rfl)) dX2_moveAt_5 ⟨Nat.le_of_ble_eq_true rfl, Nat.le_of_ble_eq_true rfl⟩) hX hW [0, 1] rfl (by decide) (fun _ => rfl) (fun r_5 u_5 H locs h_5 hW => ?_)
  have hW : zW Z s A [(a, .inr (2, [.ref b])), (b, zI Z 290 f), (a2, .inr (2, [.ref b2])), (b2, zI Z 290 h)] _ _ := hW
  subst h_5
  refine va_mmin hx hb (hml.trans hl.1.symm) hown (hts _ mw_X2_moveAt_0) (hts _ mw_X2_moveAt_1) (hts _ mw_X2_moveAt_2) (hts _ mw_X2_moveAt_3) (Nat.le_of_ble_eq_true rfl) (Nat.le_of_ble_eq_true rfl) (Nat.le_of_ble_eq_true rfl) (Nat.le_of_ble_eq_true rfl) dX2_moveAt_8 ?_
  refine zw_topi (y := (mn q (f (g * 10 + w)))) (rfl) ?_
  refine lv_istore (lv' := [(5, .int (mn q (f (g * 10 + w)))), (0, .ref a), (1, .ref a2), (2, .int (nI g)), (3, .int (nI w)), (4, .int q)]) hx hb dX2_moveAt_11 hl (by decide) rfl (fun ls hl => ?_)
  refine lv_aload_n hx hb dX2_moveAt_13 rfl (lv_at hl 1 rfl) ?_
  refine lv_iload_n hx hb dX2_moveAt_14 rfl (lv_at hl 3 rfl) ?_
  refine lv_iload_n hx hb dX2_moveAt_15 rfl (lv_at hl 4 rfl) ?_
  refine lv_iload hx hb dX2_moveAt_16 (lv_at hl 0 rfl) ?_
  refine lv_ineg hx hb dX2_moveAt_18 ?_
  refine zc_v (va_runV (As := [.int (nI g), .int (nI w), .int (-(mn q (f (g * 10 + w))))]) (rest := []) hC (c_X2_change l Z a b f g w (-(mn q (f (g * 10 + w)))) (by omega) (by omega) _) (cwV 3 hts gX2_moveAt_X2_change rfl rfl rfl (by decide +kernel) ⟨Nat.le_of_ble_eq_true rfl, Nat.le_of_ble_eq_true rfl⟩) (zpreV (ci := 2) (q0 := 0) hX hW rfl rfl [0, 1] rfl (by decide)) rfl rfl hl.1 rfl (lv_room (Nat.le_of_ble_eq_true rfl)) dX2_moveAt_19 ⟨Nat.le_of_ble_eq_true rfl, Nat.le_of_ble_eq_true rfl⟩) hX hW [0, 1] rfl (by decide) (fun _ => rfl) (fun u_19 H locs h_19 hW => ?_)
  have hW : zW Z s A [(a, .inr (2, [.ref b])), (b, zI Z 290 (upd f (g * 10 + w) (f (g * 10 + w) + (-(mn q (f (g * 10 + w))))))), (a2, .inr (2, [.ref b2])), (b2, zI Z 290 h)] _ _ := hW
  refine lv_aload_n hx hb dX2_moveAt_22 rfl (lv_at hl 2 rfl) ?_
  refine lv_iload_n hx hb dX2_moveAt_23 rfl (lv_at hl 3 rfl) ?_
  refine lv_iload_n hx hb dX2_moveAt_24 rfl (lv_at hl 4 rfl) ?_
  refine lv_iload hx hb dX2_moveAt_25 (lv_at hl 0 rfl) ?_
  refine zc_v (va_runV (As := [.int (nI g), .int (nI w), .int (mn q (f (g * 10 + w)))]) (rest := []) hC (c_X2_change l Z a2 b2 h g w (mn q (f (g * 10 + w))) (by omega) (by omega) _) (cwV 3 hts gX2_moveAt_X2_change rfl rfl rfl (by decide +kernel) ⟨Nat.le_of_ble_eq_true rfl, Nat.le_of_ble_eq_true rfl⟩) (zpreV (ci := 2) (q0 := 2) hX hW rfl rfl [2, 3] rfl (by decide)) rfl rfl hl.1 rfl (lv_room (Nat.le_of_ble_eq_true rfl)) dX2_moveAt_27 ⟨Nat.le_of_ble_eq_true rfl, Nat.le_of_ble_eq_true rfl⟩) hX hW [2, 3] rfl (by decide) (fun _ => rfl) (fun u_27 H locs h_27 hW => ?_)
  have hW : zW Z s A [(a, .inr (2, [.ref b])), (b, zI Z 290 (upd f (g * 10 + w) (f (g * 10 + w) + (-(mn q (f (g * 10 + w))))))), (a2, .inr (2, [.ref b2])), (b2, zI Z 290 (upd h (g * 10 + w) (h (g * 10 + w) + (mn q (f (g * 10 + w))))))] _ _ := hW
  refine lv_iload hx hb dX2_moveAt_30 (lv_at hl 0 rfl) ?_
  exact z_iret hx hb hr hlk hW () (rfl) (rfl) (by omega) (by omega) dX2_moveAt_32
