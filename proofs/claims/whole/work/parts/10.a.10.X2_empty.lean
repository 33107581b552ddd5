abbrev wp_X2_empty (Z : zT) (a b : Nat) (f : Nat → Int32) (g w : Nat) : Unit → va_W := fun (u : Unit) => [(a, .inr (2, [.ref b])), (b, zI Z 290 (upd f (g * 10 + w) (f (g * 10 + w) + -f (g * 10 + w))))]
abbrev po_X2_empty (Z : zT) (a b : Nat) (f : Nat → Int32) (g w : Nat) : Int32 → Unit → Prop := fun (r : Int32) (u : Unit) => r = f (g * 10 + w)
abbrev rm_X2_empty : Room := { frames := 1, cells := 0, slots := 0, locals := 23 }
set_option maxHeartbeats 4000000 in
set_option maxRecDepth 100000 in
theorem c_X2_empty (l : Launch) (Z : zT) (a b : Nat) (f : Nat → Int32) (g w : Nat) (hg : g < 29) (hw : w < 10) : zMet l yX2_empty wsX2_empty rm_X2_empty [.ref a, .int (nI g), .int (nI w)] Z [(a, .inr (2, [.ref b])), (b, zI Z 290 f)] (zQi Z (po_X2_empty Z a b f g w) (wp_X2_empty Z a b f g w)) 0 0 := by
  refine zstart (cc := cX2_empty) (maxL := 4) (ret := (some .int)) (by decide) rfl (Nat.le_of_ble_eq_true rfl) ?_
  intro p e s m below meth c ls A hx hb hr hC hlk hnm hX hW hl
  have hml := hC.2.2.1
  have hown : s.vm.findClass RX2 = some m.cls := hC.2.2.2.1
  have hts := hC.2.2.2.2
  have hl : lv_has ls 4 [(0, .ref a), (1, .int (nI g)), (2, .int (nI w))] := hl
  refine lv_aload_n hx hb dX2_empty_0 rfl (lv_at hl 0 rfl) ?_
  refine lv_iload_n hx hb dX2_empty_1 rfl (lv_at hl 1 rfl) ?_
  refine lv_iload_n hx hb dX2_empty_2 rfl (lv_at hl 2 rfl) ?_
  refine zc_i (va_runV (As := [.int (nI g), .int (nI w)]) (rest := []) hC (c_X2_at l Z a b f g w (by omega) (by omega) _) (cwV 2 hts gX2_empty_X2_at rfl rfl rfl (by decide +kernel) ⟨Nat.le_of_ble_eq_true rfl, Nat.le_of_ble_eq_true rfl⟩) (zpreV (ci := 2) (q0 := 0) hX hW rfl rfl [0, 1] rfl (by decide)) rfl rfl hl.1 rfl (lv_room (Nat.le_of_ble_eq_true rfl)) dX2_empty_3 ⟨Nat.le_of_ble_eq_true rfl, Nat.le_of_ble_eq_true rfl⟩) hX hW [0, 1] rfl (by decide) (fun _ => rfl) (fun r_3 u_3 H locs h_3 hW => ?_)
  have hW : zW Z s A [(a, .inr (2, [.ref b])), (b, zI Z 290 f)] _ _ := hW
  subst h_3
  refine lv_istore_n (lv' := [(3, .int (f (g * 10 + w))), (0, .ref a), (1, .int (nI g)), (2, .int (nI w))]) hx hb dX2_empty_6 rfl hl (by decide) rfl (fun ls hl => ?_)
  refine lv_aload_n hx hb dX2_empty_7 rfl (lv_at hl 1 rfl) ?_
  refine lv_iload_n hx hb dX2_empty_8 rfl (lv_at hl 2 rfl) ?_
  refine lv_iload_n hx hb dX2_empty_9 rfl (lv_at hl 3 rfl) ?_
  refine lv_iload_n hx hb dX2_empty_10 rfl (lv_at hl 0 rfl) ?_
  refine lv_ineg hx hb dX2_empty_11 ?_
  refine zc_v (va_runV (As := [.int (nI g), .int (nI w), .int (-(f (g * 10 + w)))]) (rest := []) hC (c_X2_change l Z a b f g w (-(f (g * 10 + w))) (by omega) (by omega) _) (cwV 3 hts gX2_empty_X2_change rfl rfl rfl (by decide +kernel) ⟨Nat.le_of_ble_eq_true rfl, Nat.le_of_ble_eq_true rfl⟩) (zpreV (ci := 2) (q0 := 0) hX hW rfl rfl [0, 1] rfl (by decide)) rfl rfl hl.1 rfl (lv_room (Nat.le_of_ble_eq_true rfl)) dX2_empty_12 ⟨Nat.le_of_ble_eq_true rfl, Nat.le_of_ble_eq_true rfl⟩) hX hW [0, 1] rfl (by decide) (fun _ => rfl) (fun u_12 H locs h_12 hW => ?_)
  have hW : zW Z s A [(a, .inr (2, [.ref b])), (b, zI Z 290 (upd f (g * 10 + w) (f (g * 10 + w) + (-(f (g * 10 + w))))))] _ _ := hW
  refine lv_iload_n hx hb dX2_empty_15 rfl (lv_at hl 0 rfl) ?_
  exact z_iret hx hb hr hlk hW () (rfl) (rfl) (by omega) (by omega) dX2_empty_16
