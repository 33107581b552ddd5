abbrev wp_X3_ligatureAt (Z : zT) (a b : Nat) (L : Nat → Int32) (k i : Nat) (t : Nat → Nat) : Unit → va_W := fun (u : Unit) => [(a, .inr (3, [.ref b, .int (nI (6 - k))])), (b, zI Z 6 L)]
abbrev po_X3_ligatureAt (Z : zT) (a b : Nat) (L : Nat → Int32) (k i : Nat) (t : Nat → Nat) : Int32 → Unit → Prop := fun (r : Int32) (u : Unit) => r = glI (gl t k i)
abbrev rm_X3_ligatureAt : Room := { frames := 1, cells := 0, slots := 0, locals := 21 }
set_option maxHeartbeats 4000000 in
set_option maxRecDepth 100000 in
theorem c_X3_ligatureAt (l : Launch) (Z : zT) (a b : Nat) (L : Nat → Int32) (k i : Nat) (t : Nat → Nat) (hw9 : wdC k t L) (hi : i < k) : zMet l yX3_ligatureAt wsX3_ligatureAt rm_X3_ligatureAt [.ref a, .int (nI (6 - k + i))] Z [(a, .inr (3, [.ref b, .int (nI (6 - k))])), (b, zI Z 6 L)] (zQi Z (po_X3_ligatureAt Z a b L k i t) (wp_X3_ligatureAt Z a b L k i t)) 0 0 := by
  refine zstart (cc := cX3_ligatureAt) (maxL := 2) (ret := (some .int)) (by decide) rfl (Nat.le_of_ble_eq_true rfl) ?_
  intro p e s m below meth c ls A hx hb hr hC hlk hnm hX hW hl
  have hml := hC.2.2.1
  have hown : s.vm.findClass RX3 = some m.cls := hC.2.2.2.1
  have hts := hC.2.2.2.2
  have hl : lv_has ls 2 [(0, .ref a), (1, .int (nI (6 - k + i)))] := hl
  have hw8 := hw9.2.1
  have hw7 := hw9.2.2.1 i hi
  refine lv_aload_n hx hb dX3_ligatureAt_0 rfl (lv_at hl 0 rfl) ?_
  refine lv_iload_n hx hb dX3_ligatureAt_1 rfl (lv_at hl 1 rfl) ?_
  refine zc_i (va_runV (As := [.int (nI (6 - k + i))]) (rest := []) hC (c_X3_letterAt l Z a b L k (6 - k + i) (by omega) _) (cwV 1 hts gX3_ligatureAt_X3_letterAt rfl rfl rfl (by decide +kernel) ⟨Nat.le_of_ble_eq_true rfl, Nat.le_of_ble_eq_true rfl⟩) (zpreV (ci := 3) (q0 := 0) hX hW rfl rfl [0, 1] rfl (by decide)) rfl rfl hl.1 rfl (lv_room (Nat.le_of_ble_eq_true rfl)) dX3_ligatureAt_2 ⟨Nat.le_of_ble_eq_true rfl, Nat.le_of_ble_eq_true rfl⟩) hX hW [0, 1] rfl (by decide) (fun _ => rfl) (fun r_2 u_2 H locs h_2 hW => ?_)
  have hW : zW Z s A [(a, .inr (3, [.ref b, .int (nI (6 - k))])), (b, zI Z 6 L)] _ _ := hW
  subst h_2
  refine zw_topi (y := (nI (t i))) (by rw [if_pos (by omega), hw9.2.2.2 i hi]) ?_
  refine lv_iconst (v := nI 5) hx hb dX3_ligatureAt_5 (by decide) ?_
  refine zn_icmp_eq (tgt := 11) (a := (t i)) (b := 5) hx hb (by omega) (by omega) dX3_ligatureAt_6 (by decide) (fun c_6 => ?_) (fun c_6 => ?_)
  · refine lv_aload_n hx hb dX3_ligatureAt_11 rfl (lv_at hl 0 rfl) ?_
    refine lv_iload_n hx hb dX3_ligatureAt_12 rfl (lv_at hl 1 rfl) ?_
    refine lv_iconst (v := nI 1) hx hb dX3_ligatureAt_13 (by decide) ?_
    refine lv_iadd hx hb dX3_ligatureAt_14 ?_
    refine zw_topi (nI_add _ _) ?_
    refine zc_i (va_runV (As := [.int (nI ((6 - k + i) + 1))]) (rest := []) hC (c_X3_letterAt l Z a b L k ((6 - k + i) + 1) (by omega) _) (cwV 1 hts gX3_ligatureAt_X3_letterAt rfl rfl rfl (by decide +kernel) ⟨Nat.le_of_ble_eq_true rfl, Nat.le_of_ble_eq_true rfl⟩) (zpreV (ci := 3) (q0 := 0) hX hW rfl rfl [0, 1] rfl (by decide)) rfl rfl hl.1 rfl (lv_room (Nat.le_of_ble_eq_true rfl)) dX3_ligatureAt_15 ⟨Nat.le_of_ble_eq_true rfl, Nat.le_of_ble_eq_true rfl⟩) hX hW [0, 1] rfl (by decide) (fun _ => rfl) (fun r_15 u_15 H locs h_15 hW => ?_)
    have hW : zW Z s A [(a, .inr (3, [.ref b, .int (nI (6 - k))])), (b, zI Z 6 L)] _ _ := hW
    subst h_15
    refine zw_topi (y := (nx t k i)) (by unfold nx; split; (rw [if_pos (by omega), show 6 - k + i + 1 = 6 - k + (i + 1) by omega, hw9.2.2.2 (i + 1) (by omega)]);  (rw [if_neg (by omega)])) ?_
    have hc9 := nx_c (k := k) (i := i) c_6 hw9.2.2.1
    by_cases h5 : nx t k i = nI 5
    · refine lv_lookup (tgt := 58) (off := 40) hx hb dX3_ligatureAt_18 (by decide +kernel) (by rw [h5]; decide +kernel) (by decide) ?_
      refine lv_bipush (v := nI 28) hx hb dX3_ligatureAt_58 (by decide) ?_
      exact z_iret hx hb hr hlk hW () (by unfold po_X3_ligatureAt; rw [hc9.2.2.1 h5]; rfl) (rfl) (by omega) (by omega) dX3_ligatureAt_60
    by_cases h8 : nx t k i = nI 8
    · refine lv_lookup (tgt := 52) (off := 34) hx hb dX3_ligatureAt_18 (by decide +kernel) (by rw [h8]; decide +kernel) (by decide) ?_
      refine lv_bipush (v := nI 26) hx hb dX3_ligatureAt_52 (by decide) ?_
      exact z_iret hx hb hr hlk hW () (by unfold po_X3_ligatureAt; rw [hc9.1 h8]; rfl) (rfl) (by omega) (by omega) dX3_ligatureAt_54
    by_cases h11 : nx t k i = nI 11
    · refine lv_lookup (tgt := 55) (off := 37) hx hb dX3_ligatureAt_18 (by decide +kernel) (by rw [h11]; decide +kernel) (by decide) ?_
      refine lv_bipush (v := nI 27) hx hb dX3_ligatureAt_55 (by decide) ?_
      exact z_iret hx hb hr hlk hW () (by unfold po_X3_ligatureAt; rw [hc9.2.1 h11]; rfl) (rfl) (by omega) (by omega) dX3_ligatureAt_57
    refine lv_lookup (tgt := 61) (off := 43) hx hb dX3_ligatureAt_18 (by decide +kernel) ((lv_osw h5 rfl).trans ((lv_osw h8 rfl).trans ((lv_osw h11 rfl).trans rfl))) (by decide) ?_
    refine lv_iconst (v := -1) hx hb dX3_ligatureAt_61 (by decide) ?_
    exact z_iret hx hb hr hlk hW () (by unfold po_X3_ligatureAt; rw [hc9.2.2.2 h8 h11 h5]; rfl) (rfl) (by omega) (by omega) dX3_ligatureAt_62
  · refine lv_iconst (v := -1) hx hb dX3_ligatureAt_9 (by decide) ?_
    exact z_iret hx hb hr hlk hW () (by unfold po_X3_ligatureAt; rw [gl_n5 c_6]; rfl) (rfl) (by omega) (by omega) dX3_ligatureAt_10
