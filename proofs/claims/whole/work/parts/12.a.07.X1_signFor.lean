theorem mw_X1_signFor_0 : Cond.fieldLink RX1 9 "TypeFoundry$Setting" "left" "[I" ∈ wsX1_signFor := by decide +kernel
theorem mw_X1_signFor_1 : ∀ w ∈ wsX10, w ∈ wsX1_signFor := by decide +kernel
abbrev wp_X1_signFor (Z : zT) (z zl zt : Nat) (lf tk : Nat → Int32) (a b : Nat) (L : Nat → Int32) (k : Nat) (t : Nat → Nat) (i : Nat) : Unit → va_W := fun (u : Unit) => [(z, .inr (1, [.ref zl, .ref zt])), (zl, zI Z 29 lf), (zt, zI Z 29 tk), (a, .inr (3, [.ref b, .int (nI (6 - k))])), (b, zI Z 6 L)]
abbrev po_X1_signFor (Z : zT) (z zl zt : Nat) (lf tk : Nat → Int32) (a b : Nat) (L : Nat → Int32) (k : Nat) (t : Nat → Nat) (i : Nat) : Int32 → Unit → Prop := fun (r : Int32) (u : Unit) => r = nI (sf lf t k i)
abbrev rm_X1_signFor : Room := { frames := 2, cells := 0, slots := 0, locals := 42 }
set_option maxHeartbeats 4000000 in
set_option maxRecDepth 100000 in
theorem c_X1_signFor (l : Launch) (Z : zT) (z zl zt : Nat) (lf tk : Nat → Int32) (a b : Nat) (L : Nat → Int32) (k : Nat) (t : Nat → Nat) (i : Nat) (hw9 : wdC k t L) (hi : i < k) : zMet l yX1_signFor wsX1_signFor rm_X1_signFor [.ref z, .ref a, .int (nI (6 - k + i))] Z [(z, .inr (1, [.ref zl, .ref zt])), (zl, zI Z 29 lf), (zt, zI Z 29 tk), (a, .inr (3, [.ref b, .int (nI (6 - k))])), (b, zI Z 6 L)] (zQi Z (po_X1_signFor Z z zl zt lf tk a b L k t i) (wp_X1_signFor Z z zl zt lf tk a b L k t i)) 0 0 := by
  refine zstart (cc := cX1_signFor) (maxL := 4) (ret := (some .int)) (by decide) rfl (Nat.le_of_ble_eq_true rfl) ?_
  intro p e s m below meth c ls A hx hb hr hC hlk hnm hX hW hl
  have hml := hC.2.2.1
  have hown : s.vm.findClass RX1 = some m.cls := hC.2.2.2.1
  have hts := hC.2.2.2.2
  have hl : lv_has ls 4 [(0, .ref z), (1, .ref a), (2, .int (nI (6 - k + i)))] := hl
  have hw8 := hw9.2.1
  have hw7 := hw9.2.2.1 i hi
  refine lv_aload_n hx hb dX1_signFor_0 rfl (lv_at hl 1 rfl) ?_
  refine lv_iload_n hx hb dX1_signFor_1 rfl (lv_at hl 2 rfl) ?_
  refine zc_i (va_runV (As := [.int (nI (6 - k + i))]) (rest := []) hC (c_X3_ligatureAt l Z a b L k i t hw9 hi _) (cwV 1 hts gX1_signFor_X3_ligatureAt rfl rfl rfl (by decide +kernel) ⟨Nat.le_of_ble_eq_true rfl, Nat.le_of_ble_eq_true rfl⟩) (zpreV (ci := 3) (q0 := 3) hX hW rfl rfl [3, 4] rfl (by decide)) rfl rfl hl.1 rfl (lv_room (Nat.le_of_ble_eq_true rfl)) dX1_signFor_2 ⟨Nat.le_of_ble_eq_true rfl, Nat.le_of_ble_eq_true rfl⟩) hX hW [3, 4] rfl (by decide) (fun _ => rfl) (fun r_2 u_2 H locs h_2 hW => ?_)
  have hW : zW Z s A [(z, .inr (1, [.ref zl, .ref zt])), (zl, zI Z 29 lf), (zt, zI Z 29 tk), (a, .inr (3, [.ref b, .int (nI (6 - k))])), (b, zI Z 6 L)] _ _ := hW
  subst h_2
  refine lv_istore_n (lv' := [(3, .int (glI (gl t k i))), (0, .ref z), (1, .ref a), (2, .int (nI (6 - k + i)))]) hx hb dX1_signFor_5 rfl hl (by decide) rfl (fun ls hl => ?_)
  rcases gl_in t k i with hz | ⟨hz1, hz2, hz3⟩
  · rw [glI_0 hz] at hl
    have hl : lv_has ls 4 [(3, .int (-1)), (0, .ref z), (1, .ref a), (2, .int (nI (6 - k + i)))] := hl
    refine lv_iload_n hx hb dX1_signFor_6 rfl (lv_at hl 0 rfl) ?_
    refine lv_if_lt (tgt := 27) hx hb dX1_signFor_7 (by decide) (fun c_7 => ?_) (fun c_7 => absurd (by decide) c_7)
    refine lv_aload_n hx hb dX1_signFor_27 rfl (lv_at hl 2 rfl) ?_
    refine lv_iload_n hx hb dX1_signFor_28 rfl (lv_at hl 3 rfl) ?_
    refine zc_i (va_runV (As := [.int (nI (6 - k + i))]) (rest := []) hC (c_X3_letterAt l Z a b L k (6 - k + i) (by omega) _) (cwV 1 hts gX1_signFor_X3_letterAt rfl rfl rfl (by decide +kernel) ⟨Nat.le_of_ble_eq_true rfl, Nat.le_of_ble_eq_true rfl⟩) (zpreV (ci := 3) (q0 := 3) hX hW rfl rfl [3, 4] rfl (by decide)) rfl rfl hl.1 rfl (lv_room (Nat.le_of_ble_eq_true rfl)) dX1_signFor_29 ⟨Nat.le_of_ble_eq_true rfl, Nat.le_of_ble_eq_true rfl⟩) hX hW [3, 4] rfl (by decide) (fun _ => rfl) (fun r_29 u_29 H locs h_29 hW => ?_)
    have hW : zW Z s A [(z, .inr (1, [.ref zl, .ref zt])), (zl, zI Z 29 lf), (zt, zI Z 29 tk), (a, .inr (3, [.ref b, .int (nI (6 - k))])), (b, zI Z 6 L)] _ _ := hW
    subst h_29
    refine zw_topi (y := (nI (t i))) (by rw [if_pos (by omega), hw9.2.2.2 i hi]) ?_
    exact z_iret hx hb hr hlk hW () (by unfold po_X1_signFor; rw [sf_let (by first | exact Or.inl hz | exact Or.inr c_22)]) (rfl) (by omega) (by omega) dX1_signFor_32
  · rw [glI_n (by omega)] at hl
    have hl : lv_has ls 4 [(3, .int (nI (gl t k i))), (0, .ref z), (1, .ref a), (2, .int (nI (6 - k + i)))] := hl
    refine lv_iload_n hx hb dX1_signFor_6 rfl (lv_at hl 0 rfl) ?_
    refine zn_if_lt (tgt := 27) (a := (gl t k i)) hx hb (by omega) dX1_signFor_7 (by decide) ?_
    refine lv_iload_n hx hb dX1_signFor_10 rfl (lv_at hl 0 rfl) ?_
    refine lv_bipush (v := nI 29) hx hb dX1_signFor_11 (by decide) ?_
    refine zn_icmp_ge (tgt := 27) (a := (gl t k i)) (b := 29) hx hb (by omega) (by omega) dX1_signFor_13 (by decide) (fun c_13 => absurd c_13 (by omega)) (fun c_13 => ?_)
    refine lv_aload_n hx hb dX1_signFor_16 rfl (lv_at hl 1 rfl) ?_
    refine z_get (C := RX1) (T := TX1) (N := 2) hx hb hts mw_X1_signFor_1 hown hX hW 0 rfl rfl 0 (by decide) mw_X1_signFor_0 (fun _ h9 => h9) rfl dX1_signFor_17 ?_
    refine lv_iload_n hx hb dX1_signFor_20 rfl (lv_at hl 0 rfl) ?_
    refine z_iald hx hb hX hW 1 rfl (k := (gl t k i)) (by omega) (by omega) dX1_signFor_21 ?_
    refine lv_if_le (tgt := 27) hx hb dX1_signFor_22 (by decide) (fun c_22 => ?_) (fun c_22 => ?_)
    · refine lv_aload_n hx hb dX1_signFor_27 rfl (lv_at hl 2 rfl) ?_
      refine lv_iload_n hx hb dX1_signFor_28 rfl (lv_at hl 3 rfl) ?_
      refine zc_i (va_runV (As := [.int (nI (6 - k + i))]) (rest := []) hC (c_X3_letterAt l Z a b L k (6 - k + i) (by omega) _) (cwV 1 hts gX1_signFor_X3_letterAt rfl rfl rfl (by decide +kernel) ⟨Nat.le_of_ble_eq_true rfl, Nat.le_of_ble_eq_true rfl⟩) (zpreV (ci := 3) (q0 := 3) hX hW rfl rfl [3, 4] rfl (by decide)) rfl rfl hl.1 rfl (lv_room (Nat.le_of_ble_eq_true rfl)) dX1_signFor_29 ⟨Nat.le_of_ble_eq_true rfl, Nat.le_of_ble_eq_true rfl⟩) hX hW [3, 4] rfl (by decide) (fun _ => rfl) (fun r_29 u_29 H locs h_29 hW => ?_)
      have hW : zW Z s A [(z, .inr (1, [.ref zl, .ref zt])), (zl, zI Z 29 lf), (zt, zI Z 29 tk), (a, .inr (3, [.ref b, .int (nI (6 - k))])), (b, zI Z 6 L)] _ _ := hW
      subst h_29
      refine zw_topi (y := (nI (t i))) (by rw [if_pos (by omega), hw9.2.2.2 i hi]) ?_
      exact z_iret hx hb hr hlk hW () (by unfold po_X1_signFor; rw [sf_let (by first | exact Or.inl hz | exact Or.inr c_22)]) (rfl) (by omega) (by omega) dX1_signFor_32
    · refine lv_iload_n hx hb dX1_signFor_25 rfl (lv_at hl 0 rfl) ?_
      exact z_iret hx hb hr hlk hW () (by unfold po_X1_signFor; rw [sf_lig (by omega) c_22]) (rfl) (by omega) (by omega) dX1_signFor_26
