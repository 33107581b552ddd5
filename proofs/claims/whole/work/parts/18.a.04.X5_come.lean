theorem mw_X5_come_0 : Cond.fieldLink RX5 38 "TypeFoundryModel" "thrown" "I" ∈ wsX5_come := by decide +kernel
theorem mw_X5_come_1 : ∀ w ∈ wsX50, w ∈ wsX5_come := by decide +kernel
theorem mw_X5_come_2 : Cond.fieldLink RX5 41 "TypeFoundryModel" "printers" "I" ∈ wsX5_come := by decide +kernel
theorem mw_X5_come_3 : Cond.fieldLink RX5 17 "TypeFoundryModel" "own" "[I" ∈ wsX5_come := by decide +kernel
abbrev wp_X5_come (Z : zT) (o0 o1 o2 o3 o4 o5 o6 o7 o8 np : Nat) (th dy me co ca br ml le : Int32) (S E Tk Lf : Nat → Int32) (F G pn : Nat → Nat → Int32) (cv : Int32) : Int32 × Nat × (Nat → Int32) → va_W := fun (u : Int32 × Nat × (Nat → Int32)) => match u with | (th_1, np_1, q0_1) => [(o0, .inr (5, [.int th_1, .int dy, .int me, .int co, .int (nI np_1), .int ca, .int br, .int ml, .ref o1, .ref o2, .ref o3, .ref o4, .ref o5, .ref o6, .int le, .ref o7, .ref o8])), (o1, zI Z 3770 (stF S F G)), (o2, zI Z 6 q0_1), (o3, zI Z 6 (qF pn 1)), (o4, zI Z 6 (qF pn 2)), (o5, zI Z 6 (qF pn 3)), (o6, zI Z 6 E), (o7, zI Z 29 Tk), (o8, zI Z 29 Lf)]
abbrev po_X5_come (Z : zT) (o0 o1 o2 o3 o4 o5 o6 o7 o8 np : Nat) (th dy me co ca br ml le : Int32) (S E Tk Lf : Nat → Int32) (F G pn : Nat → Nat → Int32) (cv : Int32) : Int32 → Int32 × Nat × (Nat → Int32) → Prop := fun (r : Int32) (u : Int32 × Nat × (Nat → Int32)) => match u with | (th_1, np_1, q0_1) => (th_1 = nI 0 ∧ 0 = cdx (¬ (¬ cv < 0 ∧ cv ≤ nI 5000)) (np = 6) (False) ∧ r = nI np ∧ np_1 = np + 1 ∧ q0_1 = upd (qF pn 0) np cv) ∨ (∃ k9, 1 ≤ k9 ∧ k9 = cdx (¬ (¬ cv < 0 ∧ cv ≤ nI 5000)) (np = 6) (False) ∧ th_1 = nI k9 ∧ np_1 = np ∧ q0_1 = qF pn 0)
abbrev rm_X5_come : Room := { frames := 1, cells := 0, slots := 0, locals := 22 }
set_option maxHeartbeats 4000000 in
set_option maxRecDepth 100000 in
theorem c_X5_come (l : Launch) (Z : zT) (o0 o1 o2 o3 o4 o5 o6 o7 o8 np : Nat) (th dy me co ca br ml le : Int32) (S E Tk Lf : Nat → Int32) (F G pn : Nat → Nat → Int32) (cv : Int32) (hG : GA S F G) (hnp : np ≤ 6) : zMet l yX5_come wsX5_come rm_X5_come [.ref o0, .int cv] Z [(o0, .inr (5, [.int th, .int dy, .int me, .int co, .int (nI np), .int ca, .int br, .int ml, .ref o1, .ref o2, .ref o3, .ref o4, .ref o5, .ref o6, .int le, .ref o7, .ref o8])), (o1, zI Z 3770 (stF S F G)), (o2, zI Z 6 (qF pn 0)), (o3, zI Z 6 (qF pn 1)), (o4, zI Z 6 (qF pn 2)), (o5, zI Z 6 (qF pn 3)), (o6, zI Z 6 E), (o7, zI Z 29 Tk), (o8, zI Z 29 Lf)] (zQi Z (po_X5_come Z o0 o1 o2 o3 o4 o5 o6 o7 o8 np th dy me co ca br ml le S E Tk Lf F G pn cv) (wp_X5_come Z o0 o1 o2 o3 o4 o5 o6 o7 o8 np th dy me co ca br ml le S E Tk Lf F G pn cv)) 0 0 := by
  refine zstart (cc := cX5_come) (maxL := 2) (ret := (some .int)) (by decide) rfl (Nat.le_of_ble_eq_true rfl) ?_
  intro p e s m below meth c ls A hx hb hr hC hlk hnm hX hW hl
  have hml := hC.2.2.1
  have hown : s.vm.findClass RX5 = some m.cls := hC.2.2.2.1
  have hts := hC.2.2.2.2
  have hl : lv_has ls 2 [(0, .ref o0), (1, .int cv)] := hl
  refine lv_aload_n hx hb dX5_come_0 rfl (lv_at hl 0 rfl) ?_
  refine lv_iconst (v := nI 0) hx hb dX5_come_1 (by decide) ?_
  refine z_put (C := RX5) (T := TX5) (N := 17) (v := .int (nI 0)) (ty := .int) hx hb hts mw_X5_come_1 tyX5 tyX5_ok nmX5 hown hX hW 0 rfl rfl 0 (by decide) mw_X5_come_0 (fun _ h9 => h9) rfl (by decide +kernel) rfl rfl (Nat.le_of_ble_eq_true rfl) dX5_come_2 (fun H locs hW => ?_)
  have hW : zW Z s A [(o0, .inr (5, [.int (nI 0), .int dy, .int me, .int co, .int (nI np), .int ca, .int br, .int ml, .ref o1, .ref o2, .ref o3, .ref o4, .ref o5, .ref o6, .int le, .ref o7, .ref o8])), (o1, zI Z 3770 (stF S F G)), (o2, zI Z 6 (qF pn 0)), (o3, zI Z 6 (qF pn 1)), (o4, zI Z 6 (qF pn 2)), (o5, zI Z 6 (qF pn 3)), (o6, zI Z 6 E), (o7, zI Z 29 Tk), (o8, zI Z 29 Lf)] _ _ := hW
  refine lv_iload_n hx hb dX5_come_5 rfl (lv_at hl 1 rfl) ?_
  refine lv_iconst (v := nI 0) hx hb dX5_come_6 (by decide) ?_
  refine lv_sipush (v := nI 5000) hx hb dX5_come_7 (by decide) ?_
  refine zc_i (va_runS (As := [.int cv, .int (nI 0), .int (nI 5000)]) (rest := []) hC (c_X5_isIn l Z cv (nI 0) (nI 5000)  _) (va_cwS 3 hts gX5_come_X5_isIn rfl rfl rfl (by decide +kernel) ⟨Nat.le_of_ble_eq_true rfl, Nat.le_of_ble_eq_true rfl⟩) (zpreS hX hW [] rfl (by decide)) rfl rfl hl.1 rfl (lv_room (Nat.le_of_ble_eq_true rfl)) dX5_come_10 ⟨Nat.le_of_ble_eq_true rfl, Nat.le_of_ble_eq_true rfl⟩) hX hW [] rfl (by decide) (fun _ => rfl) (fun r_10 u_10 H locs h_10 hW => ?_)
  have hW : zW Z s A [(o0, .inr (5, [.int (nI 0), .int dy, .int me, .int co, .int (nI np), .int ca, .int br, .int ml, .ref o1, .ref o2, .ref o3, .ref o4, .ref o5, .ref o6, .int le, .ref o7, .ref o8])), (o1, zI Z 3770 (stF S F G)), (o2, zI Z 6 (qF pn 0)), (o3, zI Z 6 (qF pn 1)), (o4, zI Z 6 (qF pn 2)), (o5, zI Z 6 (qF pn 3)), (o6, zI Z 6 E), (o7, zI Z 29 Tk), (o8, zI Z 29 Lf)] _ _ := hW
  subst h_10
  refine lv_if_ne (tgt := 22) hx hb dX5_come_13 (by decide) (fun c_13 => ?_) (fun c_13 => ?_)
  · refine lv_aload_n hx hb dX5_come_22 rfl (lv_at hl 0 rfl) ?_
    refine z_get (C := RX5) (T := TX5) (N := 17) hx hb hts mw_X5_come_1 hown hX hW 0 rfl rfl 4 (by decide) mw_X5_come_2 (fun _ h9 => h9) rfl dX5_come_23 ?_
    refine lv_bipush (v := nI 6) hx hb dX5_come_26 (by decide) ?_
    refine zn_icmp_ne (tgt := 37) (a := np) (b := 6) hx hb (by omega) (by omega) dX5_come_28 (by decide) (fun c_28 => ?_) (fun c_28 => ?_)
    · refine lv_aload_n hx hb dX5_come_37 rfl (lv_at hl 0 rfl) ?_
      refine z_get (C := RX5) (T := TX5) (N := 17) hx hb hts mw_X5_come_1 hown hX hW 0 rfl rfl 9 (by decide) mw_X5_come_3 (fun _ h9 => h9) rfl dX5_come_38 ?_
      refine lv_aload_n hx hb dX5_come_41 rfl (lv_at hl 0 rfl) ?_
      refine z_get (C := RX5) (T := TX5) (N := 17) hx hb hts mw_X5_come_1 hown hX hW 0 rfl rfl 4 (by decide) mw_X5_come_2 (fun _ h9 => h9) rfl dX5_come_42 ?_
      refine lv_iload_n hx hb dX5_come_45 rfl (lv_at hl 1 rfl) ?_
      refine z_iast hx hb hX hW 2 rfl (k := np) (by omega) (by omega) dX5_come_46 (fun H locs hW => ?_)
      have hW : zW Z s A [(o0, .inr (5, [.int (nI 0), .int dy, .int me, .int co, .int (nI np), .int ca, .int br, .int ml, .ref o1, .ref o2, .ref o3, .ref o4, .ref o5, .ref o6, .int le, .ref o7, .ref o8])), (o1, zI Z 3770 (stF S F G)), (o2, zI Z 6 (upd (qF pn 0) np cv)), (o3, zI Z 6 (qF pn 1)), (o4, zI Z 6 (qF pn 2)), (o5, zI Z 6 (qF pn 3)), (o6, zI Z 6 E), (o7, zI Z 29 Tk), (o8, zI Z 29 Lf)] _ _ := hW
      refine lv_aload_n hx hb dX5_come_47 rfl (lv_at hl 0 rfl) ?_
      refine lv_dup hx hb dX5_come_48 rfl ?_
      refine z_get (C := RX5) (T := TX5) (N := 17) hx hb hts mw_X5_come_1 hown hX hW 0 rfl rfl 4 (by decide) mw_X5_come_2 (fun _ h9 => h9) rfl dX5_come_49 ?_
      refine lv_iconst (v := nI 1) hx hb dX5_come_52 (by decide) ?_
      refine lv_iadd hx hb dX5_come_53 ?_
      refine zw_topi (nI_add _ _) ?_
      refine z_put (C := RX5) (T := TX5) (N := 17) (v := .int (nI (np + 1))) (ty := .int) hx hb hts mw_X5_come_1 tyX5 tyX5_ok nmX5 hown hX hW 0 rfl rfl 4 (by decide) mw_X5_come_2 (fun _ h9 => h9) rfl (by decide +kernel) rfl rfl (Nat.le_of_ble_eq_true rfl) dX5_come_54 (fun H locs hW => ?_)
      have hW : zW Z s A [(o0, .inr (5, [.int (nI 0), .int dy, .int me, .int co, .int (nI (np + 1)), .int ca, .int br, .int ml, .ref o1, .ref o2, .ref o3, .ref o4, .ref o5, .ref o6, .int le, .ref o7, .ref o8])), (o1, zI Z 3770 (stF S F G)), (o2, zI Z 6 (upd (qF pn 0) np cv)), (o3, zI Z 6 (qF pn 1)), (o4, zI Z 6 (qF pn 2)), (o5, zI Z 6 (qF pn 3)), (o6, zI Z 6 E), (o7, zI Z 29 Tk), (o8, zI Z 29 Lf)] _ _ := hW
      refine lv_aload_n hx hb dX5_come_57 rfl (lv_at hl 0 rfl) ?_
      refine z_get (C := RX5) (T := TX5) (N := 17) hx hb hts mw_X5_come_1 hown hX hW 0 rfl rfl 4 (by decide) mw_X5_come_2 (fun _ h9 => h9) rfl dX5_come_58 ?_
      refine lv_iconst (v := nI 1) hx hb dX5_come_61 (by decide) ?_
      refine lv_isub hx hb dX5_come_62 ?_
      refine zw_topi (y := (nI np)) (by rw [pk_sub (by omega), Nat.add_sub_cancel]) ?_
      exact z_iret hx hb hr hlk hW (nI 0, np + 1, upd (qF pn 0) np cv) (by unfold po_X5_come; exact Or.inl ⟨rfl, cdx_0 (fun h6 => h6 ⟨zge0.mp (bI_n c_13).1, (bI_n c_13).2⟩) (fun h6 => c_28 h6) (fun h6 => h6), rfl, rfl, rfl⟩) (rfl) (by omega) (by omega) dX5_come_63
    · refine lv_aload_n hx hb dX5_come_31 rfl (lv_at hl 0 rfl) ?_
      refine lv_iconst (v := nI 2) hx hb dX5_come_32 (by decide) ?_
      refine zc_i (va_runV (As := [.int (nI 2)]) (rest := []) hC (c_X5_no l Z o0 o1 o2 o3 o4 o5 o6 o7 o8 np (nI 0) dy me co ca br ml le 2  _) (cwV 1 hts gX5_come_X5_no rfl rfl rfl (by decide +kernel) ⟨Nat.le_of_ble_eq_true rfl, Nat.le_of_ble_eq_true rfl⟩) (zpreV (ci := 5) (q0 := 0) hX hW rfl rfl [0] rfl (by decide)) rfl rfl hl.1 rfl (lv_room (Nat.le_of_ble_eq_true rfl)) dX5_come_33 ⟨Nat.le_of_ble_eq_true rfl, Nat.le_of_ble_eq_true rfl⟩) hX hW [0] rfl (by decide) (fun _ => rfl) (fun r_33 u_33 H locs h_33 hW => ?_)
      have hW : zW Z s A [(o0, .inr (5, [.int (nI 2), .int dy, .int me, .int co, .int (nI np), .int ca, .int br, .int ml, .ref o1, .ref o2, .ref o3, .ref o4, .ref o5, .ref o6, .int le, .ref o7, .ref o8])), (o1, zI Z 3770 (stF S F G)), (o2, zI Z 6 (qF pn 0)), (o3, zI Z 6 (qF pn 1)), (o4, zI Z 6 (qF pn 2)), (o5, zI Z 6 (qF pn 3)), (o6, zI Z 6 E), (o7, zI Z 29 Tk), (o8, zI Z 29 Lf)] _ _ := hW
      subst h_33
      exact z_iret hx hb hr hlk hW (nI 2, np, qF pn 0) (by unfold po_X5_come; exact Or.inr ⟨2, by omega, cdx_2 (fun h6 => h6 ⟨zge0.mp (bI_n c_13).1, (bI_n c_13).2⟩) c_28, rfl, rfl, rfl⟩) (rfl) (by omega) (by omega) dX5_come_36
  · refine lv_aload_n hx hb dX5_come_16 rfl (lv_at hl 0 rfl) ?_
    refine lv_iconst (v := nI 1) hx hb dX5_come_17 (by decide) ?_
    refine zc_i (va_runV (As := [.int (nI 1)]) (rest := []) hC (c_X5_no l Z o0 o1 o2 o3 o4 o5 o6 o7 o8 np (nI 0) dy me co ca br ml le 1  _) (cwV 1 hts gX5_come_X5_no rfl rfl rfl (by decide +kernel) ⟨Nat.le_of_ble_eq_true rfl, Nat.le_of_ble_eq_true rfl⟩) (zpreV (ci := 5) (q0 := 0) hX hW rfl rfl [0] rfl (by decide)) rfl rfl hl.1 rfl (lv_room (Nat.le_of_ble_eq_true rfl)) dX5_come_18 ⟨Nat.le_of_ble_eq_true rfl, Nat.le_of_ble_eq_true rfl⟩) hX hW [0] rfl (by decide) (fun _ => rfl) (fun r_18 u_18 H locs h_18 hW => ?_)
    have hW : zW Z s A [(o0, .inr (5, [.int (nI 1), .int dy, .int me, .int co, .int (nI np), .int ca, .int br, .int ml, .ref o1, .ref o2, .ref o3, .ref o4, .ref o5, .ref o6, .int le, .ref o7, .ref o8])), (o1, zI Z 3770 (stF S F G)), (o2, zI Z 6 (qF pn 0)), (o3, zI Z 6 (qF pn 1)), (o4, zI Z 6 (qF pn 2)), (o5, zI Z 6 (qF pn 3)), (o6, zI Z 6 E), (o7, zI Z 29 Tk), (o8, zI Z 29 Lf)] _ _ := hW
    subst h_18
    exact z_iret hx hb hr hlk hW (nI 1, np, qF pn 0) (by unfold po_X5_come; exact Or.inr ⟨1, by omega, cdx_1 (fun h6 => bI_e c_13 ⟨zge0.mpr h6.1, h6.2⟩), rfl, rfl, rfl⟩) (rfl) (by omega) (by omega) dX5_come_21
