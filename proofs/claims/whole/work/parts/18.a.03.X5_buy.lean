theorem mw_X5_buy_0 : Cond.fieldLink RX5 38 "TypeFoundryModel" "thrown" "I" ∈ wsX5_buy := by decide +kernel
theorem mw_X5_buy_1 : ∀ w ∈ wsX50, w ∈ wsX5_buy := by decide +kernel
theorem mw_X5_buy_2 : Cond.fieldLink RX5 7 "TypeFoundryModel" "metal" "I" ∈ wsX5_buy := by decide +kernel
abbrev wp_X5_buy (Z : zT) (o0 o1 o2 o3 o4 o5 o6 o7 o8 np : Nat) (th dy me co ca br ml le : Int32) (S E Tk Lf : Nat → Int32) (F G pn : Nat → Nat → Int32) (bv : Int32) : Int32 × Int32 → va_W := fun (u : Int32 × Int32) => match u with | (th_1, me_1) => [(o0, .inr (5, [.int th_1, .int dy, .int me_1, .int co, .int (nI np), .int ca, .int br, .int ml, .ref o1, .ref o2, .ref o3, .ref o4, .ref o5, .ref o6, .int le, .ref o7, .ref o8])), (o1, zI Z 3770 (stF S F G)), (o2, zI Z 6 (qF pn 0)), (o3, zI Z 6 (qF pn 1)), (o4, zI Z 6 (qF pn 2)), (o5, zI Z 6 (qF pn 3)), (o6, zI Z 6 E), (o7, zI Z 29 Tk), (o8, zI Z 29 Lf)]
abbrev po_X5_buy (Z : zT) (o0 o1 o2 o3 o4 o5 o6 o7 o8 np : Nat) (th dy me co ca br ml le : Int32) (S E Tk Lf : Nat → Int32) (F G pn : Nat → Nat → Int32) (bv : Int32) : Int32 → Int32 × Int32 → Prop := fun (r : Int32) (u : Int32 × Int32) => match u with | (th_1, me_1) => (th_1 = nI 0 ∧ 0 = cdx (¬ inR bv 1 2000) (¬ me + bv ≤ nI 9999) (False) ∧ r = me + bv ∧ me_1 = me + bv) ∨ (∃ k9, 1 ≤ k9 ∧ k9 = cdx (¬ inR bv 1 2000) (¬ me + bv ≤ nI 9999) (False) ∧ th_1 = nI k9 ∧ me_1 = me)
abbrev rm_X5_buy : Room := { frames := 1, cells := 0, slots := 0, locals := 22 }
set_option maxHeartbeats 4000000 in
set_option maxRecDepth 100000 in
theorem c_X5_buy (l : Launch) (Z : zT) (o0 o1 o2 o3 o4 o5 o6 o7 o8 np : Nat) (th dy me co ca br ml le : Int32) (S E Tk Lf : Nat → Int32) (F G pn : Nat → Nat → Int32) (bv : Int32) (hG : GA S F G) (hnp : np ≤ 6) : zMet l yX5_buy wsX5_buy rm_X5_buy [.ref o0, .int bv] Z [(o0, .inr (5, [.int th, .int dy, .int me, .int co, .int (nI np), .int ca, .int br, .int ml, .ref o1, .ref o2, .ref o3, .ref o4, .ref o5, .ref o6, .int le, .ref o7, .ref o8])), (o1, zI Z 3770 (stF S F G)), (o2, zI Z 6 (qF pn 0)), (o3, zI Z 6 (qF pn 1)), (o4, zI Z 6 (qF pn 2)), (o5, zI Z 6 (qF pn 3)), (o6, zI Z 6 E), (o7, zI Z 29 Tk), (o8, zI Z 29 Lf)] (zQi Z (po_X5_buy Z o0 o1 o2 o3 o4 o5 o6 o7 o8 np th dy me co ca br ml le S E Tk Lf F G pn bv) (wp_X5_buy Z o0 o1 o2 o3 o4 o5 o6 o7 o8 np th dy me co ca br ml le S E Tk Lf F G pn bv)) 0 0 := by
  refine zstart (cc := cX5_buy) (maxL := 2) (ret := (some .int)) (by decide) rfl (Nat.le_of_ble_eq_true rfl) ?_
  intro p e s m below meth c ls A hx hb hr hC hlk hnm hX hW hl
  have hml := hC.2.2.1
  have hown : s.vm.findClass RX5 = some m.cls := hC.2.2.2.1
  have hts := hC.2.2.2.2
  have hl : lv_has ls 2 [(0, .ref o0), (1, .int bv)] := hl
  refine lv_aload_n hx hb dX5_buy_0 rfl (lv_at hl 0 rfl) ?_
  refine lv_iconst (v := nI 0) hx hb dX5_buy_1 (by decide) ?_
  refine z_put (C := RX5) (T := TX5) (N := 17) (v := .int (nI 0)) (ty := .int) hx hb hts mw_X5_buy_1 tyX5 tyX5_ok nmX5 hown hX hW 0 rfl rfl 0 (by decide) mw_X5_buy_0 (fun _ h9 => h9) rfl (by decide +kernel) rfl rfl (Nat.le_of_ble_eq_true rfl) dX5_buy_2 (fun H locs hW => ?_)
  have hW : zW Z s A [(o0, .inr (5, [.int (nI 0), .int dy, .int me, .int co, .int (nI np), .int ca, .int br, .int ml, .ref o1, .ref o2, .ref o3, .ref o4, .ref o5, .ref o6, .int le, .ref o7, .ref o8])), (o1, zI Z 3770 (stF S F G)), (o2, zI Z 6 (qF pn 0)), (o3, zI Z 6 (qF pn 1)), (o4, zI Z 6 (qF pn 2)), (o5, zI Z 6 (qF pn 3)), (o6, zI Z 6 E), (o7, zI Z 29 Tk), (o8, zI Z 29 Lf)] _ _ := hW
  refine lv_iload_n hx hb dX5_buy_5 rfl (lv_at hl 1 rfl) ?_
  refine lv_iconst (v := nI 1) hx hb dX5_buy_6 (by decide) ?_
  refine lv_sipush (v := nI 2000) hx hb dX5_buy_7 (by decide) ?_
  refine zc_i (va_runS (As := [.int bv, .int (nI 1), .int (nI 2000)]) (rest := []) hC (c_X5_isIn l Z bv (nI 1) (nI 2000)  _) (va_cwS 3 hts gX5_buy_X5_isIn rfl rfl rfl (by decide +kernel) ⟨Nat.le_of_ble_eq_true rfl, Nat.le_of_ble_eq_true rfl⟩) (zpreS hX hW [] rfl (by decide)) rfl rfl hl.1 rfl (lv_room (Nat.le_of_ble_eq_true rfl)) dX5_buy_10 ⟨Nat.le_of_ble_eq_true rfl, Nat.le_of_ble_eq_true rfl⟩) hX hW [] rfl (by decide) (fun _ => rfl) (fun r_10 u_10 H locs h_10 hW => ?_)
  have hW : zW Z s A [(o0, .inr (5, [.int (nI 0), .int dy, .int me, .int co, .int (nI np), .int ca, .int br, .int ml, .ref o1, .ref o2, .ref o3, .ref o4, .ref o5, .ref o6, .int le, .ref o7, .ref o8])), (o1, zI Z 3770 (stF S F G)), (o2, zI Z 6 (qF pn 0)), (o3, zI Z 6 (qF pn 1)), (o4, zI Z 6 (qF pn 2)), (o5, zI Z 6 (qF pn 3)), (o6, zI Z 6 E), (o7, zI Z 29 Tk), (o8, zI Z 29 Lf)] _ _ := hW
  subst h_10
  refine lv_if_ne (tgt := 22) hx hb dX5_buy_13 (by decide) (fun c_13 => ?_) (fun c_13 => ?_)
  · refine lv_aload_n hx hb dX5_buy_22 rfl (lv_at hl 0 rfl) ?_
    refine z_get (C := RX5) (T := TX5) (N := 17) hx hb hts mw_X5_buy_1 hown hX hW 0 rfl rfl 2 (by decide) mw_X5_buy_2 (fun _ h9 => h9) rfl dX5_buy_23 ?_
    refine lv_iload_n hx hb dX5_buy_26 rfl (lv_at hl 1 rfl) ?_
    refine lv_iadd hx hb dX5_buy_27 ?_
    refine lv_sipush (v := nI 9999) hx hb dX5_buy_28 (by decide) ?_
    refine lv_icmp_le (tgt := 40) hx hb dX5_buy_31 (by decide) (fun c_31 => ?_) (fun c_31 => ?_)
    · refine lv_aload_n hx hb dX5_buy_40 rfl (lv_at hl 0 rfl) ?_
      refine lv_dup hx hb dX5_buy_41 rfl ?_
      refine z_get (C := RX5) (T := TX5) (N := 17) hx hb hts mw_X5_buy_1 hown hX hW 0 rfl rfl 2 (by decide) mw_X5_buy_2 (fun _ h9 => h9) rfl dX5_buy_42 ?_
      refine lv_iload_n hx hb dX5_buy_45 rfl (lv_at hl 1 rfl) ?_
      refine lv_iadd hx hb dX5_buy_46 ?_
      refine z_put (C := RX5) (T := TX5) (N := 17) (v := .int (me + bv)) (ty := .int) hx hb hts mw_X5_buy_1 tyX5 tyX5_ok nmX5 hown hX hW 0 rfl rfl 2 (by decide) mw_X5_buy_2 (fun _ h9 => h9) rfl (by decide +kernel) rfl rfl (Nat.le_of_ble_eq_true rfl) dX5_buy_47 (fun H locs hW => ?_)
      have hW : zW Z s A [(o0, .inr (5, [.int (nI 0), .int dy, .int (me + bv), .int co, .int (nI np), .int ca, .int br, .int ml, .ref o1, .ref o2, .ref o3, .ref o4, .ref o5, .ref o6, .int le, .ref o7, .ref o8])), (o1, zI Z 3770 (stF S F G)), (o2, zI Z 6 (qF pn 0)), (o3, zI Z 6 (qF pn 1)), (o4, zI Z 6 (qF pn 2)), (o5, zI Z 6 (qF pn 3)), (o6, zI Z 6 E), (o7, zI Z 29 Tk), (o8, zI Z 29 Lf)] _ _ := hW
      refine lv_aload_n hx hb dX5_buy_50 rfl (lv_at hl 0 rfl) ?_
      refine z_get (C := RX5) (T := TX5) (N := 17) hx hb hts mw_X5_buy_1 hown hX hW 0 rfl rfl 2 (by decide) mw_X5_buy_2 (fun _ h9 => h9) rfl dX5_buy_51 ?_
      exact z_iret hx hb hr hlk hW (nI 0, me + bv) (by unfold po_X5_buy; exact Or.inl ⟨rfl, cdx_0 (fun h6 => h6 (bI_n c_13)) (fun h6 => h6 c_31) (fun h6 => h6), rfl, rfl⟩) (rfl) (by omega) (by omega) dX5_buy_54
    · refine lv_aload_n hx hb dX5_buy_34 rfl (lv_at hl 0 rfl) ?_
      refine lv_iconst (v := nI 2) hx hb dX5_buy_35 (by decide) ?_
      refine zc_i (va_runV (As := [.int (nI 2)]) (rest := []) hC (c_X5_no l Z o0 o1 o2 o3 o4 o5 o6 o7 o8 np (nI 0) dy me co ca br ml le 2  _) (cwV 1 hts gX5_buy_X5_no rfl rfl rfl (by decide +kernel) ⟨Nat.le_of_ble_eq_true rfl, Nat.le_of_ble_eq_true rfl⟩) (zpreV (ci := 5) (q0 := 0) hX hW rfl rfl [0] rfl (by decide)) rfl rfl hl.1 rfl (lv_room (Nat.le_of_ble_eq_true rfl)) dX5_buy_36 ⟨Nat.le_of_ble_eq_true rfl, Nat.le_of_ble_eq_true rfl⟩) hX hW [0] rfl (by decide) (fun _ => rfl) (fun r_36 u_36 H locs h_36 hW => ?_)
      have hW : zW Z s A [(o0, .inr (5, [.int (nI 2), .int dy, .int me, .int co, .int (nI np), .int ca, .int br, .int ml, .ref o1, .ref o2, .ref o3, .ref o4, .ref o5, .ref o6, .int le, .ref o7, .ref o8])), (o1, zI Z 3770 (stF S F G)), (o2, zI Z 6 (qF pn 0)), (o3, zI Z 6 (qF pn 1)), (o4, zI Z 6 (qF pn 2)), (o5, zI Z 6 (qF pn 3)), (o6, zI Z 6 E), (o7, zI Z 29 Tk), (o8, zI Z 29 Lf)] _ _ := hW
      subst h_36
      exact z_iret hx hb hr hlk hW (nI 2, me) (by unfold po_X5_buy; exact Or.inr ⟨2, by omega, cdx_2 (fun h6 => h6 (bI_n c_13)) c_31, rfl, rfl⟩) (rfl) (by omega) (by omega) dX5_buy_39
  · refine lv_aload_n hx hb dX5_buy_16 rfl (lv_at hl 0 rfl) ?_
    refine lv_iconst (v := nI 1) hx hb dX5_buy_17 (by decide) ?_
    refine zc_i (va_runV (As := [.int (nI 1)]) (rest := []) hC (c_X5_no l Z o0 o1 o2 o3 o4 o5 o6 o7 o8 np (nI 0) dy me co ca br ml le 1  _) (cwV 1 hts gX5_buy_X5_no rfl rfl rfl (by decide +kernel) ⟨Nat.le_of_ble_eq_true rfl, Nat.le_of_ble_eq_true rfl⟩) (zpreV (ci := 5) (q0 := 0) hX hW rfl rfl [0] rfl (by decide)) rfl rfl hl.1 rfl (lv_room (Nat.le_of_ble_eq_true rfl)) dX5_buy_18 ⟨Nat.le_of_ble_eq_true rfl, Nat.le_of_ble_eq_true rfl⟩) hX hW [0] rfl (by decide) (fun _ => rfl) (fun r_18 u_18 H locs h_18 hW => ?_)
    have hW : zW Z s A [(o0, .inr (5, [.int (nI 1), .int dy, .int me, .int co, .int (nI np), .int ca, .int br, .int ml, .ref o1, .ref o2, .ref o3, .ref o4, .ref o5, .ref o6, .int le, .ref o7, .ref o8])), (o1, zI Z 3770 (stF S F G)), (o2, zI Z 6 (qF pn 0)), (o3, zI Z 6 (qF pn 1)), (o4, zI Z 6 (qF pn 2)), (o5, zI Z 6 (qF pn 3)), (o6, zI Z 6 E), (o7, zI Z 29 Tk), (o8, zI Z 29 Lf)] _ _ := hW
    subst h_18
    exact z_iret hx hb hr hlk hW (nI 1, me) (by unfold po_X5_buy; exact Or.inr ⟨1, by omega, cdx_1 (bI_e c_13), rfl, rfl⟩) (rfl) (by omega) (by omega) dX5_buy_21
