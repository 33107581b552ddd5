theorem mw_X5_cast_0 : Cond.fieldLink RX5 38 "TypeFoundryModel" "thrown" "I" ∈ wsX5_cast := by decide +kernel
theorem mw_X5_cast_1 : ∀ w ∈ wsX50, w ∈ wsX5_cast := by decide +kernel
theorem mw_X5_cast_2 : Cond.fieldLink RX5 7 "TypeFoundryModel" "metal" "I" ∈ wsX5_cast := by decide +kernel
theorem mw_X5_cast_3 : Cond.fieldLink RX5 13 "TypeFoundryModel" "store" "[I" ∈ wsX5_cast := by decide +kernel
theorem mw_X5_cast_4 : Cond.fieldLink RX5 68 "TypeFoundryModel" "made" "I" ∈ wsX5_cast := by decide +kernel
abbrev wp_X5_cast (Z : zT) (o0 o1 o2 o3 o4 o5 o6 o7 o8 np : Nat) (th dy me co ca br ml le : Int32) (S E Tk Lf : Nat → Int32) (F G pn : Nat → Nat → Int32) (sv mv : Int32) : Int32 × Int32 × Int32 × (Nat → Int32) → va_W := fun (u : Int32 × Int32 × Int32 × (Nat → Int32)) => match u with | (th_1, me_1, ca_1, f_1) => [(o0, .inr (5, [.int th_1, .int dy, .int me_1, .int co, .int (nI np), .int ca_1, .int br, .int ml, .ref o1, .ref o2, .ref o3, .ref o4, .ref o5, .ref o6, .int le, .ref o7, .ref o8])), (o1, zI Z 3770 f_1), (o2, zI Z 6 (qF pn 0)), (o3, zI Z 6 (qF pn 1)), (o4, zI Z 6 (qF pn 2)), (o5, zI Z 6 (qF pn 3)), (o6, zI Z 6 E), (o7, zI Z 29 Tk), (o8, zI Z 29 Lf)]
abbrev po_X5_cast (Z : zT) (o0 o1 o2 o3 o4 o5 o6 o7 o8 np : Nat) (th dy me co ca br ml le : Int32) (S E Tk Lf : Nat → Int32) (F G pn : Nat → Nat → Int32) (sv mv : Int32) : Int32 → Int32 × Int32 × Int32 × (Nat → Int32) → Prop := fun (r : Int32) (u : Int32 × Int32 × Int32 × (Nat → Int32)) => match u with | (th_1, me_1, ca_1, f_1) => (th_1 = nI 0 ∧ 0 = cdx (¬ isS sv) (¬ isM mv) (¬ mv * pr3 (sn sv) ≤ me ∨ ¬ bx_sum (sg S (sn sv)) 10 + mv ≤ nI 999) ∧ r = me - mv * pr3 (sn sv) ∧ me_1 = me - mv * pr3 (sn sv) ∧ ca_1 = ca + mv ∧ f_1 = stF (upd S (sn sv * 10 + 0) (S (sn sv * 10 + 0) + mv)) F G) ∨ (∃ k9, 1 ≤ k9 ∧ k9 = cdx (¬ isS sv) (¬ isM mv) (¬ mv * pr3 (sn sv) ≤ me ∨ ¬ bx_sum (sg S (sn sv)) 10 + mv ≤ nI 999) ∧ th_1 = nI k9 ∧ me_1 = me ∧ ca_1 = ca ∧ f_1 = stF S F G)
abbrev rm_X5_cast : Room := { frames := 2, cells := 0, slots := 0, locals := 42 }
set_option maxHeartbeats 4000000 in
set_option maxRecDepth 100000 in
theorem c_X5_cast (l : Launch) (Z : zT) (o0 o1 o2 o3 o4 o5 o6 o7 o8 np : Nat) (th dy me co ca br ml le : Int32) (S E Tk Lf : Nat → Int32) (F G pn : Nat → Nat → Int32) (sv mv : Int32) (hG : GA S F G) (hnp : np ≤ 6) : zMet l yX5_cast wsX5_cast rm_X5_cast [.ref o0, .int sv, .int mv] Z [(o0, .inr (5, [.int th, .int dy, .int me, .int co, .int (nI np), .int ca, .int br, .int ml, .ref o1, .ref o2, .ref o3, .ref o4, .ref o5, .ref o6, .int le, .ref o7, .ref o8])), (o1, zI Z 3770 (stF S F G)), (o2, zI Z 6 (qF pn 0)), (o3, zI Z 6 (qF pn 1)), (o4, zI Z 6 (qF pn 2)), (o5, zI Z 6 (qF pn 3)), (o6, zI Z 6 E), (o7, zI Z 29 Tk), (o8, zI Z 29 Lf)] (zQi Z (po_X5_cast Z o0 o1 o2 o3 o4 o5 o6 o7 o8 np th dy me co ca br ml le S E Tk Lf F G pn sv mv) (wp_X5_cast Z o0 o1 o2 o3 o4 o5 o6 o7 o8 np th dy me co ca br ml le S E Tk Lf F G pn sv mv)) 0 0 := by
  refine zstart (cc := cX5_cast) (maxL := 3) (ret := (some .int)) (by decide) rfl (Nat.le_of_ble_eq_true rfl) ?_
  intro p e s m below meth c ls A hx hb hr hC hlk hnm hX hW hl
  have hml := hC.2.2.1
  have hown : s.vm.findClass RX5 = some m.cls := hC.2.2.2.1
  have hts := hC.2.2.2.2
  have hl : lv_has ls 3 [(0, .ref o0), (1, .int sv), (2, .int mv)] := hl
  refine lv_aload_n hx hb dX5_cast_0 rfl (lv_at hl 0 rfl) ?_
  refine lv_iconst (v := nI 0) hx hb dX5_cast_1 (by decide) ?_
  refine z_put (C := RX5) (T := TX5) (N := 17) (v := .int (nI 0)) (ty := .int) hx hb hts mw_X5_cast_1 tyX5 tyX5_ok nmX5 hown hX hW 0 rfl rfl 0 (by decide) mw_X5_cast_0 (fun _ h9 => h9) rfl (by decide +kernel) rfl rfl (Nat.le_of_ble_eq_true rfl) dX5_cast_2 (fun H locs hW => ?_)
  have hW : zW Z s A [(o0, .inr (5, [.int (nI 0), .int dy, .int me, .int co, .int (nI np), .int ca, .int br, .int ml, .ref o1, .ref o2, .ref o3, .ref o4, .ref o5, .ref o6, .int le, .ref o7, .ref o8])), (o1, zI Z 3770 (stF S F G)), (o2, zI Z 6 (qF pn 0)), (o3, zI Z 6 (qF pn 1)), (o4, zI Z 6 (qF pn 2)), (o5, zI Z 6 (qF pn 3)), (o6, zI Z 6 E), (o7, zI Z 29 Tk), (o8, zI Z 29 Lf)] _ _ := hW
  refine lv_iload_n hx hb dX5_cast_5 rfl (lv_at hl 1 rfl) ?_
  refine zc_i (va_runS (As := [.int sv]) (rest := []) hC (c_X5_isSign l Z sv  _) (va_cwS 1 hts gX5_cast_X5_isSign rfl rfl rfl (by decide +kernel) ⟨Nat.le_of_ble_eq_true rfl, Nat.le_of_ble_eq_true rfl⟩) (zpreS hX hW [] rfl (by decide)) rfl rfl hl.1 rfl (lv_room (Nat.le_of_ble_eq_true rfl)) dX5_cast_6 ⟨Nat.le_of_ble_eq_true rfl, Nat.le_of_ble_eq_true rfl⟩) hX hW [] rfl (by decide) (fun _ => rfl) (fun r_6 u_6 H locs h_6 hW => ?_)
  have hW : zW Z s A [(o0, .inr (5, [.int (nI 0), .int dy, .int me, .int co, .int (nI np), .int ca, .int br, .int ml, .ref o1, .ref o2, .ref o3, .ref o4, .ref o5, .ref o6, .int le, .ref o7, .ref o8])), (o1, zI Z 3770 (stF S F G)), (o2, zI Z 6 (qF pn 0)), (o3, zI Z 6 (qF pn 1)), (o4, zI Z 6 (qF pn 2)), (o5, zI Z 6 (qF pn 3)), (o6, zI Z 6 E), (o7, zI Z 29 Tk), (o8, zI Z 29 Lf)] _ _ := hW
  subst h_6
  refine lv_if_ne (tgt := 18) hx hb dX5_cast_9 (by decide) (fun c_9 => ?_) (fun c_9 => ?_)
  · have hS9 : isS sv := bI_n c_9
    have hS8 := hS9.1
    have hl : lv_has ls 3 [(0, .ref o0), (1, .int (nI (sn sv))), (2, .int mv)] := by rw [← hS9.2]; exact hl
    refine lv_iload_n hx hb dX5_cast_18 rfl (lv_at hl 2 rfl) ?_
    refine lv_iconst (v := nI 1) hx hb dX5_cast_19 (by decide) ?_
    refine lv_sipush (v := nI 200) hx hb dX5_cast_20 (by decide) ?_
    refine zc_i (va_runS (As := [.int mv, .int (nI 1), .int (nI 200)]) (rest := []) hC (c_X5_isIn l Z mv (nI 1) (nI 200)  _) (va_cwS 3 hts gX5_cast_X5_isIn rfl rfl rfl (by decide +kernel) ⟨Nat.le_of_ble_eq_true rfl, Nat.le_of_ble_eq_true rfl⟩) (zpreS hX hW [] rfl (by decide)) rfl rfl hl.1 rfl (lv_room (Nat.le_of_ble_eq_true rfl)) dX5_cast_23 ⟨Nat.le_of_ble_eq_true rfl, Nat.le_of_ble_eq_true rfl⟩) hX hW [] rfl (by decide) (fun _ => rfl) (fun r_23 u_23 H locs h_23 hW => ?_)
    have hW : zW Z s A [(o0, .inr (5, [.int (nI 0), .int dy, .int me, .int co, .int (nI np), .int ca, .int br, .int ml, .ref o1, .ref o2, .ref o3, .ref o4, .ref o5, .ref o6, .int le, .ref o7, .ref o8])), (o1, zI Z 3770 (stF S F G)), (o2, zI Z 6 (qF pn 0)), (o3, zI Z 6 (qF pn 1)), (o4, zI Z 6 (qF pn 2)), (o5, zI Z 6 (qF pn 3)), (o6, zI Z 6 E), (o7, zI Z 29 Tk), (o8, zI Z 29 Lf)] _ _ := hW
    subst h_23
    refine lv_if_ne (tgt := 35) hx hb dX5_cast_26 (by decide) (fun c_26 => ?_) (fun c_26 => ?_)
    · have hM9 : isM mv := bI_n c_26
      refine lv_iload_n hx hb dX5_cast_35 rfl (lv_at hl 2 rfl) ?_
      refine lv_iload_n hx hb dX5_cast_36 rfl (lv_at hl 1 rfl) ?_
      refine zc_i (va_runS (As := [.int (nI (sn sv))]) (rest := [.int mv]) hC (c_X5_price l Z (sn sv) (by omega) _) (va_cwS 1 hts gX5_cast_X5_price rfl rfl rfl (by decide +kernel) ⟨Nat.le_of_ble_eq_true rfl, Nat.le_of_ble_eq_true rfl⟩) (zpreS hX hW [] rfl (by decide)) rfl rfl hl.1 rfl (lv_room (Nat.le_of_ble_eq_true rfl)) dX5_cast_37 ⟨Nat.le_of_ble_eq_true rfl, Nat.le_of_ble_eq_true rfl⟩) hX hW [] rfl (by decide) (fun _ => rfl) (fun r_37 u_37 H locs h_37 hW => ?_)
      have hW : zW Z s A [(o0, .inr (5, [.int (nI 0), .int dy, .int me, .int co, .int (nI np), .int ca, .int br, .int ml, .ref o1, .ref o2, .ref o3, .ref o4, .ref o5, .ref o6, .int le, .ref o7, .ref o8])), (o1, zI Z 3770 (stF S F G)), (o2, zI Z 6 (qF pn 0)), (o3, zI Z 6 (qF pn 1)), (o4, zI Z 6 (qF pn 2)), (o5, zI Z 6 (qF pn 3)), (o6, zI Z 6 E), (o7, zI Z 29 Tk), (o8, zI Z 29 Lf)] _ _ := hW
      subst h_37
      refine lv_imul hx hb dX5_cast_40 ?_
      refine lv_aload_n hx hb dX5_cast_41 rfl (lv_at hl 0 rfl) ?_
      refine z_get (C := RX5) (T := TX5) (N := 17) hx hb hts mw_X5_cast_1 hown hX hW 0 rfl rfl 2 (by decide) mw_X5_cast_2 (fun _ h9 => h9) rfl dX5_cast_42 ?_
      refine lv_icmp_gt (tgt := 62) hx hb dX5_cast_45 (by decide) (fun c_45 => ?_) (fun c_45 => ?_)
      · refine lv_aload_n hx hb dX5_cast_62 rfl (lv_at hl 0 rfl) ?_
        refine lv_iconst (v := nI 3) hx hb dX5_cast_63 (by decide) ?_
        refine zc_i (va_runV (As := [.int (nI 3)]) (rest := []) hC (c_X5_no l Z o0 o1 o2 o3 o4 o5 o6 o7 o8 np (nI 0) dy me co ca br ml le 3  _) (cwV 1 hts gX5_cast_X5_no rfl rfl rfl (by decide +kernel) ⟨Nat.le_of_ble_eq_true rfl, Nat.le_of_ble_eq_true rfl⟩) (zpreV (ci := 5) (q0 := 0) hX hW rfl rfl [0] rfl (by decide)) rfl rfl hl.1 rfl (lv_room (Nat.le_of_ble_eq_true rfl)) dX5_cast_64 ⟨Nat.le_of_ble_eq_true rfl, Nat.le_of_ble_eq_true rfl⟩) hX hW [0] rfl (by decide) (fun _ => rfl) (fun r_64 u_64 H locs h_64 hW => ?_)
        have hW : zW Z s A [(o0, .inr (5, [.int (nI 3), .int dy, .int me, .int co, .int (nI np), .int ca, .int br, .int ml, .ref o1, .ref o2, .ref o3, .ref o4, .ref o5, .ref o6, .int le, .ref o7, .ref o8])), (o1, zI Z 3770 (stF S F G)), (o2, zI Z 6 (qF pn 0)), (o3, zI Z 6 (qF pn 1)), (o4, zI Z 6 (qF pn 2)), (o5, zI Z 6 (qF pn 3)), (o6, zI Z 6 E), (o7, zI Z 29 Tk), (o8, zI Z 29 Lf)] _ _ := hW
        subst h_64
        exact z_iret hx hb hr hlk hW (nI 3, me, ca, stF S F G) (by unfold po_X5_cast; exact Or.inr ⟨3, by omega, cdx_3 (fun h6 => h6 hS9) (fun h6 => h6 hM9) (by first | exact Or.inl (Int32.not_le.mpr c_45) | exact Or.inr c_59), rfl, rfl, rfl, rfl⟩) (rfl) (by omega) (by omega) dX5_cast_67
      · refine lv_aload_n hx hb dX5_cast_48 rfl (lv_at hl 0 rfl) ?_
        refine lv_iconst (v := nI 0) hx hb dX5_cast_49 (by decide) ?_
        refine lv_iload_n hx hb dX5_cast_50 rfl (lv_at hl 1 rfl) ?_
        refine zc_i (va_runV (As := [.int (nI 0), .int (nI (sn sv))]) (rest := []) hC (c_X5_many l Z o0 o1 o2 o3 o4 o5 o6 o7 o8 np (nI 0) dy me co ca br ml le (stF S F G) 0 (sn sv) (by omega) (by omega) _) (cwV 2 hts gX5_cast_X5_many rfl rfl rfl (by decide +kernel) ⟨Nat.le_of_ble_eq_true rfl, Nat.le_of_ble_eq_true rfl⟩) (zpreV (ci := 5) (q0 := 0) hX hW rfl rfl [0, 1] rfl (by decide)) rfl rfl hl.1 rfl (lv_room (Nat.le_of_ble_eq_true rfl)) dX5_cast_51 ⟨Nat.le_of_ble_eq_true rfl, Nat.le_of_ble_eq_true rfl⟩) hX hW [0, 1] rfl (by decide) (fun _ => rfl) (fun r_51 u_51 H locs h_51 hW => ?_)
        have hW : zW Z s A [(o0, .inr (5, [.int (nI 0), .int dy, .int me, .int co, .int (nI np), .int ca, .int br, .int ml, .ref o1, .ref o2, .ref o3, .ref o4, .ref o5, .ref o6, .int le, .ref o7, .ref o8])), (o1, zI Z 3770 (stF S F G)), (o2, zI Z 6 (qF pn 0)), (o3, zI Z 6 (qF pn 1)), (o4, zI Z 6 (qF pn 2)), (o5, zI Z 6 (qF pn 3)), (o6, zI Z 6 E), (o7, zI Z 29 Tk), (o8, zI Z 29 Lf)] _ _ := hW
        subst h_51
        refine zw_topi (y := (bx_sum (sg S (sn sv)) 10)) (by rw [sh_S hG.1]) ?_
        refine lv_iload_n hx hb dX5_cast_54 rfl (lv_at hl 2 rfl) ?_
        refine lv_iadd hx hb dX5_cast_55 ?_
        refine lv_sipush (v := nI 999) hx hb dX5_cast_56 (by decide) ?_
        refine lv_icmp_le (tgt := 68) hx hb dX5_cast_59 (by decide) (fun c_59 => ?_) (fun c_59 => ?_)
        · refine lv_aload_n hx hb dX5_cast_68 rfl (lv_at hl 0 rfl) ?_
          refine lv_dup hx hb dX5_cast_69 rfl ?_
          refine z_get (C := RX5) (T := TX5) (N := 17) hx hb hts mw_X5_cast_1 hown hX hW 0 rfl rfl 2 (by decide) mw_X5_cast_2 (fun _ h9 => h9) rfl dX5_cast_70 ?_
          refine lv_iload_n hx hb dX5_cast_73 rfl (lv_at hl 2 rfl) ?_
          refine lv_iload_n hx hb dX5_cast_74 rfl (lv_at hl 1 rfl) ?_
          refine zc_i (va_runS (As := [.int (nI (sn sv))]) (rest := [.int mv, .int me, .ref o0]) hC (c_X5_price l Z (sn sv) (by omega) _) (va_cwS 1 hts gX5_cast_X5_price rfl rfl rfl (by decide +kernel) ⟨Nat.le_of_ble_eq_true rfl, Nat.le_of_ble_eq_true rfl⟩) (zpreS hX hW [] rfl (by decide)) rfl rfl hl.1 rfl (lv_room (Nat.le_of_ble_eq_true rfl)) dX5_cast_75 ⟨Nat.le_of_ble_eq_true rfl, Nat.le_of_ble_eq_true rfl⟩) hX hW [] rfl (by decide) (fun _ => rfl) (fun r_75 u_75 H locs h_75 hW => ?_)
          have hW : zW Z s A [(o0, .inr (5, [.int (nI 0), .int dy, .int me, .int co, .int (nI np), .int ca, .int br, .int ml, .ref o1, .ref o2, .ref o3, .ref o4, .ref o5, .ref o6, .int le, .ref o7, .ref o8])), (o1, zI Z 3770 (stF S F G)), (o2, zI Z 6 (qF pn 0)), (o3, zI Z 6 (qF pn 1)), (o4, zI Z 6 (qF pn 2)), (o5, zI Z 6 (qF pn 3)), (o6, zI Z 6 E), (o7, zI Z 29 Tk), (o8, zI Z 29 Lf)] _ _ := hW
          subst h_75
          refine lv_imul hx hb dX5_cast_78 ?_
          refine lv_isub hx hb dX5_cast_79 ?_
          refine z_put (C := RX5) (T := TX5) (N := 17) (v := .int (me - (mv * (pr3 (sn sv))))) (ty := .int) hx hb hts mw_X5_cast_1 tyX5 tyX5_ok nmX5 hown hX hW 0 rfl rfl 2 (by decide) mw_X5_cast_2 (fun _ h9 => h9) rfl (by decide +kernel) rfl rfl (Nat.le_of_ble_eq_true rfl) dX5_cast_80 (fun H locs hW => ?_)
          have hW : zW Z s A [(o0, .inr (5, [.int (nI 0), .int dy, .int (me - (mv * (pr3 (sn sv)))), .int co, .int (nI np), .int ca, .int br, .int ml, .ref o1, .ref o2, .ref o3, .ref o4, .ref o5, .ref o6, .int le, .ref o7, .ref o8])), (o1, zI Z 3770 (stF S F G)), (o2, zI Z 6 (qF pn 0)), (o3, zI Z 6 (qF pn 1)), (o4, zI Z 6 (qF pn 2)), (o5, zI Z 6 (qF pn 3)), (o6, zI Z 6 E), (o7, zI Z 29 Tk), (o8, zI Z 29 Lf)] _ _ := hW
          refine lv_aload_n hx hb dX5_cast_83 rfl (lv_at hl 0 rfl) ?_
          refine z_get (C := RX5) (T := TX5) (N := 17) hx hb hts mw_X5_cast_1 hown hX hW 0 rfl rfl 8 (by decide) mw_X5_cast_3 (fun _ h9 => h9) rfl dX5_cast_84 ?_
          refine lv_bipush (v := nI 10) hx hb dX5_cast_87 (by decide) ?_
          refine lv_iload_n hx hb dX5_cast_89 rfl (lv_at hl 1 rfl) ?_
          refine lv_imul hx hb dX5_cast_90 ?_
          refine zw_topi (pk_mul _ _) ?_
          refine lv_dup2_11 hx hb dX5_cast_91 rfl rfl ?_
          refine z_iald hx hb hX hW 1 rfl (k := (10 * (sn sv))) (by omega) (by omega) dX5_cast_92 ?_
          refine lv_iload_n hx hb dX5_cast_93 rfl (lv_at hl 2 rfl) ?_
          refine lv_iadd hx hb dX5_cast_94 ?_
          refine z_iast hx hb hX hW 1 rfl (k := (10 * (sn sv))) (by omega) (by omega) dX5_cast_95 (fun H locs hW => ?_)
          have hW : zW Z s A [(o0, .inr (5, [.int (nI 0), .int dy, .int (me - (mv * (pr3 (sn sv)))), .int co, .int (nI np), .int ca, .int br, .int ml, .ref o1, .ref o2, .ref o3, .ref o4, .ref o5, .ref o6, .int le, .ref o7, .ref o8])), (o1, zI Z 3770 (upd (stF S F G) (10 * (sn sv)) (((stF S F G) (10 * (sn sv))) + mv))), (o2, zI Z 6 (qF pn 0)), (o3, zI Z 6 (qF pn 1)), (o4, zI Z 6 (qF pn 2)), (o5, zI Z 6 (qF pn 3)), (o6, zI Z 6 E), (o7, zI Z 29 Tk), (o8, zI Z 29 Lf)] _ _ := hW
          refine lv_aload_n hx hb dX5_cast_96 rfl (lv_at hl 0 rfl) ?_
          refine lv_dup hx hb dX5_cast_97 rfl ?_
          refine z_get (C := RX5) (T := TX5) (N := 17) hx hb hts mw_X5_cast_1 hown hX hW 0 rfl rfl 5 (by decide) mw_X5_cast_4 (fun _ h9 => h9) rfl dX5_cast_98 ?_
          refine lv_iload_n hx hb dX5_cast_101 rfl (lv_at hl 2 rfl) ?_
          refine lv_iadd hx hb dX5_cast_102 ?_
          refine z_put (C := RX5) (T := TX5) (N := 17) (v := .int (ca + mv)) (ty := .int) hx hb hts mw_X5_cast_1 tyX5 tyX5_ok nmX5 hown hX hW 0 rfl rfl 5 (by decide) mw_X5_cast_4 (fun _ h9 => h9) rfl (by decide +kernel) rfl rfl (Nat.le_of_ble_eq_true rfl) dX5_cast_103 (fun H locs hW => ?_)
          have hW : zW Z s A [(o0, .inr (5, [.int (nI 0), .int dy, .int (me - (mv * (pr3 (sn sv)))), .int co, .int (nI np), .int (ca + mv), .int br, .int ml, .ref o1, .ref o2, .ref o3, .ref o4, .ref o5, .ref o6, .int le, .ref o7, .ref o8])), (o1, zI Z 3770 (upd (stF S F G) (10 * (sn sv)) (((stF S F G) (10 * (sn sv))) + mv))), (o2, zI Z 6 (qF pn 0)), (o3, zI Z 6 (qF pn 1)), (o4, zI Z 6 (qF pn 2)), (o5, zI Z 6 (qF pn 3)), (o6, zI Z 6 E), (o7, zI Z 29 Tk), (o8, zI Z 29 Lf)] _ _ := hW
          refine lv_aload_n hx hb dX5_cast_106 rfl (lv_at hl 0 rfl) ?_
          refine z_get (C := RX5) (T := TX5) (N := 17) hx hb hts mw_X5_cast_1 hown hX hW 0 rfl rfl 2 (by decide) mw_X5_cast_2 (fun _ h9 => h9) rfl dX5_cast_107 ?_
          exact z_iret hx hb hr hlk hW ((nI 0), me - (mv * (pr3 (sn sv))), ca + mv, upd (stF S F G) (10 * (sn sv)) (((stF S F G) (10 * (sn sv))) + mv)) (by unfold po_X5_cast; exact Or.inl ⟨rfl, cdx_0 (fun h6 => h6 hS9) (fun h6 => h6 hM9) (fun h6 => h6.elim (fun h7 => h7 (Int32.not_lt.mp c_45)) (fun h7 => h7 c_59)), rfl, rfl, rfl, (by rw [st_uS (by have := hS9.1; omega), stF_S (by have := hS9.1; omega), show 10 * sn sv = sn sv * 10 + 0 by omega])⟩) (rfl) (by omega) (by omega) dX5_cast_110
        · refine lv_aload_n hx hb dX5_cast_62 rfl (lv_at hl 0 rfl) ?_
          refine lv_iconst (v := nI 3) hx hb dX5_cast_63 (by decide) ?_
          refine zc_i (va_runV (As := [.int (nI 3)]) (rest := []) hC (c_X5_no l Z o0 o1 o2 o3 o4 o5 o6 o7 o8 np (nI 0) dy me co ca br ml le 3  _) (cwV 1 hts gX5_cast_X5_no rfl rfl rfl (by decide +kernel) ⟨Nat.le_of_ble_eq_true rfl, Nat.le_of_ble_eq_true rfl⟩) (zpreV (ci := 5) (q0 := 0) hX hW rfl rfl [0] rfl (by decide)) rfl rfl hl.1 rfl (lv_room (Nat.le_of_ble_eq_true rfl)) dX5_cast_64 ⟨Nat.le_of_ble_eq_true rfl, Nat.le_of_ble_eq_true rfl⟩) hX hW [0] rfl (by decide) (fun _ => rfl) (fun r_64 u_64 H locs h_64 hW => ?_)
          have hW : zW Z s A [(o0, .inr (5, [.int (nI 3), .int dy, .int me, .int co, .int (nI np), .int ca, .int br, .int ml, .ref o1, .ref o2, .ref o3, .ref o4, .ref o5, .ref o6, .int le, .ref o7, .ref o8])), (o1, zI Z 3770 (stF S F G)), (o2, zI Z 6 (qF pn 0)), (o3, zI Z 6 (qF pn 1)), (o4, zI Z 6 (qF pn 2)), (o5, zI Z 6 (qF pn 3)), (o6, zI Z 6 E), (o7, zI Z 29 Tk), (o8, zI Z 29 Lf)] _ _ := hW
          subst h_64
          exact z_iret hx hb hr hlk hW (nI 3, me, ca, (stF S F G)) (by unfold po_X5_cast; exact Or.inr ⟨3, by omega, cdx_3 (fun h6 => h6 hS9) (fun h6 => h6 hM9) (by first | exact Or.inl (Int32.not_le.mpr c_45) | exact Or.inr c_59), rfl, rfl, rfl, rfl⟩) (rfl) (by omega) (by omega) dX5_cast_67
    · refine lv_aload_n hx hb dX5_cast_29 rfl (lv_at hl 0 rfl) ?_
      refine lv_iconst (v := nI 2) hx hb dX5_cast_30 (by decide) ?_
      refine zc_i (va_runV (As := [.int (nI 2)]) (rest := []) hC (c_X5_no l Z o0 o1 o2 o3 o4 o5 o6 o7 o8 np (nI 0) dy me co ca br ml le 2  _) (cwV 1 hts gX5_cast_X5_no rfl rfl rfl (by decide +kernel) ⟨Nat.le_of_ble_eq_true rfl, Nat.le_of_ble_eq_true rfl⟩) (zpreV (ci := 5) (q0 := 0) hX hW rfl rfl [0] rfl (by decide)) rfl rfl hl.1 rfl (lv_room (Nat.le_of_ble_eq_true rfl)) dX5_cast_31 ⟨Nat.le_of_ble_eq_true rfl, Nat.le_of_ble_eq_true rfl⟩) hX hW [0] rfl (by decide) (fun _ => rfl) (fun r_31 u_31 H locs h_31 hW => ?_)
      have hW : zW Z s A [(o0, .inr (5, [.int (nI 2), .int dy, .int me, .int co, .int (nI np), .int ca, .int br, .int ml, .ref o1, .ref o2, .ref o3, .ref o4, .ref o5, .ref o6, .int le, .ref o7, .ref o8])), (o1, zI Z 3770 (stF S F G)), (o2, zI Z 6 (qF pn 0)), (o3, zI Z 6 (qF pn 1)), (o4, zI Z 6 (qF pn 2)), (o5, zI Z 6 (qF pn 3)), (o6, zI Z 6 E), (o7, zI Z 29 Tk), (o8, zI Z 29 Lf)] _ _ := hW
      subst h_31
      exact z_iret hx hb hr hlk hW (nI 2, me, ca, stF S F G) (by unfold po_X5_cast; exact Or.inr ⟨2, by omega, cdx_2 (fun h6 => h6 hS9) (bI_e c_26), rfl, rfl, rfl, rfl⟩) (rfl) (by omega) (by omega) dX5_cast_34
  · refine lv_aload_n hx hb dX5_cast_12 rfl (lv_at hl 0 rfl) ?_
    refine lv_iconst (v := nI 1) hx hb dX5_cast_13 (by decide) ?_
    refine zc_i (va_runV (As := [.int (nI 1)]) (rest := []) hC (c_X5_no l Z o0 o1 o2 o3 o4 o5 o6 o7 o8 np (nI 0) dy me co ca br ml le 1  _) (cwV 1 hts gX5_cast_X5_no rfl rfl rfl (by decide +kernel) ⟨Nat.le_of_ble_eq_true rfl, Nat.le_of_ble_eq_true rfl⟩) (zpreV (ci := 5) (q0 := 0) hX hW rfl rfl [0] rfl (by decide)) rfl rfl hl.1 rfl (lv_room (Nat.le_of_ble_eq_true rfl)) dX5_cast_14 ⟨Nat.le_of_ble_eq_true rfl, Nat.le_of_ble_eq_true rfl⟩) hX hW [0] rfl (by decide) (fun _ => rfl) (fun r_14 u_14 H locs h_14 hW => ?_)
    have hW : zW Z s A [(o0, .inr (5, [.int (nI 1), .int dy, .int me, .int co, .int (nI np), .int ca, .int br, .int ml, .ref o1, .ref o2, .ref o3, .ref o4, .ref o5, .ref o6, .int le, .ref o7, .ref o8])), (o1, zI Z 3770 (stF S F G)), (o2, zI Z 6 (qF pn 0)), (o3, zI Z 6 (qF pn 1)), (o4, zI Z 6 (qF pn 2)), (o5, zI Z 6 (qF pn 3)), (o6, zI Z 6 E), (o7, zI Z 29 Tk), (o8, zI Z 29 Lf)] _ _ := hW
    subst h_14
    exact z_iret hx hb hr hlk hW (nI 1, me, ca, stF S F G) (by unfold po_X5_cast; exact Or.inr ⟨1, by omega, cdx_1 (bI_e c_9), rfl, rfl, rfl, rfl⟩) (rfl) (by omega) (by omega) dX5_cast_17
