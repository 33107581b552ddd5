theorem mw_X5_sorts_0 : Cond.fieldLink RX5 38 "TypeFoundryModel" "thrown" "I" ∈ wsX5_sorts := by decide +kernel
theorem mw_X5_sorts_1 : ∀ w ∈ wsX50, w ∈ wsX5_sorts := by decide +kernel
theorem mw_X5_sorts_2 : Cond.fieldLink RX5 13 "TypeFoundryModel" "store" "[I" ∈ wsX5_sorts := by decide +kernel
abbrev wp_X5_sorts (Z : zT) (o0 o1 o2 o3 o4 o5 o6 o7 o8 np : Nat) (th dy me co ca br ml le : Int32) (S E Tk Lf : Nat → Int32) (F G pn : Nat → Nat → Int32) (pv sv wv : Int32) : Int32 → va_W := fun (u : Int32) => match u with | th_1 => [(o0, .inr (5, [.int th_1, .int dy, .int me, .int co, .int (nI np), .int ca, .int br, .int ml, .ref o1, .ref o2, .ref o3, .ref o4, .ref o5, .ref o6, .int le, .ref o7, .ref o8])), (o1, zI Z 3770 (stF S F G)), (o2, zI Z 6 (qF pn 0)), (o3, zI Z 6 (qF pn 1)), (o4, zI Z 6 (qF pn 2)), (o5, zI Z 6 (qF pn 3)), (o6, zI Z 6 E), (o7, zI Z 29 Tk), (o8, zI Z 29 Lf)]
abbrev po_X5_sorts (Z : zT) (o0 o1 o2 o3 o4 o5 o6 o7 o8 np : Nat) (th dy me co ca br ml le : Int32) (S E Tk Lf : Nat → Int32) (F G pn : Nat → Nat → Int32) (pv sv wv : Int32) : Int32 → Int32 → Prop := fun (r : Int32) (u : Int32) => match u with | th_1 => (th_1 = nI 0 ∧ 0 = cdx (¬ ((pv = -1 ∨ isP pv np) ∧ isS sv ∧ (sn wv < 10 ∧ wv = nI (sn wv)))) (False) (False) ∧ r = (if pv = -1 then S else F (sn pv)) (sn sv * 10 + sn wv)) ∨ (∃ k9, 1 ≤ k9 ∧ k9 = cdx (¬ ((pv = -1 ∨ isP pv np) ∧ isS sv ∧ (sn wv < 10 ∧ wv = nI (sn wv)))) (False) (False) ∧ th_1 = nI k9)
abbrev rm_X5_sorts : Room := { frames := 2, cells := 0, slots := 0, locals := 43 }
set_option maxHeartbeats 4000000 in
set_option maxRecDepth 100000 in
theorem c_X5_sorts (l : Launch) (Z : zT) (o0 o1 o2 o3 o4 o5 o6 o7 o8 np : Nat) (th dy me co ca br ml le : Int32) (S E Tk Lf : Nat → Int32) (F G pn : Nat → Nat → Int32) (pv sv wv : Int32) (hG : GA S F G) (hnp : np ≤ 6) : zMet l yX5_sorts wsX5_sorts rm_X5_sorts [.ref o0, .int pv, .int sv, .int wv] Z [(o0, .inr (5, [.int th, .int dy, .int me, .int co, .int (nI np), .int ca, .int br, .int ml, .ref o1, .ref o2, .ref o3, .ref o4, .ref o5, .ref o6, .int le, .ref o7, .ref o8])), (o1, zI Z 3770 (stF S F G)), (o2, zI Z 6 (qF pn 0)), (o3, zI Z 6 (qF pn 1)), (o4, zI Z 6 (qF pn 2)), (o5, zI Z 6 (qF pn 3)), (o6, zI Z 6 E), (o7, zI Z 29 Tk), (o8, zI Z 29 Lf)] (zQi Z (po_X5_sorts Z o0 o1 o2 o3 o4 o5 o6 o7 o8 np th dy me co ca br ml le S E Tk Lf F G pn pv sv wv) (wp_X5_sorts Z o0 o1 o2 o3 o4 o5 o6 o7 o8 np th dy me co ca br ml le S E Tk Lf F G pn pv sv wv)) 0 0 := by
  refine zstart (cc := cX5_sorts) (maxL := 5) (ret := (some .int)) (by decide) rfl (Nat.le_of_ble_eq_true rfl) ?_
  intro p e s m below meth c ls A hx hb hr hC hlk hnm hX hW hl
  have hml := hC.2.2.1
  have hown : s.vm.findClass RX5 = some m.cls := hC.2.2.2.1
  have hts := hC.2.2.2.2
  have hl : lv_has ls 5 [(0, .ref o0), (1, .int pv), (2, .int sv), (3, .int wv)] := hl
  refine lv_aload_n hx hb dX5_sorts_0 rfl (lv_at hl 0 rfl) ?_
  refine lv_iconst (v := nI 0) hx hb dX5_sorts_1 (by decide) ?_
  refine z_put (C := RX5) (T := TX5) (N := 17) (v := .int (nI 0)) (ty := .int) hx hb hts mw_X5_sorts_1 tyX5 tyX5_ok nmX5 hown hX hW 0 rfl rfl 0 (by decide) mw_X5_sorts_0 (fun _ h9 => h9) rfl (by decide +kernel) rfl rfl (Nat.le_of_ble_eq_true rfl) dX5_sorts_2 (fun H locs hW => ?_)
  have hW : zW Z s A [(o0, .inr (5, [.int (nI 0), .int dy, .int me, .int co, .int (nI np), .int ca, .int br, .int ml, .ref o1, .ref o2, .ref o3, .ref o4, .ref o5, .ref o6, .int le, .ref o7, .ref o8])), (o1, zI Z 3770 (stF S F G)), (o2, zI Z 6 (qF pn 0)), (o3, zI Z 6 (qF pn 1)), (o4, zI Z 6 (qF pn 2)), (o5, zI Z 6 (qF pn 3)), (o6, zI Z 6 E), (o7, zI Z 29 Tk), (o8, zI Z 29 Lf)] _ _ := hW
  refine lv_iload_n hx hb dX5_sorts_5 rfl (lv_at hl 1 rfl) ?_
  refine lv_iconst (v := -1) hx hb dX5_sorts_6 (by decide) ?_
  refine lv_icmp_eq (tgt := 18) hx hb dX5_sorts_7 (by decide) (fun c_7 => ?_) (fun c_7 => ?_)
  · refine lv_iload_n hx hb dX5_sorts_18 rfl (lv_at hl 2 rfl) ?_
    refine zc_i (va_runS (As := [.int sv]) (rest := []) hC (c_X5_isSign l Z sv  _) (va_cwS 1 hts gX5_sorts_X5_isSign rfl rfl rfl (by decide +kernel) ⟨Nat.le_of_ble_eq_true rfl, Nat.le_of_ble_eq_true rfl⟩) (zpreS hX hW [] rfl (by decide)) rfl rfl hl.1 rfl (lv_room (Nat.le_of_ble_eq_true rfl)) dX5_sorts_19 ⟨Nat.le_of_ble_eq_true rfl, Nat.le_of_ble_eq_true rfl⟩) hX hW [] rfl (by decide) (fun _ => rfl) (fun r_19 u_19 H locs h_19 hW => ?_)
    have hW : zW Z s A [(o0, .inr (5, [.int (nI 0), .int dy, .int me, .int co, .int (nI np), .int ca, .int br, .int ml, .ref o1, .ref o2, .ref o3, .ref o4, .ref o5, .ref o6, .int le, .ref o7, .ref o8])), (o1, zI Z 3770 (stF S F G)), (o2, zI Z 6 (qF pn 0)), (o3, zI Z 6 (qF pn 1)), (o4, zI Z 6 (qF pn 2)), (o5, zI Z 6 (qF pn 3)), (o6, zI Z 6 E), (o7, zI Z 29 Tk), (o8, zI Z 29 Lf)] _ _ := hW
    subst h_19
    refine lv_if_eq (tgt := 39) hx hb dX5_sorts_22 (by decide) (fun c_22 => ?_) (fun c_22 => ?_)
    · refine lv_iconst (v := nI 0) hx hb dX5_sorts_39 (by decide) ?_
      refine lv_istore (lv' := [(4, .int (nI 0)), (0, .ref o0), (1, .int pv), (2, .int sv), (3, .int wv)]) hx hb dX5_sorts_40 hl (by decide) rfl (fun ls hl => ?_)
      refine lv_iload hx hb dX5_sorts_42 (lv_at hl 0 rfl) ?_
      refine zn_if_eq (tgt := 66) (a := 0) hx hb (by omega) dX5_sorts_44 (by decide) (fun c_44 => ?_) (fun c_44 => absurd rfl c_44)
      refine lv_aload_n hx hb dX5_sorts_66 rfl (lv_at hl 1 rfl) ?_
      refine lv_iconst (v := nI 1) hx hb dX5_sorts_67 (by decide) ?_
      refine zc_i (va_runV (As := [.int (nI 1)]) (rest := []) hC (c_X5_no l Z o0 o1 o2 o3 o4 o5 o6 o7 o8 np (nI 0) dy me co ca br ml le 1  _) (cwV 1 hts gX5_sorts_X5_no rfl rfl rfl (by decide +kernel) ⟨Nat.le_of_ble_eq_true rfl, Nat.le_of_ble_eq_true rfl⟩) (zpreV (ci := 5) (q0 := 0) hX hW rfl rfl [0] rfl (by decide)) rfl rfl hl.1 rfl (lv_room (Nat.le_of_ble_eq_true rfl)) dX5_sorts_68 ⟨Nat.le_of_ble_eq_true rfl, Nat.le_of_ble_eq_true rfl⟩) hX hW [0] rfl (by decide) (fun _ => rfl) (fun r_68 u_68 H locs h_68 hW => ?_)
      have hW : zW Z s A [(o0, .inr (5, [.int (nI 1), .int dy, .int me, .int co, .int (nI np), .int ca, .int br, .int ml, .ref o1, .ref o2, .ref o3, .ref o4, .ref o5, .ref o6, .int le, .ref o7, .ref o8])), (o1, zI Z 3770 (stF S F G)), (o2, zI Z 6 (qF pn 0)), (o3, zI Z 6 (qF pn 1)), (o4, zI Z 6 (qF pn 2)), (o5, zI Z 6 (qF pn 3)), (o6, zI Z 6 E), (o7, zI Z 29 Tk), (o8, zI Z 29 Lf)] _ _ := hW
      subst h_68
      exact z_iret hx hb hr hlk hW (nI 1) (by unfold po_X5_sorts; exact Or.inr ⟨1, by omega, cdx_1 (fun h6 => by first | exact h6.1.elim c_7 (bI_e c_15) | exact bI_e c_22 h6.2.1 | exact bI_e c_32 ((zin_iff (n := 9) (by omega)).mpr h6.2.2)), rfl⟩) (rfl) (by omega) (by omega) dX5_sorts_71
    · refine lv_iload_n hx hb dX5_sorts_25 rfl (lv_at hl 3 rfl) ?_
      refine lv_iconst (v := nI 0) hx hb dX5_sorts_26 (by decide) ?_
      refine lv_bipush (v := nI 9) hx hb dX5_sorts_27 (by decide) ?_
      refine zc_i (va_runS (As := [.int wv, .int (nI 0), .int (nI 9)]) (rest := []) hC (c_X5_isIn l Z wv (nI 0) (nI 9)  _) (va_cwS 3 hts gX5_sorts_X5_isIn rfl rfl rfl (by decide +kernel) ⟨Nat.le_of_ble_eq_true rfl, Nat.le_of_ble_eq_true rfl⟩) (zpreS hX hW [] rfl (by decide)) rfl rfl hl.1 rfl (lv_room (Nat.le_of_ble_eq_true rfl)) dX5_sorts_29 ⟨Nat.le_of_ble_eq_true rfl, Nat.le_of_ble_eq_true rfl⟩) hX hW [] rfl (by decide) (fun _ => rfl) (fun r_29 u_29 H locs h_29 hW => ?_)
      have hW : zW Z s A [(o0, .inr (5, [.int (nI 0), .int dy, .int me, .int co, .int (nI np), .int ca, .int br, .int ml, .ref o1, .ref o2, .ref o3, .ref o4, .ref o5, .ref o6, .int le, .ref o7, .ref o8])), (o1, zI Z 3770 (stF S F G)), (o2, zI Z 6 (qF pn 0)), (o3, zI Z 6 (qF pn 1)), (o4, zI Z 6 (qF pn 2)), (o5, zI Z 6 (qF pn 3)), (o6, zI Z 6 E), (o7, zI Z 29 Tk), (o8, zI Z 29 Lf)] _ _ := hW
      subst h_29
      refine lv_if_eq (tgt := 39) hx hb dX5_sorts_32 (by decide) (fun c_32 => ?_) (fun c_32 => ?_)
      · refine lv_iconst (v := nI 0) hx hb dX5_sorts_39 (by decide) ?_
        refine lv_istore (lv' := [(4, .int (nI 0)), (0, .ref o0), (1, .int pv), (2, .int sv), (3, .int wv)]) hx hb dX5_sorts_40 hl (by decide) rfl (fun ls hl => ?_)
        refine lv_iload hx hb dX5_sorts_42 (lv_at hl 0 rfl) ?_
        refine zn_if_eq (tgt := 66) (a := 0) hx hb (by omega) dX5_sorts_44 (by decide) (fun c_44 => ?_) (fun c_44 => absurd rfl c_44)
        refine lv_aload_n hx hb dX5_sorts_66 rfl (lv_at hl 1 rfl) ?_
        refine lv_iconst (v := nI 1) hx hb dX5_sorts_67 (by decide) ?_
        refine zc_i (va_runV (As := [.int (nI 1)]) (rest := []) hC (c_X5_no l Z o0 o1 o2 o3 o4 o5 o6 o7 o8 np (nI 0) dy me co ca br ml le 1  _) (cwV 1 hts gX5_sorts_X5_no rfl rfl rfl (by decide +kernel) ⟨Nat.le_of_ble_eq_true rfl, Nat.le_of_ble_eq_true rfl⟩) (zpreV (ci := 5) (q0 := 0) hX hW rfl rfl [0] rfl (by decide)) rfl rfl hl.1 rfl (lv_room (Nat.le_of_ble_eq_true rfl)) dX5_sorts_68 ⟨Nat.le_of_ble_eq_true rfl, Nat.le_of_ble_eq_true rfl⟩) hX hW [0] rfl (by decide) (fun _ => rfl) (fun r_68 u_68 H locs h_68 hW => ?_)
        have hW : zW Z s A [(o0, .inr (5, [.int (nI 1), .int dy, .int me, .int co, .int (nI np), .int ca, .int br, .int ml, .ref o1, .ref o2, .ref o3, .ref o4, .ref o5, .ref o6, .int le, .ref o7, .ref o8])), (o1, zI Z 3770 (stF S F G)), (o2, zI Z 6 (qF pn 0)), (o3, zI Z 6 (qF pn 1)), (o4, zI Z 6 (qF pn 2)), (o5, zI Z 6 (qF pn 3)), (o6, zI Z 6 E), (o7, zI Z 29 Tk), (o8, zI Z 29 Lf)] _ _ := hW
        subst h_68
        exact z_iret hx hb hr hlk hW (nI 1) (by unfold po_X5_sorts; exact Or.inr ⟨1, by omega, cdx_1 (fun h6 => by first | exact h6.1.elim c_7 (bI_e c_15) | exact bI_e c_22 h6.2.1 | exact bI_e c_32 ((zin_iff (n := 9) (by omega)).mpr h6.2.2)), rfl⟩) (rfl) (by omega) (by omega) dX5_sorts_71
      · have hS9 : isS sv := bI_n c_22
        have hS8 := hS9.1
        have hl : lv_has ls 5 [(0, .ref o0), (1, .int pv), (2, .int (nI (sn sv))), (3, .int wv)] := by rw [← hS9.2]; exact hl
        have hw9 := (zin_iff (n := 9) (by omega)).mp (bI_n c_32)
        have hw8 := hw9.1
        have hl : lv_has ls 5 [(0, .ref o0), (1, .int pv), (2, .int (nI (sn sv))), (3, .int (nI (sn wv)))] := by rw [← hw9.2]; exact hl
        refine lv_iconst (v := nI 1) hx hb dX5_sorts_35 (by decide) ?_
        refine lv_goto (tgt := 40) hx hb dX5_sorts_36 (by decide) ?_
        refine lv_istore (lv' := [(4, .int (nI 1)), (0, .ref o0), (1, .int pv), (2, .int (nI (sn sv))), (3, .int (nI (sn wv)))]) hx hb dX5_sorts_40 hl (by decide) rfl (fun ls hl => ?_)
        refine lv_iload hx hb dX5_sorts_42 (lv_at hl 0 rfl) ?_
        refine zn_if_eq (tgt := 66) (a := 1) hx hb (by omega) dX5_sorts_44 (by decide) (fun c_44 => (absurd c_44 (by decide) : False).elim) (fun c_44 => ?_)
        refine lv_aload_n hx hb dX5_sorts_47 rfl (lv_at hl 1 rfl) ?_
        refine z_get (C := RX5) (T := TX5) (N := 17) hx hb hts mw_X5_sorts_1 hown hX hW 0 rfl rfl 8 (by decide) mw_X5_sorts_2 (fun _ h9 => h9) rfl dX5_sorts_48 ?_
        refine lv_iload_n hx hb dX5_sorts_51 rfl (lv_at hl 2 rfl) ?_
        refine zc_i (va_runS (As := [.int pv]) (rest := [.ref o1]) hC (c_X5_caseM l Z pv  _) (va_cwS 1 hts gX5_sorts_X5_caseOf rfl rfl rfl (by decide +kernel) ⟨Nat.le_of_ble_eq_true rfl, Nat.le_of_ble_eq_true rfl⟩) (zpreS hX hW [] rfl (by decide)) rfl rfl hl.1 rfl (lv_room (Nat.le_of_ble_eq_true rfl)) dX5_sorts_52 ⟨Nat.le_of_ble_eq_true rfl, Nat.le_of_ble_eq_true rfl⟩) hX hW [] rfl (by decide) (fun _ => rfl) (fun r_52 u_52 H locs h_52 hW => ?_)
        have hW : zW Z s A [(o0, .inr (5, [.int (nI 0), .int dy, .int me, .int co, .int (nI np), .int ca, .int br, .int ml, .ref o1, .ref o2, .ref o3, .ref o4, .ref o5, .ref o6, .int le, .ref o7, .ref o8])), (o1, zI Z 3770 (stF S F G)), (o2, zI Z 6 (qF pn 0)), (o3, zI Z 6 (qF pn 1)), (o4, zI Z 6 (qF pn 2)), (o5, zI Z 6 (qF pn 3)), (o6, zI Z 6 E), (o7, zI Z 29 Tk), (o8, zI Z 29 Lf)] _ _ := hW
        subst h_52
        refine zw_topi (y := (nI 0)) (by rw [c_7]; decide) ?_
        refine lv_bipush (v := nI 10) hx hb dX5_sorts_55 (by decide) ?_
        refine lv_iload_n hx hb dX5_sorts_57 rfl (lv_at hl 3 rfl) ?_
        refine lv_imul hx hb dX5_sorts_58 ?_
        refine zw_topi (pk_mul _ _) ?_
        refine lv_iadd hx hb dX5_sorts_59 ?_
        refine zw_topi (nI_add _ _) ?_
        refine lv_iload_n hx hb dX5_sorts_60 rfl (lv_at hl 4 rfl) ?_
        refine lv_iadd hx hb dX5_sorts_61 ?_
        refine zw_topi (nI_add _ _) ?_
        refine z_iald hx hb hX hW 1 rfl (k := ((0 + (10 * (sn sv))) + (sn wv))) (by omega) (by omega) dX5_sorts_62 ?_
        refine zw_topi (y := (S (sn sv * 10 + sn wv))) (by rw [show 0 + 10 * sn sv + sn wv = sn sv * 10 + sn wv by omega]; exact stF_S (by omega)) ?_
        refine lv_goto (tgt := 71) hx hb dX5_sorts_63 (by decide) ?_
        exact z_iret hx hb hr hlk hW (nI 0) (by unfold po_X5_sorts; exact Or.inl ⟨rfl, cdx_0 (fun h6 => h6 ⟨(by first | exact Or.inl c_7 | exact Or.inr hP), hS9, hw9⟩) (fun h6 => h6) (fun h6 => h6), (by first | rw [if_pos c_7] | rw [if_neg c_7])⟩) (rfl) (by omega) (by omega) dX5_sorts_71
  · refine lv_aload_n hx hb dX5_sorts_10 rfl (lv_at hl 0 rfl) ?_
    refine lv_iload_n hx hb dX5_sorts_11 rfl (lv_at hl 1 rfl) ?_
    refine zc_i (va_runV (As := [.int pv]) (rest := []) hC (c_X5_isPrinter l Z o0 o1 o2 o3 o4 o5 o6 o7 o8 np (nI 0) dy me co ca br ml le pv (by omega) _) (cwV 1 hts gX5_sorts_X5_isPrinter rfl rfl rfl (by decide +kernel) ⟨Nat.le_of_ble_eq_true rfl, Nat.le_of_ble_eq_true rfl⟩) (zpreV (ci := 5) (q0 := 0) hX hW rfl rfl [0] rfl (by decide)) rfl rfl hl.1 rfl (lv_room (Nat.le_of_ble_eq_true rfl)) dX5_sorts_12 ⟨Nat.le_of_ble_eq_true rfl, Nat.le_of_ble_eq_true rfl⟩) hX hW [0] rfl (by decide) (fun _ => rfl) (fun r_12 u_12 H locs h_12 hW => ?_)
    have hW : zW Z s A [(o0, .inr (5, [.int (nI 0), .int dy, .int me, .int co, .int (nI np), .int ca, .int br, .int ml, .ref o1, .ref o2, .ref o3, .ref o4, .ref o5, .ref o6, .int le, .ref o7, .ref o8])), (o1, zI Z 3770 (stF S F G)), (o2, zI Z 6 (qF pn 0)), (o3, zI Z 6 (qF pn 1)), (o4, zI Z 6 (qF pn 2)), (o5, zI Z 6 (qF pn 3)), (o6, zI Z 6 E), (o7, zI Z 29 Tk), (o8, zI Z 29 Lf)] _ _ := hW
    subst h_12
    refine lv_if_eq (tgt := 39) hx hb dX5_sorts_15 (by decide) (fun c_15 => ?_) (fun c_15 => ?_)
    · refine lv_iconst (v := nI 0) hx hb dX5_sorts_39 (by decide) ?_
      refine lv_istore (lv' := [(4, .int (nI 0)), (0, .ref o0), (1, .int pv), (2, .int sv), (3, .int wv)]) hx hb dX5_sorts_40 hl (by decide) rfl (fun ls hl => ?_)
      refine lv_iload hx hb dX5_sorts_42 (lv_at hl 0 rfl) ?_
      refine zn_if_eq (tgt := 66) (a := 0) hx hb (by omega) dX5_sorts_44 (by decide) (fun c_44 => ?_) (fun c_44 => absurd rfl c_44)
      refine lv_aload_n hx hb dX5_sorts_66 rfl (lv_at hl 1 rfl) ?_
      refine lv_iconst (v := nI 1) hx hb dX5_sorts_67 (by decide) ?_
      refine zc_i (va_runV (As := [.int (nI 1)]) (rest := []) hC (c_X5_no l Z o0 o1 o2 o3 o4 o5 o6 o7 o8 np (nI 0) dy me co ca br ml le 1  _) (cwV 1 hts gX5_sorts_X5_no rfl rfl rfl (by decide +kernel) ⟨Nat.le_of_ble_eq_true rfl, Nat.le_of_ble_eq_true rfl⟩) (zpreV (ci := 5) (q0 := 0) hX hW rfl rfl [0] rfl (by decide)) rfl rfl hl.1 rfl (lv_room (Nat.le_of_ble_eq_true rfl)) dX5_sorts_68 ⟨Nat.le_of_ble_eq_true rfl, Nat.le_of_ble_eq_true rfl⟩) hX hW [0] rfl (by decide) (fun _ => rfl) (fun r_68 u_68 H locs h_68 hW => ?_)
      have hW : zW Z s A [(o0, .inr (5, [.int (nI 1), .int dy, .int me, .int co, .int (nI np), .int ca, .int br, .int ml, .ref o1, .ref o2, .ref o3, .ref o4, .ref o5, .ref o6, .int le, .ref o7, .ref o8])), (o1, zI Z 3770 (stF S F G)), (o2, zI Z 6 (qF pn 0)), (o3, zI Z 6 (qF pn 1)), (o4, zI Z 6 (qF pn 2)), (o5, zI Z 6 (qF pn 3)), (o6, zI Z 6 E), (o7, zI Z 29 Tk), (o8, zI Z 29 Lf)] _ _ := hW
      subst h_68
      exact z_iret hx hb hr hlk hW (nI 1) (by unfold po_X5_sorts; exact Or.inr ⟨1, by omega, cdx_1 (fun h6 => by first | exact h6.1.elim c_7 (bI_e c_15) | exact bI_e c_22 h6.2.1 | exact bI_e c_32 ((zin_iff (n := 9) (by omega)).mpr h6.2.2)), rfl⟩) (rfl) (by omega) (by omega) dX5_sorts_71
    · have hP : isP pv np := bI_n c_15
      have hP1 := hP.1
      have hl : lv_has ls 5 [(0, .ref o0), (1, .int (nI (sn pv))), (2, .int sv), (3, .int wv)] := by rw [← hP.2]; exact hl
      refine lv_iload_n hx hb dX5_sorts_18 rfl (lv_at hl 2 rfl) ?_
      refine zc_i (va_runS (As := [.int sv]) (rest := []) hC (c_X5_isSign l Z sv  _) (va_cwS 1 hts gX5_sorts_X5_isSign rfl rfl rfl (by decide +kernel) ⟨Nat.le_of_ble_eq_true rfl, Nat.le_of_ble_eq_true rfl⟩) (zpreS hX hW [] rfl (by decide)) rfl rfl hl.1 rfl (lv_room (Nat.le_of_ble_eq_true rfl)) dX5_sorts_19 ⟨Nat.le_of_ble_eq_true rfl, Nat.le_of_ble_eq_true rfl⟩) hX hW [] rfl (by decide) (fun _ => rfl) (fun r_19 u_19 H locs h_19 hW => ?_)
      have hW : zW Z s A [(o0, .inr (5, [.int (nI 0), .int dy, .int me, .int co, .int (nI np), .int ca, .int br, .int ml, .ref o1, .ref o2, .ref o3, .ref o4, .ref o5, .ref o6, .int le, .ref o7, .ref o8])), (o1, zI Z 3770 (stF S F G)), (o2, zI Z 6 (qF pn 0)), (o3, zI Z 6 (qF pn 1)), (o4, zI Z 6 (qF pn 2)), (o5, zI Z 6 (qF pn 3)), (o6, zI Z 6 E), (o7, zI Z 29 Tk), (o8, zI Z 29 Lf)] _ _ := hW
      subst h_19
      refine lv_if_eq (tgt := 39) hx hb dX5_sorts_22 (by decide) (fun c_22 => ?_) (fun c_22 => ?_)
      · refine lv_iconst (v := nI 0) hx hb dX5_sorts_39 (by decide) ?_
        refine lv_istore (lv' := [(4, .int (nI 0)), (0, .ref o0), (1, .int (nI (sn pv))), (2, .int sv), (3, .int wv)]) hx hb dX5_sorts_40 hl (by decide) rfl (fun ls hl => ?_)
        refine lv_iload hx hb dX5_sorts_42 (lv_at hl 0 rfl) ?_
        refine zn_if_eq (tgt := 66) (a := 0) hx hb (by omega) dX5_sorts_44 (by decide) (fun c_44 => ?_) (fun c_44 => absurd rfl c_44)
        refine lv_aload_n hx hb dX5_sorts_66 rfl (lv_at hl 1 rfl) ?_
        refine lv_iconst (v := nI 1) hx hb dX5_sorts_67 (by decide) ?_
        refine zc_i (va_runV (As := [.int (nI 1)]) (rest := []) hC (c_X5_no l Z o0 o1 o2 o3 o4 o5 o6 o7 o8 np (nI 0) dy me co ca br ml le 1  _) (cwV 1 hts gX5_sorts_X5_no rfl rfl rfl (by decide +kernel) ⟨Nat.le_of_ble_eq_true rfl, Nat.le_of_ble_eq_true rfl⟩) (zpreV (ci := 5) (q0 := 0) hX hW rfl rfl [0] rfl (by decide)) rfl rfl hl.1 rfl (lv_room (Nat.le_of_ble_eq_true rfl)) dX5_sorts_68 ⟨Nat.le_of_ble_eq_true rfl, Nat.le_of_ble_eq_true rfl⟩) hX hW [0] rfl (by decide) (fun _ => rfl) (fun r_68 u_68 H locs h_68 hW => ?_)
        have hW : zW Z s A [(o0, .inr (5, [.int (nI 1), .int dy, .int me, .int co, .int (nI np), .int ca, .int br, .int ml, .ref o1, .ref o2, .ref o3, .ref o4, .ref o5, .ref o6, .int le, .ref o7, .ref o8])), (o1, zI Z 3770 (stF S F G)), (o2, zI Z 6 (qF pn 0)), (o3, zI Z 6 (qF pn 1)), (o4, zI Z 6 (qF pn 2)), (o5, zI Z 6 (qF pn 3)), (o6, zI Z 6 E), (o7, zI Z 29 Tk), (o8, zI Z 29 Lf)] _ _ := hW
        subst h_68
        exact z_iret hx hb hr hlk hW (nI 1) (by unfold po_X5_sorts; exact Or.inr ⟨1, by omega, cdx_1 (fun h6 => by first | exact h6.1.elim c_7 (bI_e c_15) | exact bI_e c_22 h6.2.1 | exact bI_e c_32 ((zin_iff (n := 9) (by omega)).mpr h6.2.2)), rfl⟩) (rfl) (by omega) (by omega) dX5_sorts_71
      · refine lv_iload_n hx hb dX5_sorts_25 rfl (lv_at hl 3 rfl) ?_
        refine lv_iconst (v := nI 0) hx hb dX5_sorts_26 (by decide) ?_
        refine lv_bipush (v := nI 9) hx hb dX5_sorts_27 (by decide) ?_
        refine zc_i (va_runS (As := [.int wv, .int (nI 0), .int (nI 9)]) (rest := []) hC (c_X5_isIn l Z wv (nI 0) (nI 9)  _) (va_cwS 3 hts gX5_sorts_X5_isIn rfl rfl rfl (by decide +kernel) ⟨Nat.le_of_ble_eq_true rfl, Nat.le_of_ble_eq_true rfl⟩) (zpreS hX hW [] rfl (by decide)) rfl rfl hl.1 rfl (lv_room (Nat.le_of_ble_eq_true rfl)) dX5_sorts_29 ⟨Nat.le_of_ble_eq_true rfl, Nat.le_of_ble_eq_true rfl⟩) hX hW [] rfl (by decide) (fun _ => rfl) (fun r_29 u_29 H locs h_29 hW => ?_)
        have hW : zW Z s A [(o0, .inr (5, [.int (nI 0), .int dy, .int me, .int co, .int (nI np), .int ca, .int br, .int ml, .ref o1, .ref o2, .ref o3, .ref o4, .ref o5, .ref o6, .int le, .ref o7, .ref o8])), (o1, zI Z 3770 (stF S F G)), (o2, zI Z 6 (qF pn 0)), (o3, zI Z 6 (qF pn 1)), (o4, zI Z 6 (qF pn 2)), (o5, zI Z 6 (qF pn 3)), (o6, zI Z 6 E), (o7, zI Z 29 Tk), (o8, zI Z 29 Lf)] _ _ := hW
        subst h_29
        refine lv_if_eq (tgt := 39) hx hb dX5_sorts_32 (by decide) (fun c_32 => ?_) (fun c_32 => ?_)
        · refine lv_iconst (v := nI 0) hx hb dX5_sorts_39 (by decide) ?_
          refine lv_istore (lv' := [(4, .int (nI 0)), (0, .ref o0), (1, .int (nI (sn pv))), (2, .int sv), (3, .int wv)]) hx hb dX5_sorts_40 hl (by decide) rfl (fun ls hl => ?_)
          refine lv_iload hx hb dX5_sorts_42 (lv_at hl 0 rfl) ?_
          refine zn_if_eq (tgt := 66) (a := 0) hx hb (by omega) dX5_sorts_44 (by decide) (fun c_44 => ?_) (fun c_44 => absurd rfl c_44)
          refine lv_aload_n hx hb dX5_sorts_66 rfl (lv_at hl 1 rfl) ?_
          refine lv_iconst (v := nI 1) hx hb dX5_sorts_67 (by decide) ?_
          refine zc_i (va_runV (As := [.int (nI 1)]) (rest := []) hC (c_X5_no l Z o0 o1 o2 o3 o4 o5 o6 o7 o8 np (nI 0) dy me co ca br ml le 1  _) (cwV 1 hts gX5_sorts_X5_no rfl rfl rfl (by decide +kernel) ⟨Nat.le_of_ble_eq_true rfl, Nat.le_of_ble_eq_true rfl⟩) (zpreV (ci := 5) (q0 := 0) hX hW rfl rfl [0] rfl (by decide)) rfl rfl hl.1 rfl (lv_room (Nat.le_of_ble_eq_true rfl)) dX5_sorts_68 ⟨Nat.le_of_ble_eq_true rfl, Nat.le_of_ble_eq_true rfl⟩) hX hW [0] rfl (by decide) (fun _ => rfl) (fun r_68 u_68 H locs h_68 hW => ?_)
          have hW : zW Z s A [(o0, .inr (5, [.int (nI 1), .int dy, .int me, .int co, .int (nI np), .int ca, .int br, .int ml, .ref o1, .ref o2, .ref o3, .ref o4, .ref o5, .ref o6, .int le, .ref o7, .ref o8])), (o1, zI Z 3770 (stF S F G)), (o2, zI Z 6 (qF pn 0)), (o3, zI Z 6 (qF pn 1)), (o4, zI Z 6 (qF pn 2)), (o5, zI Z 6 (qF pn 3)), (o6, zI Z 6 E), (o7, zI Z 29 Tk), (o8, zI Z 29 Lf)] _ _ := hW
          subst h_68
          exact z_iret hx hb hr hlk hW (nI 1) (by unfold po_X5_sorts; exact Or.inr ⟨1, by omega, cdx_1 (fun h6 => by first | exact h6.1.elim c_7 (bI_e c_15) | exact bI_e c_22 h6.2.1 | exact bI_e c_32 ((zin_iff (n := 9) (by omega)).mpr h6.2.2)), rfl⟩) (rfl) (by omega) (by omega) dX5_sorts_71
        · have hS9 : isS sv := bI_n c_22
          have hS8 := hS9.1
          have hl : lv_has ls 5 [(0, .ref o0), (1, .int (nI (sn pv))), (2, .int (nI (sn sv))), (3, .int wv)] := by rw [← hS9.2]; exact hl
          have hw9 := (zin_iff (n := 9) (by omega)).mp (bI_n c_32)
          have hw8 := hw9.1
          have hl : lv_has ls 5 [(0, .ref o0), (1, .int (nI (sn pv))), (2, .int (nI (sn sv))), (3, .int (nI (sn wv)))] := by rw [← hw9.2]; exact hl
          refine lv_iconst (v := nI 1) hx hb dX5_sorts_35 (by decide) ?_
          refine lv_goto (tgt := 40) hx hb dX5_sorts_36 (by decide) ?_
          refine lv_istore (lv' := [(4, .int (nI 1)), (0, .ref o0), (1, .int (nI (sn pv))), (2, .int (nI (sn sv))), (3, .int (nI (sn wv)))]) hx hb dX5_sorts_40 hl (by decide) rfl (fun ls hl => ?_)
          refine lv_iload hx hb dX5_sorts_42 (lv_at hl 0 rfl) ?_
          refine zn_if_eq (tgt := 66) (a := 1) hx hb (by omega) dX5_sorts_44 (by decide) (fun c_44 => (absurd c_44 (by decide) : False).elim) (fun c_44 => ?_)
          refine lv_aload_n hx hb dX5_sorts_47 rfl (lv_at hl 1 rfl) ?_
          refine z_get (C := RX5) (T := TX5) (N := 17) hx hb hts mw_X5_sorts_1 hown hX hW 0 rfl rfl 8 (by decide) mw_X5_sorts_2 (fun _ h9 => h9) rfl dX5_sorts_48 ?_
          refine lv_iload_n hx hb dX5_sorts_51 rfl (lv_at hl 2 rfl) ?_
          refine zc_i (va_runS (As := [.int (nI (sn pv))]) (rest := [.ref o1]) hC (c_X5_caseOf l Z (sn pv)  _) (va_cwS 1 hts gX5_sorts_X5_caseOf rfl rfl rfl (by decide +kernel) ⟨Nat.le_of_ble_eq_true rfl, Nat.le_of_ble_eq_true rfl⟩) (zpreS hX hW [] rfl (by decide)) rfl rfl hl.1 rfl (lv_room (Nat.le_of_ble_eq_true rfl)) dX5_sorts_52 ⟨Nat.le_of_ble_eq_true rfl, Nat.le_of_ble_eq_true rfl⟩) hX hW [] rfl (by decide) (fun _ => rfl) (fun r_52 u_52 H locs h_52 hW => ?_)
          have hW : zW Z s A [(o0, .inr (5, [.int (nI 0), .int dy, .int me, .int co, .int (nI np), .int ca, .int br, .int ml, .ref o1, .ref o2, .ref o3, .ref o4, .ref o5, .ref o6, .int le, .ref o7, .ref o8])), (o1, zI Z 3770 (stF S F G)), (o2, zI Z 6 (qF pn 0)), (o3, zI Z 6 (qF pn 1)), (o4, zI Z 6 (qF pn 2)), (o5, zI Z 6 (qF pn 3)), (o6, zI Z 6 E), (o7, zI Z 29 Tk), (o8, zI Z 29 Lf)] _ _ := hW
          subst h_52
          refine zw_topi (y := (nI (290 * (1 + (sn pv))))) (rfl) ?_
          refine lv_bipush (v := nI 10) hx hb dX5_sorts_55 (by decide) ?_
          refine lv_iload_n hx hb dX5_sorts_57 rfl (lv_at hl 3 rfl) ?_
          refine lv_imul hx hb dX5_sorts_58 ?_
          refine zw_topi (pk_mul _ _) ?_
          refine lv_iadd hx hb dX5_sorts_59 ?_
          refine zw_topi (nI_add _ _) ?_
          refine lv_iload_n hx hb dX5_sorts_60 rfl (lv_at hl 4 rfl) ?_
          refine lv_iadd hx hb dX5_sorts_61 ?_
          refine zw_topi (nI_add _ _) ?_
          refine z_iald hx hb hX hW 1 rfl (k := (((290 * (1 + (sn pv))) + (10 * (sn sv))) + (sn wv))) (by omega) (by omega) dX5_sorts_62 ?_
          refine zw_topi (y := (F (sn pv) (sn sv * 10 + sn wv))) (by rw [show 290 * (1 + sn pv) + 10 * sn sv + sn wv = 290 * (1 + sn pv) + (sn sv * 10 + sn wv) by omega]; exact stF_F (by omega) (by omega)) ?_
          refine lv_goto (tgt := 71) hx hb dX5_sorts_63 (by decide) ?_
          exact z_iret hx hb hr hlk hW (nI 0) (by unfold po_X5_sorts; exact Or.inl ⟨rfl, cdx_0 (fun h6 => h6 ⟨(by first | exact Or.inl c_7 | exact Or.inr hP), hS9, hw9⟩) (fun h6 => h6) (fun h6 => h6), (by first | rw [if_pos c_7] | rw [if_neg c_7])⟩) (rfl) (by omega) (by omega) dX5_sorts_71
