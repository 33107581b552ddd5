theorem mw_X5_rent_0 : Cond.fieldLink RX5 38 "TypeFoundryModel" "thrown" "I" ∈ wsX5_rent := by decide +kernel
theorem mw_X5_rent_1 : ∀ w ∈ wsX50, w ∈ wsX5_rent := by decide +kernel
abbrev wp_X5_rent (Z : zT) (o0 o1 o2 o3 o4 o5 o6 o7 o8 np : Nat) (th dy me co ca br ml le : Int32) (S E Tk Lf : Nat → Int32) (F G pn : Nat → Nat → Int32) (pv sv mv : Int32) : Int32 × (Nat → Int32) → va_W := fun (u : Int32 × (Nat → Int32)) => match u with | (th_1, f_1) => [(o0, .inr (5, [.int th_1, .int dy, .int me, .int co, .int (nI np), .int ca, .int br, .int ml, .ref o1, .ref o2, .ref o3, .ref o4, .ref o5, .ref o6, .int le, .ref o7, .ref o8])), (o1, zI Z 3770 f_1), (o2, zI Z 6 (qF pn 0)), (o3, zI Z 6 (qF pn 1)), (o4, zI Z 6 (qF pn 2)), (o5, zI Z 6 (qF pn 3)), (o6, zI Z 6 E), (o7, zI Z 29 Tk), (o8, zI Z 29 Lf)]
abbrev po_X5_rent (Z : zT) (o0 o1 o2 o3 o4 o5 o6 o7 o8 np : Nat) (th dy me co ca br ml le : Int32) (S E Tk Lf : Nat → Int32) (F G pn : Nat → Nat → Int32) (pv sv mv : Int32) : Int32 → Int32 × (Nat → Int32) → Prop := fun (r : Int32) (u : Int32 × (Nat → Int32)) => match u with | (th_1, f_1) => (th_1 = nI 0 ∧ 0 = cdx (¬ isP pv np ∨ ¬ isS sv) (¬ isM mv) (¬ mv ≤ bx_sum (sg S (sn sv)) 10) ∧ r = (mvS oU (sn sv) mv S (F (sn pv)) 10).2.1 ∧ f_1 = stF (mvS oU (sn sv) mv S (F (sn pv)) 10).2.2.1 (up F (sn pv) (mvS oU (sn sv) mv S (F (sn pv)) 10).2.2.2) G) ∨ (∃ k9, 1 ≤ k9 ∧ k9 = cdx (¬ isP pv np ∨ ¬ isS sv) (¬ isM mv) (¬ mv ≤ bx_sum (sg S (sn sv)) 10) ∧ th_1 = nI k9 ∧ f_1 = stF S F G)
abbrev rm_X5_rent : Room := { frames := 2, cells := 0, slots := 0, locals := 43 }
set_option maxHeartbeats 4000000 in
set_option maxRecDepth 100000 in
theorem c_X5_rent (l : Launch) (Z : zT) (o0 o1 o2 o3 o4 o5 o6 o7 o8 np : Nat) (th dy me co ca br ml le : Int32) (S E Tk Lf : Nat → Int32) (F G pn : Nat → Nat → Int32) (pv sv mv : Int32) (hG : GA S F G) (hnp : np ≤ 6) : zMet l yX5_rent wsX5_rent rm_X5_rent [.ref o0, .int pv, .int sv, .int mv] Z [(o0, .inr (5, [.int th, .int dy, .int me, .int co, .int (nI np), .int ca, .int br, .int ml, .ref o1, .ref o2, .ref o3, .ref o4, .ref o5, .ref o6, .int le, .ref o7, .ref o8])), (o1, zI Z 3770 (stF S F G)), (o2, zI Z 6 (qF pn 0)), (o3, zI Z 6 (qF pn 1)), (o4, zI Z 6 (qF pn 2)), (o5, zI Z 6 (qF pn 3)), (o6, zI Z 6 E), (o7, zI Z 29 Tk), (o8, zI Z 29 Lf)] (zQi Z (po_X5_rent Z o0 o1 o2 o3 o4 o5 o6 o7 o8 np th dy me co ca br ml le S E Tk Lf F G pn pv sv mv) (wp_X5_rent Z o0 o1 o2 o3 o4 o5 o6 o7 o8 np th dy me co ca br ml le S E Tk Lf F G pn pv sv mv)) 0 0 := by
  refine zstart (cc := cX5_rent) (maxL := 4) (ret := (some .int)) (by decide) rfl (Nat.le_of_ble_eq_true rfl) ?_
  intro p e s m below meth c ls A hx hb hr hC hlk hnm hX hW hl
  have hml := hC.2.2.1
  have hown : s.vm.findClass RX5 = some m.cls := hC.2.2.2.1
  have hts := hC.2.2.2.2
  have hl : lv_has ls 4 [(0, .ref o0), (1, .int pv), (2, .int sv), (3, .int mv)] := hl
  refine lv_aload_n hx hb dX5_rent_0 rfl (lv_at hl 0 rfl) ?_
  refine lv_iconst (v := nI 0) hx hb dX5_rent_1 (by decide) ?_
  refine z_put (C := RX5) (T := TX5) (N := 17) (v := .int (nI 0)) (ty := .int) hx hb hts mw_X5_rent_1 tyX5 tyX5_ok nmX5 hown hX hW 0 rfl rfl 0 (by decide) mw_X5_rent_0 (fun _ h9 => h9) rfl (by decide +kernel) rfl rfl (Nat.le_of_ble_eq_true rfl) dX5_rent_2 (fun H locs hW => ?_)
  have hW : zW Z s A [(o0, .inr (5, [.int (nI 0), .int dy, .int me, .int co, .int (nI np), .int ca, .int br, .int ml, .ref o1, .ref o2, .ref o3, .ref o4, .ref o5, .ref o6, .int le, .ref o7, .ref o8])), (o1, zI Z 3770 (stF S F G)), (o2, zI Z 6 (qF pn 0)), (o3, zI Z 6 (qF pn 1)), (o4, zI Z 6 (qF pn 2)), (o5, zI Z 6 (qF pn 3)), (o6, zI Z 6 E), (o7, zI Z 29 Tk), (o8, zI Z 29 Lf)] _ _ := hW
  refine lv_aload_n hx hb dX5_rent_5 rfl (lv_at hl 0 rfl) ?_
  refine lv_iload_n hx hb dX5_rent_6 rfl (lv_at hl 1 rfl) ?_
  refine zc_i (va_runV (As := [.int pv]) (rest := []) hC (c_X5_isPrinter l Z o0 o1 o2 o3 o4 o5 o6 o7 o8 np (nI 0) dy me co ca br ml le pv (by omega) _) (cwV 1 hts gX5_rent_X5_isPrinter rfl rfl rfl (by decide +kernel) ⟨Nat.le_of_ble_eq_true rfl, Nat.le_of_ble_eq_true rfl⟩) (zpreV (ci := 5) (q0 := 0) hX hW rfl rfl [0] rfl (by decide)) rfl rfl hl.1 rfl (lv_room (Nat.le_of_ble_eq_true rfl)) dX5_rent_7 ⟨Nat.le_of_ble_eq_true rfl, Nat.le_of_ble_eq_true rfl⟩) hX hW [0] rfl (by decide) (fun _ => rfl) (fun r_7 u_7 H locs h_7 hW => ?_)
  have hW : zW Z s A [(o0, .inr (5, [.int (nI 0), .int dy, .int me, .int co, .int (nI np), .int ca, .int br, .int ml, .ref o1, .ref o2, .ref o3, .ref o4, .ref o5, .ref o6, .int le, .ref o7, .ref o8])), (o1, zI Z 3770 (stF S F G)), (o2, zI Z 6 (qF pn 0)), (o3, zI Z 6 (qF pn 1)), (o4, zI Z 6 (qF pn 2)), (o5, zI Z 6 (qF pn 3)), (o6, zI Z 6 E), (o7, zI Z 29 Tk), (o8, zI Z 29 Lf)] _ _ := hW
  subst h_7
  refine lv_if_eq (tgt := 20) hx hb dX5_rent_10 (by decide) (fun c_10 => ?_) (fun c_10 => ?_)
  · refine lv_aload_n hx hb dX5_rent_20 rfl (lv_at hl 0 rfl) ?_
    refine lv_iconst (v := nI 1) hx hb dX5_rent_21 (by decide) ?_
    refine zc_i (va_runV (As := [.int (nI 1)]) (rest := []) hC (c_X5_no l Z o0 o1 o2 o3 o4 o5 o6 o7 o8 np (nI 0) dy me co ca br ml le 1  _) (cwV 1 hts gX5_rent_X5_no rfl rfl rfl (by decide +kernel) ⟨Nat.le_of_ble_eq_true rfl, Nat.le_of_ble_eq_true rfl⟩) (zpreV (ci := 5) (q0 := 0) hX hW rfl rfl [0] rfl (by decide)) rfl rfl hl.1 rfl (lv_room (Nat.le_of_ble_eq_true rfl)) dX5_rent_22 ⟨Nat.le_of_ble_eq_true rfl, Nat.le_of_ble_eq_true rfl⟩) hX hW [0] rfl (by decide) (fun _ => rfl) (fun r_22 u_22 H locs h_22 hW => ?_)
    have hW : zW Z s A [(o0, .inr (5, [.int (nI 1), .int dy, .int me, .int co, .int (nI np), .int ca, .int br, .int ml, .ref o1, .ref o2, .ref o3, .ref o4, .ref o5, .ref o6, .int le, .ref o7, .ref o8])), (o1, zI Z 3770 (stF S F G)), (o2, zI Z 6 (qF pn 0)), (o3, zI Z 6 (qF pn 1)), (o4, zI Z 6 (qF pn 2)), (o5, zI Z 6 (qF pn 3)), (o6, zI Z 6 E), (o7, zI Z 29 Tk), (o8, zI Z 29 Lf)] _ _ := hW
    subst h_22
    exact z_iret hx hb hr hlk hW (nI 1, stF S F G) (by unfold po_X5_rent; exact Or.inr ⟨1, by omega, cdx_1 (by first | exact Or.inl (bI_e c_10) | exact Or.inr (bI_e c_17)), rfl, rfl⟩) (rfl) (by omega) (by omega) dX5_rent_25
  · have hP : isP pv np := bI_n c_10
    have hP1 := hP.1
    have hl : lv_has ls 4 [(0, .ref o0), (1, .int (nI (sn pv))), (2, .int sv), (3, .int mv)] := by rw [← hP.2]; exact hl
    refine lv_iload_n hx hb dX5_rent_13 rfl (lv_at hl 2 rfl) ?_
    refine zc_i (va_runS (As := [.int sv]) (rest := []) hC (c_X5_isSign l Z sv  _) (va_cwS 1 hts gX5_rent_X5_isSign rfl rfl rfl (by decide +kernel) ⟨Nat.le_of_ble_eq_true rfl, Nat.le_of_ble_eq_true rfl⟩) (zpreS hX hW [] rfl (by decide)) rfl rfl hl.1 rfl (lv_room (Nat.le_of_ble_eq_true rfl)) dX5_rent_14 ⟨Nat.le_of_ble_eq_true rfl, Nat.le_of_ble_eq_true rfl⟩) hX hW [] rfl (by decide) (fun _ => rfl) (fun r_14 u_14 H locs h_14 hW => ?_)
    have hW : zW Z s A [(o0, .inr (5, [.int (nI 0), .int dy, .int me, .int co, .int (nI np), .int ca, .int br, .int ml, .ref o1, .ref o2, .ref o3, .ref o4, .ref o5, .ref o6, .int le, .ref o7, .ref o8])), (o1, zI Z 3770 (stF S F G)), (o2, zI Z 6 (qF pn 0)), (o3, zI Z 6 (qF pn 1)), (o4, zI Z 6 (qF pn 2)), (o5, zI Z 6 (qF pn 3)), (o6, zI Z 6 E), (o7, zI Z 29 Tk), (o8, zI Z 29 Lf)] _ _ := hW
    subst h_14
    refine lv_if_ne (tgt := 26) hx hb dX5_rent_17 (by decide) (fun c_17 => ?_) (fun c_17 => ?_)
    · have hS9 : isS sv := bI_n c_17
      have hS8 := hS9.1
      have hl : lv_has ls 4 [(0, .ref o0), (1, .int (nI (sn pv))), (2, .int (nI (sn sv))), (3, .int mv)] := by rw [← hS9.2]; exact hl
      refine lv_iload_n hx hb dX5_rent_26 rfl (lv_at hl 3 rfl) ?_
      refine lv_iconst (v := nI 1) hx hb dX5_rent_27 (by decide) ?_
      refine lv_sipush (v := nI 200) hx hb dX5_rent_28 (by decide) ?_
      refine zc_i (va_runS (As := [.int mv, .int (nI 1), .int (nI 200)]) (rest := []) hC (c_X5_isIn l Z mv (nI 1) (nI 200)  _) (va_cwS 3 hts gX5_rent_X5_isIn rfl rfl rfl (by decide +kernel) ⟨Nat.le_of_ble_eq_true rfl, Nat.le_of_ble_eq_true rfl⟩) (zpreS hX hW [] rfl (by decide)) rfl rfl hl.1 rfl (lv_room (Nat.le_of_ble_eq_true rfl)) dX5_rent_31 ⟨Nat.le_of_ble_eq_true rfl, Nat.le_of_ble_eq_true rfl⟩) hX hW [] rfl (by decide) (fun _ => rfl) (fun r_31 u_31 H locs h_31 hW => ?_)
      have hW : zW Z s A [(o0, .inr (5, [.int (nI 0), .int dy, .int me, .int co, .int (nI np), .int ca, .int br, .int ml, .ref o1, .ref o2, .ref o3, .ref o4, .ref o5, .ref o6, .int le, .ref o7, .ref o8])), (o1, zI Z 3770 (stF S F G)), (o2, zI Z 6 (qF pn 0)), (o3, zI Z 6 (qF pn 1)), (o4, zI Z 6 (qF pn 2)), (o5, zI Z 6 (qF pn 3)), (o6, zI Z 6 E), (o7, zI Z 29 Tk), (o8, zI Z 29 Lf)] _ _ := hW
      subst h_31
      refine lv_if_ne (tgt := 43) hx hb dX5_rent_34 (by decide) (fun c_34 => ?_) (fun c_34 => ?_)
      · have hM9 : isM mv := bI_n c_34
        have hM8 := isM_sn hM9
        have hP6 : sn pv < 6 := by omega
        have hl : lv_has ls 4 [(0, .ref o0), (1, .int (nI (sn pv))), (2, .int (nI (sn sv))), (3, .int (nI (sn mv)))] := by rw [← hM8.2.2]; exact hl
        refine lv_aload_n hx hb dX5_rent_43 rfl (lv_at hl 0 rfl) ?_
        refine lv_iconst (v := nI 0) hx hb dX5_rent_44 (by decide) ?_
        refine lv_iload_n hx hb dX5_rent_45 rfl (lv_at hl 2 rfl) ?_
        refine zc_i (va_runV (As := [.int (nI 0), .int (nI (sn sv))]) (rest := []) hC (c_X5_many l Z o0 o1 o2 o3 o4 o5 o6 o7 o8 np (nI 0) dy me co ca br ml le (stF S F G) 0 (sn sv) (by omega) (by omega) _) (cwV 2 hts gX5_rent_X5_many rfl rfl rfl (by decide +kernel) ⟨Nat.le_of_ble_eq_true rfl, Nat.le_of_ble_eq_true rfl⟩) (zpreV (ci := 5) (q0 := 0) hX hW rfl rfl [0, 1] rfl (by decide)) rfl rfl hl.1 rfl (lv_room (Nat.le_of_ble_eq_true rfl)) dX5_rent_46 ⟨Nat.le_of_ble_eq_true rfl, Nat.le_of_ble_eq_true rfl⟩) hX hW [0, 1] rfl (by decide) (fun _ => rfl) (fun r_46 u_46 H locs h_46 hW => ?_)
        have hW : zW Z s A [(o0, .inr (5, [.int (nI 0), .int dy, .int me, .int co, .int (nI np), .int ca, .int br, .int ml, .ref o1, .ref o2, .ref o3, .ref o4, .ref o5, .ref o6, .int le, .ref o7, .ref o8])), (o1, zI Z 3770 (stF S F G)), (o2, zI Z 6 (qF pn 0)), (o3, zI Z 6 (qF pn 1)), (o4, zI Z 6 (qF pn 2)), (o5, zI Z 6 (qF pn 3)), (o6, zI Z 6 E), (o7, zI Z 29 Tk), (o8, zI Z 29 Lf)] _ _ := hW
        subst h_46
        refine zw_topi (y := (bx_sum (sg S (sn sv)) 10)) (by rw [sh_S hG.1]) ?_
        refine lv_iload_n hx hb dX5_rent_49 rfl (lv_at hl 3 rfl) ?_
        refine lv_icmp_ge (tgt := 61) hx hb dX5_rent_50 (by decide) (fun c_50 => ?_) (fun c_50 => ?_)
        · have hle : mv ≤ bx_sum (sg S (sn sv)) 10 := by rw [hM8.2.2]; exact c_50
          refine lv_aload_n hx hb dX5_rent_61 rfl (lv_at hl 0 rfl) ?_
          refine lv_iconst (v := nI 0) hx hb dX5_rent_62 (by decide) ?_
          refine lv_iload_n hx hb dX5_rent_63 rfl (lv_at hl 1 rfl) ?_
          refine zc_i (va_runS (As := [.int (nI (sn pv))]) (rest := [.int (nI 0), .ref o0]) hC (c_X5_caseOf l Z (sn pv)  _) (va_cwS 1 hts gX5_rent_X5_caseOf rfl rfl rfl (by decide +kernel) ⟨Nat.le_of_ble_eq_true rfl, Nat.le_of_ble_eq_true rfl⟩) (zpreS hX hW [] rfl (by decide)) rfl rfl hl.1 rfl (lv_room (Nat.le_of_ble_eq_true rfl)) dX5_rent_64 ⟨Nat.le_of_ble_eq_true rfl, Nat.le_of_ble_eq_true rfl⟩) hX hW [] rfl (by decide) (fun _ => rfl) (fun r_64 u_64 H locs h_64 hW => ?_)
          have hW : zW Z s A [(o0, .inr (5, [.int (nI 0), .int dy, .int me, .int co, .int (nI np), .int ca, .int br, .int ml, .ref o1, .ref o2, .ref o3, .ref o4, .ref o5, .ref o6, .int le, .ref o7, .ref o8])), (o1, zI Z 3770 (stF S F G)), (o2, zI Z 6 (qF pn 0)), (o3, zI Z 6 (qF pn 1)), (o4, zI Z 6 (qF pn 2)), (o5, zI Z 6 (qF pn 3)), (o6, zI Z 6 E), (o7, zI Z 29 Tk), (o8, zI Z 29 Lf)] _ _ := hW
          subst h_64
          refine lv_iload_n hx hb dX5_rent_67 rfl (lv_at hl 2 rfl) ?_
          refine lv_iload_n hx hb dX5_rent_68 rfl (lv_at hl 3 rfl) ?_
          refine lv_iconst (v := nI 0) hx hb dX5_rent_69 (by decide) ?_
          refine zc_i (va_runV (As := [.int (nI 0), .int (nI (290 * (1 + (sn pv)))), .int (nI (sn sv)), .int (nI (sn mv)), .int (nI 0)]) (rest := []) hC (c_X5_moveU l Z o0 o1 o2 o3 o4 o5 o6 o7 o8 np (nI 0) dy me co ca br ml le (stF S F G) 0 (290 * (1 + (sn pv))) (sn sv) (sn mv) (by omega) (by omega) (by omega) (by omega) (fun j9 _ => by rw [sh_S hG.1]; exact hG.1.1 _) (by rw [sh_S hG.1, csum_U]; exact mv_su hG.1 (by have := hG.2.2.2; unfold tS at this; omega) hS8 hM8.2.2 hle) _) (cwV 5 hts gX5_rent_X5_move rfl rfl rfl (by decide +kernel) ⟨Nat.le_of_ble_eq_true rfl, Nat.le_of_ble_eq_true rfl⟩) (zpreV (ci := 5) (q0 := 0) hX hW rfl rfl [0, 1] rfl (by decide)) rfl rfl hl.1 rfl (lv_room (Nat.le_of_ble_eq_true rfl)) dX5_rent_70 ⟨Nat.le_of_ble_eq_true rfl, Nat.le_of_ble_eq_true rfl⟩) hX hW [0, 1] rfl (by decide) (fun _ => rfl) (fun r_70 u_70 H locs h_70 hW => ?_)
          have hW : zW Z s A [(o0, .inr (5, [.int (nI 0), .int dy, .int me, .int co, .int (nI np), .int ca, .int br, .int ml, .ref o1, .ref o2, .ref o3, .ref o4, .ref o5, .ref o6, .int le, .ref o7, .ref o8])), (o1, zI Z 3770 (put2 (stF S F G) 0 (290 * (1 + (sn pv))) (mvS oU (sn sv) (nI (sn mv)) (sh (stF S F G) 0) (sh (stF S F G) (290 * (1 + (sn pv)))) 10).2.2.1 (mvS oU (sn sv) (nI (sn mv)) (sh (stF S F G) 0) (sh (stF S F G) (290 * (1 + (sn pv)))) 10).2.2.2)), (o2, zI Z 6 (qF pn 0)), (o3, zI Z 6 (qF pn 1)), (o4, zI Z 6 (qF pn 2)), (o5, zI Z 6 (qF pn 3)), (o6, zI Z 6 E), (o7, zI Z 29 Tk), (o8, zI Z 29 Lf)] _ _ := hW
          subst h_70
          exact z_iret hx hb hr hlk hW ((nI 0), put2 (stF S F G) 0 (290 * (1 + (sn pv))) (mvS oU (sn sv) (nI (sn mv)) (sh (stF S F G) 0) (sh (stF S F G) (290 * (1 + (sn pv)))) 10).2.2.1 (mvS oU (sn sv) (nI (sn mv)) (sh (stF S F G) 0) (sh (stF S F G) (290 * (1 + (sn pv)))) 10).2.2.2) (by unfold po_X5_rent; exact Or.inl ⟨rfl, cdx_0 (fun h6 => h6.elim (fun h7 => h7 hP) (fun h7 => h7 hS9)) (fun h6 => h6 hM9) (fun h6 => h6 hle), by rw [sh_S hG.1, sh_F hP6 (hG.2.1 _), ← hM8.2.2], (by rw [sh_S hG.1, sh_F hP6 (hG.2.1 _), ← hM8.2.2, p2_SF hP6])⟩) (rfl) (by omega) (by omega) dX5_rent_73
        · refine lv_aload_n hx hb dX5_rent_53 rfl (lv_at hl 0 rfl) ?_
          refine lv_iconst (v := nI 3) hx hb dX5_rent_54 (by decide) ?_
          refine zc_i (va_runV (As := [.int (nI 3)]) (rest := []) hC (c_X5_no l Z o0 o1 o2 o3 o4 o5 o6 o7 o8 np (nI 0) dy me co ca br ml le 3  _) (cwV 1 hts gX5_rent_X5_no rfl rfl rfl (by decide +kernel) ⟨Nat.le_of_ble_eq_true rfl, Nat.le_of_ble_eq_true rfl⟩) (zpreV (ci := 5) (q0 := 0) hX hW rfl rfl [0] rfl (by decide)) rfl rfl hl.1 rfl (lv_room (Nat.le_of_ble_eq_true rfl)) dX5_rent_55 ⟨Nat.le_of_ble_eq_true rfl, Nat.le_of_ble_eq_true rfl⟩) hX hW [0] rfl (by decide) (fun _ => rfl) (fun r_55 u_55 H locs h_55 hW => ?_)
          have hW : zW Z s A [(o0, .inr (5, [.int (nI 3), .int dy, .int me, .int co, .int (nI np), .int ca, .int br, .int ml, .ref o1, .ref o2, .ref o3, .ref o4, .ref o5, .ref o6, .int le, .ref o7, .ref o8])), (o1, zI Z 3770 (stF S F G)), (o2, zI Z 6 (qF pn 0)), (o3, zI Z 6 (qF pn 1)), (o4, zI Z 6 (qF pn 2)), (o5, zI Z 6 (qF pn 3)), (o6, zI Z 6 E), (o7, zI Z 29 Tk), (o8, zI Z 29 Lf)] _ _ := hW
          subst h_55
          refine lv_goto (tgt := 73) hx hb dX5_rent_58 (by decide) ?_
          exact z_iret hx hb hr hlk hW (nI 3, (stF S F G)) (by unfold po_X5_rent; exact Or.inr ⟨3, by omega, cdx_3 (fun h6 => h6.elim (fun h7 => h7 hP) (fun h7 => h7 hS9)) (fun h6 => h6 hM9) (by rw [hM8.2.2]; exact c_50), rfl, rfl⟩) (rfl) (by omega) (by omega) dX5_rent_73
      · refine lv_aload_n hx hb dX5_rent_37 rfl (lv_at hl 0 rfl) ?_
        refine lv_iconst (v := nI 2) hx hb dX5_rent_38 (by decide) ?_
        refine zc_i (va_runV (As := [.int (nI 2)]) (rest := []) hC (c_X5_no l Z o0 o1 o2 o3 o4 o5 o6 o7 o8 np (nI 0) dy me co ca br ml le 2  _) (cwV 1 hts gX5_rent_X5_no rfl rfl rfl (by decide +kernel) ⟨Nat.le_of_ble_eq_true rfl, Nat.le_of_ble_eq_true rfl⟩) (zpreV (ci := 5) (q0 := 0) hX hW rfl rfl [0] rfl (by decide)) rfl rfl hl.1 rfl (lv_room (Nat.le_of_ble_eq_true rfl)) dX5_rent_39 ⟨Nat.le_of_ble_eq_true rfl, Nat.le_of_ble_eq_true rfl⟩) hX hW [0] rfl (by decide) (fun _ => rfl) (fun r_39 u_39 H locs h_39 hW => ?_)
        have hW : zW Z s A [(o0, .inr (5, [.int (nI 2), .int dy, .int me, .int co, .int (nI np), .int ca, .int br, .int ml, .ref o1, .ref o2, .ref o3, .ref o4, .ref o5, .ref o6, .int le, .ref o7, .ref o8])), (o1, zI Z 3770 (stF S F G)), (o2, zI Z 6 (qF pn 0)), (o3, zI Z 6 (qF pn 1)), (o4, zI Z 6 (qF pn 2)), (o5, zI Z 6 (qF pn 3)), (o6, zI Z 6 E), (o7, zI Z 29 Tk), (o8, zI Z 29 Lf)] _ _ := hW
        subst h_39
        exact z_iret hx hb hr hlk hW (nI 2, stF S F G) (by unfold po_X5_rent; exact Or.inr ⟨2, by omega, cdx_2 (fun h6 => h6.elim (fun h7 => h7 hP) (fun h7 => h7 hS9)) (bI_e c_34), rfl, rfl⟩) (rfl) (by omega) (by omega) dX5_rent_42
    · refine lv_aload_n hx hb dX5_rent_20 rfl (lv_at hl 0 rfl) ?_
      refine lv_iconst (v := nI 1) hx hb dX5_rent_21 (by decide) ?_
      refine zc_i (va_runV (As := [.int (nI 1)]) (rest := []) hC (c_X5_no l Z o0 o1 o2 o3 o4 o5 o6 o7 o8 np (nI 0) dy me co ca br ml le 1  _) (cwV 1 hts gX5_rent_X5_no rfl rfl rfl (by decide +kernel) ⟨Nat.le_of_ble_eq_true rfl, Nat.le_of_ble_eq_true rfl⟩) (zpreV (ci := 5) (q0 := 0) hX hW rfl rfl [0] rfl (by decide)) rfl rfl hl.1 rfl (lv_room (Nat.le_of_ble_eq_true rfl)) dX5_rent_22 ⟨Nat.le_of_ble_eq_true rfl, Nat.le_of_ble_eq_true rfl⟩) hX hW [0] rfl (by decide) (fun _ => rfl) (fun r_22 u_22 H locs h_22 hW => ?_)
      have hW : zW Z s A [(o0, .inr (5, [.int (nI 1), .int dy, .int me, .int co, .int (nI np), .int ca, .int br, .int ml, .ref o1, .ref o2, .ref o3, .ref o4, .ref o5, .ref o6, .int le, .ref o7, .ref o8])), (o1, zI Z 3770 (stF S F G)), (o2, zI Z 6 (qF pn 0)), (o3, zI Z 6 (qF pn 1)), (o4, zI Z 6 (qF pn 2)), (o5, zI Z 6 (qF pn 3)), (o6, zI Z 6 E), (o7, zI Z 29 Tk), (o8, zI Z 29 Lf)] _ _ := hW
      subst h_22
      exact z_iret hx hb hr hlk hW (nI 1, stF S F G) (by unfold po_X5_rent; exact Or.inr ⟨1, by omega, cdx_1 (by first | exact Or.inl (bI_e c_10) | exact Or.inr (bI_e c_17)), rfl, rfl⟩) (rfl) (by omega) (by omega) dX5_rent_25
