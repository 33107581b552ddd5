theorem mw_X5_takes_0 : Cond.fieldLink RX5 38 "TypeFoundryModel" "thrown" "I" ∈ wsX5_takes := by decide +kernel
theorem mw_X5_takes_1 : ∀ w ∈ wsX50, w ∈ wsX5_takes := by decide +kernel
abbrev wp_X5_takes (Z : zT) (o0 o1 o2 o3 o4 o5 o6 o7 o8 np : Nat) (th dy me co ca br ml le : Int32) (S E Tk Lf : Nat → Int32) (F G pn : Nat → Nat → Int32) (pv wv : Int32) : Int32 × Int32 × (Nat → Int32) × (Nat → Int32) × (Nat → Int32) → va_W := fun (u : Int32 × Int32 × (Nat → Int32) × (Nat → Int32) × (Nat → Int32)) => match u with | (th_1, le_1, E_1, Tk_1, Lf_1) => [(o0, .inr (5, [.int th_1, .int dy, .int me, .int co, .int (nI np), .int ca, .int br, .int ml, .ref o1, .ref o2, .ref o3, .ref o4, .ref o5, .ref o6, .int le_1, .ref o7, .ref o8])), (o1, zI Z 3770 (stF S F G)), (o2, zI Z 6 (qF pn 0)), (o3, zI Z 6 (qF pn 1)), (o4, zI Z 6 (qF pn 2)), (o5, zI Z 6 (qF pn 3)), (o6, zI Z 6 E_1), (o7, zI Z 29 Tk_1), (o8, zI Z 29 Lf_1)]
abbrev po_X5_takes (Z : zT) (o0 o1 o2 o3 o4 o5 o6 o7 o8 np : Nat) (th dy me co ca br ml le : Int32) (S E Tk Lf : Nat → Int32) (F G pn : Nat → Nat → Int32) (pv wv : Int32) : Int32 → Int32 × Int32 × (Nat → Int32) × (Nat → Int32) × (Nat → Int32) → Prop := fun (r : Int32) (u : Int32 × Int32 × (Nat → Int32) × (Nat → Int32) × (Nat → Int32)) => match u with | (th_1, le_1, E_1, Tk_1, Lf_1) => (th_1 = nI 0 ∧ 0 = cdx (¬ isP pv np) (¬ isW wv) (False) ∧ r = (ly0 (wla wv) (wkk wv) (lk (F (sn pv)))).1) ∨ (∃ k9, 1 ≤ k9 ∧ k9 = cdx (¬ isP pv np) (¬ isW wv) (False) ∧ th_1 = nI k9)
abbrev rm_X5_takes : Room := { frames := 2, cells := 0, slots := 0, locals := 46 }
set_option maxHeartbeats 4000000 in
set_option maxRecDepth 100000 in
theorem c_X5_takes (l : Launch) (Z : zT) (o0 o1 o2 o3 o4 o5 o6 o7 o8 np : Nat) (th dy me co ca br ml le : Int32) (S E Tk Lf : Nat → Int32) (F G pn : Nat → Nat → Int32) (pv wv : Int32) (hG : GA S F G) (hnp : np ≤ 6) : zMet l yX5_takes wsX5_takes rm_X5_takes [.ref o0, .int pv, .int wv] Z [(o0, .inr (5, [.int th, .int dy, .int me, .int co, .int (nI np), .int ca, .int br, .int ml, .ref o1, .ref o2, .ref o3, .ref o4, .ref o5, .ref o6, .int le, .ref o7, .ref o8])), (o1, zI Z 3770 (stF S F G)), (o2, zI Z 6 (qF pn 0)), (o3, zI Z 6 (qF pn 1)), (o4, zI Z 6 (qF pn 2)), (o5, zI Z 6 (qF pn 3)), (o6, zI Z 6 E), (o7, zI Z 29 Tk), (o8, zI Z 29 Lf)] (zQi Z (po_X5_takes Z o0 o1 o2 o3 o4 o5 o6 o7 o8 np th dy me co ca br ml le S E Tk Lf F G pn pv wv) (wp_X5_takes Z o0 o1 o2 o3 o4 o5 o6 o7 o8 np th dy me co ca br ml le S E Tk Lf F G pn pv wv)) 0 0 := by
  refine zstart (cc := cX5_takes) (maxL := 3) (ret := (some .int)) (by decide) rfl (Nat.le_of_ble_eq_true rfl) ?_
  intro p e s m below meth c ls A hx hb hr hC hlk hnm hX hW hl
  have hml := hC.2.2.1
  have hown : s.vm.findClass RX5 = some m.cls := hC.2.2.2.1
  have hts := hC.2.2.2.2
  have hl : lv_has ls 3 [(0, .ref o0), (1, .int pv), (2, .int wv)] := hl
  refine lv_aload_n hx hb dX5_takes_0 rfl (lv_at hl 0 rfl) ?_
  refine lv_iconst (v := nI 0) hx hb dX5_takes_1 (by decide) ?_
  refine z_put (C := RX5) (T := TX5) (N := 17) (v := .int (nI 0)) (ty := .int) hx hb hts mw_X5_takes_1 tyX5 tyX5_ok nmX5 hown hX hW 0 rfl rfl 0 (by decide) mw_X5_takes_0 (fun _ h9 => h9) rfl (by decide +kernel) rfl rfl (Nat.le_of_ble_eq_true rfl) dX5_takes_2 (fun H locs hW => ?_)
  have hW : zW Z s A [(o0, .inr (5, [.int (nI 0), .int dy, .int me, .int co, .int (nI np), .int ca, .int br, .int ml, .ref o1, .ref o2, .ref o3, .ref o4, .ref o5, .ref o6, .int le, .ref o7, .ref o8])), (o1, zI Z 3770 (stF S F G)), (o2, zI Z 6 (qF pn 0)), (o3, zI Z 6 (qF pn 1)), (o4, zI Z 6 (qF pn 2)), (o5, zI Z 6 (qF pn 3)), (o6, zI Z 6 E), (o7, zI Z 29 Tk), (o8, zI Z 29 Lf)] _ _ := hW
  refine lv_aload_n hx hb dX5_takes_5 rfl (lv_at hl 0 rfl) ?_
  refine lv_iload_n hx hb dX5_takes_6 rfl (lv_at hl 1 rfl) ?_
  refine zc_i (va_runV (As := [.int pv]) (rest := []) hC (c_X5_isPrinter l Z o0 o1 o2 o3 o4 o5 o6 o7 o8 np (nI 0) dy me co ca br ml le pv (by omega) _) (cwV 1 hts gX5_takes_X5_isPrinter rfl rfl rfl (by decide +kernel) ⟨Nat.le_of_ble_eq_true rfl, Nat.le_of_ble_eq_true rfl⟩) (zpreV (ci := 5) (q0 := 0) hX hW rfl rfl [0] rfl (by decide)) rfl rfl hl.1 rfl (lv_room (Nat.le_of_ble_eq_true rfl)) dX5_takes_7 ⟨Nat.le_of_ble_eq_true rfl, Nat.le_of_ble_eq_true rfl⟩) hX hW [0] rfl (by decide) (fun _ => rfl) (fun r_7 u_7 H locs h_7 hW => ?_)
  have hW : zW Z s A [(o0, .inr (5, [.int (nI 0), .int dy, .int me, .int co, .int (nI np), .int ca, .int br, .int ml, .ref o1, .ref o2, .ref o3, .ref o4, .ref o5, .ref o6, .int le, .ref o7, .ref o8])), (o1, zI Z 3770 (stF S F G)), (o2, zI Z 6 (qF pn 0)), (o3, zI Z 6 (qF pn 1)), (o4, zI Z 6 (qF pn 2)), (o5, zI Z 6 (qF pn 3)), (o6, zI Z 6 E), (o7, zI Z 29 Tk), (o8, zI Z 29 Lf)] _ _ := hW
  subst h_7
  refine lv_if_ne (tgt := 19) hx hb dX5_takes_10 (by decide) (fun c_10 => ?_) (fun c_10 => ?_)
  · have hP : isP pv np := bI_n c_10
    have hP1 := hP.1
    have hl : lv_has ls 3 [(0, .ref o0), (1, .int (nI (sn pv))), (2, .int wv)] := by rw [← hP.2]; exact hl
    refine lv_aload_n hx hb dX5_takes_19 rfl (lv_at hl 0 rfl) ?_
    refine lv_iload_n hx hb dX5_takes_20 rfl (lv_at hl 2 rfl) ?_
    refine zc_i (va_runV (As := [.int wv]) (rest := []) hC (c_X5_isWord l Z o0 o1 o2 o3 o4 o5 o6 o7 o8 np (nI 0) dy me co ca br ml le E wv  _) (cwV 1 hts gX5_takes_X5_isWord rfl rfl rfl (by decide +kernel) ⟨Nat.le_of_ble_eq_true rfl, Nat.le_of_ble_eq_true rfl⟩) (zpreV (ci := 5) (q0 := 0) hX hW rfl rfl [0, 6] rfl (by decide)) rfl rfl hl.1 rfl (lv_room (Nat.le_of_ble_eq_true rfl)) dX5_takes_21 ⟨Nat.le_of_ble_eq_true rfl, Nat.le_of_ble_eq_true rfl⟩) hX hW [0, 6] rfl (by decide) (fun _ => rfl) (fun r_21 u_21 H locs h_21 hW => ?_)
    obtain ⟨E1_21, le1_21⟩ := u_21
    have hW : zW Z s A [(o0, .inr (5, [.int (nI 0), .int dy, .int me, .int co, .int (nI np), .int ca, .int br, .int ml, .ref o1, .ref o2, .ref o3, .ref o4, .ref o5, .ref o6, .int le1_21, .ref o7, .ref o8])), (o1, zI Z 3770 (stF S F G)), (o2, zI Z 6 (qF pn 0)), (o3, zI Z 6 (qF pn 1)), (o4, zI Z 6 (qF pn 2)), (o5, zI Z 6 (qF pn 3)), (o6, zI Z 6 E1_21), (o7, zI Z 29 Tk), (o8, zI Z 29 Lf)] _ _ := hW
    rcases h_21 with ⟨rfl, hW9, hle9, hM9⟩ | ⟨rfl, hW9⟩
    · subst hle9
      have hW : zW Z s A [(o0, .inr (5, [.int (nI 0), .int dy, .int me, .int co, .int (nI np), .int ca, .int br, .int ml, .ref o1, .ref o2, .ref o3, .ref o4, .ref o5, .ref o6, .int (nI (wkk wv)), .ref o7, .ref o8])), (o1, zI Z 3770 (stF S F G)), (o2, zI Z 6 (qF pn 0)), (o3, zI Z 6 (qF pn 1)), (o4, zI Z 6 (qF pn 2)), (o5, zI Z 6 (qF pn 3)), (o6, zI Z 6 E1_21), (o7, zI Z 29 Tk), (o8, zI Z 29 Lf)] _ _ := hW
      refine zn_if_ne (tgt := 33) (a := 1) hx hb (by omega) dX5_takes_24 (by decide) (fun c_24 => ?_) (fun c_24 => (absurd c_24 (by decide) : False).elim)
      refine lv_aload_n hx hb dX5_takes_33 rfl (lv_at hl 0 rfl) ?_
      refine lv_iload_n hx hb dX5_takes_34 rfl (lv_at hl 1 rfl) ?_
      refine zc_v (va_runV (As := [.int (nI (sn pv))]) (rest := []) hC (c_X5_look l Z o0 o1 o2 o3 o4 o5 o6 o7 o8 np (nI 0) dy me co ca br ml (nI (wkk wv)) (stF S F G) Lf (sn pv) (by omega) _) (cwV 1 hts gX5_takes_X5_look rfl rfl rfl (by decide +kernel) ⟨Nat.le_of_ble_eq_true rfl, Nat.le_of_ble_eq_true rfl⟩) (zpreV (ci := 5) (q0 := 0) hX hW rfl rfl [0, 1, 8] rfl (by decide)) rfl rfl hl.1 rfl (lv_room (Nat.le_of_ble_eq_true rfl)) dX5_takes_35 ⟨Nat.le_of_ble_eq_true rfl, Nat.le_of_ble_eq_true rfl⟩) hX hW [0, 1, 8] rfl (by decide) (fun _ => rfl) (fun u_35 H locs h_35 hW => ?_)
      have hW : zW Z s A [(o0, .inr (5, [.int (nI 0), .int dy, .int me, .int co, .int (nI np), .int ca, .int br, .int ml, .ref o1, .ref o2, .ref o3, .ref o4, .ref o5, .ref o6, .int (nI (wkk wv)), .ref o7, .ref o8])), (o1, zI Z 3770 (stF S F G)), (o2, zI Z 6 (qF pn 0)), (o3, zI Z 6 (qF pn 1)), (o4, zI Z 6 (qF pn 2)), (o5, zI Z 6 (qF pn 3)), (o6, zI Z 6 E1_21), (o7, zI Z 29 Tk), (o8, zI Z 29 (lk (sh (stF S F G) (290 * (1 + (sn pv))))))] _ _ := hW
      have hP6 : sn pv < 6 := by omega
      have hF9 := hG.2.1 (sn pv)
      have hb9 : tt (F (sn pv)) 290 + tt (G (sn pv)) 290 < 2 ^ 31 := (by have := hG.2.2.2; have := tP_le (F := F) hP6; have := tP_le (F := G) hP6; unfold tS at *; omega)
      obtain ⟨hk1, hk6, hka⟩ := isW_la hW9
      rw [sh_F hP6 hF9] at hW
      have hW : zW Z s A [(o0, .inr (5, [.int (nI 0), .int dy, .int me, .int co, .int (nI np), .int ca, .int br, .int ml, .ref o1, .ref o2, .ref o3, .ref o4, .ref o5, .ref o6, .int (nI (wkk wv)), .ref o7, .ref o8])), (o1, zI Z 3770 (stF S F G)), (o2, zI Z 6 (qF pn 0)), (o3, zI Z 6 (qF pn 1)), (o4, zI Z 6 (qF pn 2)), (o5, zI Z 6 (qF pn 3)), (o6, zI Z 6 E1_21), (o7, zI Z 29 Tk), (o8, zI Z 29 (lk (F (sn pv))))] _ _ := hW
      refine lv_aload_n hx hb dX5_takes_38 rfl (lv_at hl 0 rfl) ?_
      refine zc_i (va_runV (As := []) (rest := []) hC (c_X5_compose l Z o0 o1 o2 o3 o4 o5 o6 o7 o8 np (nI 0) dy me co ca br ml E1_21 Tk (lk (F (sn pv))) (wkk wv) (wla wv) hM9 (lk_nn hF9 (by omega)) _) (cwV 0 hts gX5_takes_X5_compose rfl rfl rfl (by decide +kernel) ⟨Nat.le_of_ble_eq_true rfl, Nat.le_of_ble_eq_true rfl⟩) (zpreV (ci := 5) (q0 := 0) hX hW rfl rfl [0, 6, 7, 8] rfl (by decide)) rfl rfl hl.1 rfl (lv_room (Nat.le_of_ble_eq_true rfl)) dX5_takes_39 ⟨Nat.le_of_ble_eq_true rfl, Nat.le_of_ble_eq_true rfl⟩) hX hW [0, 6, 7, 8] rfl (by decide) (fun _ => rfl) (fun r_39 u_39 H locs h_39 hW => ?_)
      have hW : zW Z s A [(o0, .inr (5, [.int (nI 0), .int dy, .int me, .int co, .int (nI np), .int ca, .int br, .int ml, .ref o1, .ref o2, .ref o3, .ref o4, .ref o5, .ref o6, .int (nI (wkk wv)), .ref o7, .ref o8])), (o1, zI Z 3770 (stF S F G)), (o2, zI Z 6 (qF pn 0)), (o3, zI Z 6 (qF pn 1)), (o4, zI Z 6 (qF pn 2)), (o5, zI Z 6 (qF pn 3)), (o6, zI Z 6 E1_21), (o7, zI Z 29 ((ly0 (wla wv) (wkk wv) (lk (F (sn pv)))).2.2)), (o8, zI Z 29 ((ly0 (wla wv) (wkk wv) (lk (F (sn pv)))).2.1))] _ _ := hW
      subst h_39
      exact z_iret hx hb hr hlk hW ((nI 0), nI (wkk wv), E1_21, (ly0 (wla wv) (wkk wv) (lk (F (sn pv)))).2.2, (ly0 (wla wv) (wkk wv) (lk (F (sn pv)))).2.1) (by unfold po_X5_takes; exact Or.inl ⟨rfl, cdx_0 (fun h6 => h6 hP) (fun h6 => h6 hW9) (fun h6 => h6), rfl⟩) (rfl) (by omega) (by omega) dX5_takes_42
    · refine zn_if_ne (tgt := 33) (a := 0) hx hb (by omega) dX5_takes_24 (by decide) (fun c_24 => (absurd c_24 (by decide) : False).elim) (fun c_24 => ?_)
      refine lv_aload_n hx hb dX5_takes_27 rfl (lv_at hl 0 rfl) ?_
      refine lv_iconst (v := nI 2) hx hb dX5_takes_28 (by decide) ?_
      refine zc_i (va_runV (As := [.int (nI 2)]) (rest := []) hC (c_X5_no l Z o0 o1 o2 o3 o4 o5 o6 o7 o8 np (nI 0) dy me co ca br ml le1_21 2  _) (cwV 1 hts gX5_takes_X5_no rfl rfl rfl (by decide +kernel) ⟨Nat.le_of_ble_eq_true rfl, Nat.le_of_ble_eq_true rfl⟩) (zpreV (ci := 5) (q0 := 0) hX hW rfl rfl [0] rfl (by decide)) rfl rfl hl.1 rfl (lv_room (Nat.le_of_ble_eq_true rfl)) dX5_takes_29 ⟨Nat.le_of_ble_eq_true rfl, Nat.le_of_ble_eq_true rfl⟩) hX hW [0] rfl (by decide) (fun _ => rfl) (fun r_29 u_29 H locs h_29 hW => ?_)
      have hW : zW Z s A [(o0, .inr (5, [.int (nI 2), .int dy, .int me, .int co, .int (nI np), .int ca, .int br, .int ml, .ref o1, .ref o2, .ref o3, .ref o4, .ref o5, .ref o6, .int le1_21, .ref o7, .ref o8])), (o1, zI Z 3770 (stF S F G)), (o2, zI Z 6 (qF pn 0)), (o3, zI Z 6 (qF pn 1)), (o4, zI Z 6 (qF pn 2)), (o5, zI Z 6 (qF pn 3)), (o6, zI Z 6 E1_21), (o7, zI Z 29 Tk), (o8, zI Z 29 Lf)] _ _ := hW
      subst h_29
      exact z_iret hx hb hr hlk hW (nI 2, le1_21, E1_21, Tk, Lf) (by unfold po_X5_takes; exact Or.inr ⟨2, by omega, cdx_2 (fun h6 => h6 hP) hW9, rfl⟩) (rfl) (by omega) (by omega) dX5_takes_32
  · refine lv_aload_n hx hb dX5_takes_13 rfl (lv_at hl 0 rfl) ?_
    refine lv_iconst (v := nI 1) hx hb dX5_takes_14 (by decide) ?_
    refine zc_i (va_runV (As := [.int (nI 1)]) (rest := []) hC (c_X5_no l Z o0 o1 o2 o3 o4 o5 o6 o7 o8 np (nI 0) dy me co ca br ml le 1  _) (cwV 1 hts gX5_takes_X5_no rfl rfl rfl (by decide +kernel) ⟨Nat.le_of_ble_eq_true rfl, Nat.le_of_ble_eq_true rfl⟩) (zpreV (ci := 5) (q0 := 0) hX hW rfl rfl [0] rfl (by decide)) rfl rfl hl.1 rfl (lv_room (Nat.le_of_ble_eq_true rfl)) dX5_takes_15 ⟨Nat.le_of_ble_eq_true rfl, Nat.le_of_ble_eq_true rfl⟩) hX hW [0] rfl (by decide) (fun _ => rfl) (fun r_15 u_15 H locs h_15 hW => ?_)
    have hW : zW Z s A [(o0, .inr (5, [.int (nI 1), .int dy, .int me, .int co, .int (nI np), .int ca, .int br, .int ml, .ref o1, .ref o2, .ref o3, .ref o4, .ref o5, .ref o6, .int le, .ref o7, .ref o8])), (o1, zI Z 3770 (stF S F G)), (o2, zI Z 6 (qF pn 0)), (o3, zI Z 6 (qF pn 1)), (o4, zI Z 6 (qF pn 2)), (o5, zI Z 6 (qF pn 3)), (o6, zI Z 6 E), (o7, zI Z 29 Tk), (o8, zI Z 29 Lf)] _ _ := hW
    subst h_15
    exact z_iret hx hb hr hlk hW (nI 1, le, E, Tk, Lf) (by unfold po_X5_takes; exact Or.inr ⟨1, by omega, cdx_1 (bI_e c_10), rfl⟩) (rfl) (by omega) (by omega) dX5_takes_18
