theorem mw_X5_pass_0 : Cond.fieldLink RX5 38 "TypeFoundryModel" "thrown" "I" ∈ wsX5_pass := by decide +kernel
theorem mw_X5_pass_1 : ∀ w ∈ wsX50, w ∈ wsX5_pass := by decide +kernel
theorem mw_X5_pass_2 : Cond.fieldLink RX5 41 "TypeFoundryModel" "printers" "I" ∈ wsX5_pass := by decide +kernel
theorem mw_X5_pass_3 : Cond.fieldLink RX5 119 "TypeFoundryModel" "day" "I" ∈ wsX5_pass := by decide +kernel
theorem mw_X5_pass_4 : Cond.fieldLink RX5 20 "TypeFoundryModel" "owed" "[I" ∈ wsX5_pass := by decide +kernel
abbrev wp_X5_pass (Z : zT) (o0 o1 o2 o3 o4 o5 o6 o7 o8 np : Nat) (th dy me co ca br ml le : Int32) (S E Tk Lf : Nat → Int32) (F G pn : Nat → Nat → Int32) (dv : Int32) : Int32 × Int32 × (Nat → Int32) × (Nat → Int32) × (Nat → Int32) × (Nat → Int32) → va_W := fun (u : Int32 × Int32 × (Nat → Int32) × (Nat → Int32) × (Nat → Int32) × (Nat → Int32)) => match u with | (th_1, dy_1, q0_1, q1_1, q2_1, q3_1) => [(o0, .inr (5, [.int th_1, .int dy_1, .int me, .int co, .int (nI np), .int ca, .int br, .int ml, .ref o1, .ref o2, .ref o3, .ref o4, .ref o5, .ref o6, .int le, .ref o7, .ref o8])), (o1, zI Z 3770 (stF S F G)), (o2, zI Z 6 q0_1), (o3, zI Z 6 q1_1), (o4, zI Z 6 q2_1), (o5, zI Z 6 q3_1), (o6, zI Z 6 E), (o7, zI Z 29 Tk), (o8, zI Z 29 Lf)]
abbrev po_X5_pass (Z : zT) (o0 o1 o2 o3 o4 o5 o6 o7 o8 np : Nat) (th dy me co ca br ml le : Int32) (S E Tk Lf : Nat → Int32) (F G pn : Nat → Nat → Int32) (dv : Int32) : Int32 → Int32 × Int32 × (Nat → Int32) × (Nat → Int32) × (Nat → Int32) × (Nat → Int32) → Prop := fun (r : Int32) (u : Int32 × Int32 × (Nat → Int32) × (Nat → Int32) × (Nat → Int32) × (Nat → Int32)) => match u with | (th_1, dy_1, q0_1, q1_1, q2_1, q3_1) => (th_1 = nI 0 ∧ 0 = cdx (¬ inR dv 1 100) (False) (False) ∧ r = (psS dv F G pn np).2 ∧ dy_1 = dy + dv ∧ q0_1 = qF (psS dv F G pn np).1 0 ∧ q1_1 = qF (psS dv F G pn np).1 1 ∧ q2_1 = qF (psS dv F G pn np).1 2 ∧ q3_1 = qF (psS dv F G pn np).1 3) ∨ (∃ k9, 1 ≤ k9 ∧ k9 = cdx (¬ inR dv 1 100) (False) (False) ∧ th_1 = nI k9 ∧ dy_1 = dy ∧ q0_1 = qF pn 0 ∧ q1_1 = qF pn 1 ∧ q2_1 = qF pn 2 ∧ q3_1 = qF pn 3)
abbrev rm_X5_pass : Room := { frames := 1, cells := 0, slots := 0, locals := 23 }
set_option maxHeartbeats 4000000 in
set_option maxRecDepth 100000 in
theorem c_X5_pass (l : Launch) (Z : zT) (o0 o1 o2 o3 o4 o5 o6 o7 o8 np : Nat) (th dy me co ca br ml le : Int32) (S E Tk Lf : Nat → Int32) (F G pn : Nat → Nat → Int32) (dv : Int32) (hG : GA S F G) (hnp : np ≤ 6) : zMet l yX5_pass wsX5_pass rm_X5_pass [.ref o0, .int dv] Z [(o0, .inr (5, [.int th, .int dy, .int me, .int co, .int (nI np), .int ca, .int br, .int ml, .ref o1, .ref o2, .ref o3, .ref o4, .ref o5, .ref o6, .int le, .ref o7, .ref o8])), (o1, zI Z 3770 (stF S F G)), (o2, zI Z 6 (qF pn 0)), (o3, zI Z 6 (qF pn 1)), (o4, zI Z 6 (qF pn 2)), (o5, zI Z 6 (qF pn 3)), (o6, zI Z 6 E), (o7, zI Z 29 Tk), (o8, zI Z 29 Lf)] (zQi Z (po_X5_pass Z o0 o1 o2 o3 o4 o5 o6 o7 o8 np th dy me co ca br ml le S E Tk Lf F G pn dv) (wp_X5_pass Z o0 o1 o2 o3 o4 o5 o6 o7 o8 np th dy me co ca br ml le S E Tk Lf F G pn dv)) 0 0 := by
  refine zstart (cc := cX5_pass) (maxL := 4) (ret := (some .int)) (by decide) rfl (Nat.le_of_ble_eq_true rfl) ?_
  intro p e s m below meth c ls A hx hb hr hC hlk hnm hX hW hl
  have hml := hC.2.2.1
  have hown : s.vm.findClass RX5 = some m.cls := hC.2.2.2.1
  have hts := hC.2.2.2.2
  have hl : lv_has ls 4 [(0, .ref o0), (1, .int dv)] := hl
  refine lv_aload_n hx hb dX5_pass_0 rfl (lv_at hl 0 rfl) ?_
  refine lv_iconst (v := nI 0) hx hb dX5_pass_1 (by decide) ?_
  refine z_put (C := RX5) (T := TX5) (N := 17) (v := .int (nI 0)) (ty := .int) hx hb hts mw_X5_pass_1 tyX5 tyX5_ok nmX5 hown hX hW 0 rfl rfl 0 (by decide) mw_X5_pass_0 (fun _ h9 => h9) rfl (by decide +kernel) rfl rfl (Nat.le_of_ble_eq_true rfl) dX5_pass_2 (fun H locs hW => ?_)
  have hW : zW Z s A [(o0, .inr (5, [.int (nI 0), .int dy, .int me, .int co, .int (nI np), .int ca, .int br, .int ml, .ref o1, .ref o2, .ref o3, .ref o4, .ref o5, .ref o6, .int le, .ref o7, .ref o8])), (o1, zI Z 3770 (stF S F G)), (o2, zI Z 6 (qF pn 0)), (o3, zI Z 6 (qF pn 1)), (o4, zI Z 6 (qF pn 2)), (o5, zI Z 6 (qF pn 3)), (o6, zI Z 6 E), (o7, zI Z 29 Tk), (o8, zI Z 29 Lf)] _ _ := hW
  refine lv_iload_n hx hb dX5_pass_5 rfl (lv_at hl 1 rfl) ?_
  refine lv_iconst (v := nI 1) hx hb dX5_pass_6 (by decide) ?_
  refine lv_bipush (v := nI 100) hx hb dX5_pass_7 (by decide) ?_
  refine zc_i (va_runS (As := [.int dv, .int (nI 1), .int (nI 100)]) (rest := []) hC (c_X5_isIn l Z dv (nI 1) (nI 100)  _) (va_cwS 3 hts gX5_pass_X5_isIn rfl rfl rfl (by decide +kernel) ⟨Nat.le_of_ble_eq_true rfl, Nat.le_of_ble_eq_true rfl⟩) (zpreS hX hW [] rfl (by decide)) rfl rfl hl.1 rfl (lv_room (Nat.le_of_ble_eq_true rfl)) dX5_pass_9 ⟨Nat.le_of_ble_eq_true rfl, Nat.le_of_ble_eq_true rfl⟩) hX hW [] rfl (by decide) (fun _ => rfl) (fun r_9 u_9 H locs h_9 hW => ?_)
  have hW : zW Z s A [(o0, .inr (5, [.int (nI 0), .int dy, .int me, .int co, .int (nI np), .int ca, .int br, .int ml, .ref o1, .ref o2, .ref o3, .ref o4, .ref o5, .ref o6, .int le, .ref o7, .ref o8])), (o1, zI Z 3770 (stF S F G)), (o2, zI Z 6 (qF pn 0)), (o3, zI Z 6 (qF pn 1)), (o4, zI Z 6 (qF pn 2)), (o5, zI Z 6 (qF pn 3)), (o6, zI Z 6 E), (o7, zI Z 29 Tk), (o8, zI Z 29 Lf)] _ _ := hW
  subst h_9
  refine lv_if_ne (tgt := 21) hx hb dX5_pass_12 (by decide) (fun c_12 => ?_) (fun c_12 => ?_)
  · refine lv_iconst (v := nI 0) hx hb dX5_pass_21 (by decide) ?_
    refine lv_istore_n (lv' := [(2, .int (nI 0)), (0, .ref o0), (1, .int dv)]) hx hb dX5_pass_22 rfl hl (by decide) rfl (fun ls hl => ?_)
    refine lv_iconst (v := nI 0) hx hb dX5_pass_23 (by decide) ?_
    refine lv_istore_n (lv' := [(3, .int (nI 0)), (2, .int (nI 0)), (0, .ref o0), (1, .int dv)]) hx hb dX5_pass_24 rfl hl (by decide) rfl (fun ls hl => ?_)
    have loop_25 : ∀ (n : Nat) (j : Nat) (K : Nat → Int32) (y : Int32), (j ≤ np) → (K = qF (psS dv F G pn j).1 1) → (y = (psS dv F G pn j).2) → (np - j < n) → ∀ (H : Heap) (locs : List Loc) (ls : Array Slot), zW Z s A [(o0, .inr (5, [.int (nI 0), .int dy, .int me, .int co, .int (nI np), .int ca, .int br, .int ml, .ref o1, .ref o2, .ref o3, .ref o4, .ref o5, .ref o6, .int le, .ref o7, .ref o8])), (o1, zI Z 3770 (stF S F G)), (o2, zI Z 6 (qF pn 0)), (o3, zI Z 6 K), (o4, zI Z 6 (qF pn 2)), (o5, zI Z 6 (qF pn 3)), (o6, zI Z 6 E), (o7, zI Z 29 Tk), (o8, zI Z 29 Lf)] H locs → lv_has ls 4 [(3, .int (nI j)), (2, .int y), (0, .ref o0), (1, .int dv)] → W p l e rm_X5_pass s m ([.ref o0, .int dv] : List Value).toArray below meth c H locs 0 0 (MQ below (zQi Z (po_X5_pass Z o0 o1 o2 o3 o4 o5 o6 o7 o8 np th dy me co ca br ml le S E Tk Lf F G pn dv) (wp_X5_pass Z o0 o1 o2 o3 o4 o5 o6 o7 o8 np th dy me co ca br ml le S E Tk Lf F G pn dv) A) ([.ref o0, .int dv] : List Value).toArray s 0 0 A) (F0 m 25 ls []) := by
      intro n
      induction n with
      | zero =>
        intro j K y hj hK hy9 hm
        exact absurd hm (Nat.not_lt_zero _)
      | succ n ih =>
        intro j K y hj hK hy9 hm H locs ls hW hl
        have ih_25 := ih
        refine lv_iload_n hx hb dX5_pass_25 rfl (lv_at hl 0 rfl) ?_
        refine lv_aload_n hx hb dX5_pass_26 rfl (lv_at hl 2 rfl) ?_
        refine z_get (C := RX5) (T := TX5) (N := 17) hx hb hts mw_X5_pass_1 hown hX hW 0 rfl rfl 4 (by decide) mw_X5_pass_2 (fun _ h9 => h9) rfl dX5_pass_27 ?_
        refine zn_icmp_ge (tgt := 82) (a := j) (b := np) hx hb (by omega) (by omega) dX5_pass_30 (by decide) (fun c_30 => ?_) (fun c_30 => ?_)
        · refine lv_aload_n hx hb dX5_pass_82 rfl (lv_at hl 2 rfl) ?_
          refine lv_dup hx hb dX5_pass_83 rfl ?_
          refine z_get (C := RX5) (T := TX5) (N := 17) hx hb hts mw_X5_pass_1 hown hX hW 0 rfl rfl 1 (by decide) mw_X5_pass_3 (fun _ h9 => h9) rfl dX5_pass_84 ?_
          refine lv_iload_n hx hb dX5_pass_87 rfl (lv_at hl 3 rfl) ?_
          refine lv_iadd hx hb dX5_pass_88 ?_
          refine z_put (C := RX5) (T := TX5) (N := 17) (v := .int (dy + dv)) (ty := .int) hx hb hts mw_X5_pass_1 tyX5 tyX5_ok nmX5 hown hX hW 0 rfl rfl 1 (by decide) mw_X5_pass_3 (fun _ h9 => h9) rfl (by decide +kernel) rfl rfl (Nat.le_of_ble_eq_true rfl) dX5_pass_89 (fun H locs hW => ?_)
          have hW : zW Z s A [(o0, .inr (5, [.int (nI 0), .int (dy + dv), .int me, .int co, .int (nI np), .int ca, .int br, .int ml, .ref o1, .ref o2, .ref o3, .ref o4, .ref o5, .ref o6, .int le, .ref o7, .ref o8])), (o1, zI Z 3770 (stF S F G)), (o2, zI Z 6 (qF pn 0)), (o3, zI Z 6 K), (o4, zI Z 6 (qF pn 2)), (o5, zI Z 6 (qF pn 3)), (o6, zI Z 6 E), (o7, zI Z 29 Tk), (o8, zI Z 29 Lf)] _ _ := hW
          refine lv_iload_n hx hb dX5_pass_92 rfl (lv_at hl 1 rfl) ?_
          exact z_iret hx hb hr hlk hW (nI 0, dy + dv, qF pn 0, K, qF pn 2, qF pn 3) (by unfold po_X5_pass; exact Or.inl ⟨rfl, cdx_0 (fun h6 => h6 (bI_n c_12)) (fun h6 => h6) (fun h6 => h6), (by rw [hy9, show j = np by omega]), rfl, (psS_q0 dv F G pn np), (by rw [hK, show j = np by omega]), (psS_q2 dv F G pn np), (psS_q3 dv F G pn np)⟩) (rfl) (by omega) (by omega) dX5_pass_93
        · refine lv_aload_n hx hb dX5_pass_33 rfl (lv_at hl 2 rfl) ?_
          refine z_get (C := RX5) (T := TX5) (N := 17) hx hb hts mw_X5_pass_1 hown hX hW 0 rfl rfl 10 (by decide) mw_X5_pass_4 (fun _ h9 => h9) rfl dX5_pass_34 ?_
          refine lv_iload_n hx hb dX5_pass_37 rfl (lv_at hl 0 rfl) ?_
          refine lv_dup2_11 hx hb dX5_pass_38 rfl rfl ?_
          refine z_iald hx hb hX hW 3 rfl (k := j) (by omega) (by omega) dX5_pass_39 ?_
          refine lv_iload_n hx hb dX5_pass_40 rfl (lv_at hl 3 rfl) ?_
          refine lv_aload_n hx hb dX5_pass_41 rfl (lv_at hl 2 rfl) ?_
          refine lv_iload_n hx hb dX5_pass_42 rfl (lv_at hl 0 rfl) ?_
          refine zc_i (va_runS (As := [.int (nI j)]) (rest := [.ref o0, .int dv, .int (K j), .int (nI j), .ref o3]) hC (c_X5_caseOf l Z j  _) (va_cwS 1 hts gX5_pass_X5_caseOf rfl rfl rfl (by decide +kernel) ⟨Nat.le_of_ble_eq_true rfl, Nat.le_of_ble_eq_true rfl⟩) (zpreS hX hW [] rfl (by decide)) rfl rfl hl.1 rfl (lv_room (Nat.le_of_ble_eq_true rfl)) dX5_pass_43 ⟨Nat.le_of_ble_eq_true rfl, Nat.le_of_ble_eq_true rfl⟩) hX hW [] rfl (by decide) (fun _ => rfl) (fun r_43 u_43 H locs h_43 hW => ?_)
          have hW : zW Z s A [(o0, .inr (5, [.int (nI 0), .int dy, .int me, .int co, .int (nI np), .int ca, .int br, .int ml, .ref o1, .ref o2, .ref o3, .ref o4, .ref o5, .ref o6, .int le, .ref o7, .ref o8])), (o1, zI Z 3770 (stF S F G)), (o2, zI Z 6 (qF pn 0)), (o3, zI Z 6 K), (o4, zI Z 6 (qF pn 2)), (o5, zI Z 6 (qF pn 3)), (o6, zI Z 6 E), (o7, zI Z 29 Tk), (o8, zI Z 29 Lf)] _ _ := hW
          subst h_43
          refine zc_i (va_runV (As := [.int (nI (290 * (1 + j)))]) (rest := [.int dv, .int (K j), .int (nI j), .ref o3]) hC (c_X5_all l Z o0 o1 o2 o3 o4 o5 o6 o7 o8 np (nI 0) dy me co ca br ml le (stF S F G) (290 * (1 + j)) (by omega) _) (cwV 1 hts gX5_pass_X5_all rfl rfl rfl (by decide +kernel) ⟨Nat.le_of_ble_eq_true rfl, Nat.le_of_ble_eq_true rfl⟩) (zpreV (ci := 5) (q0 := 0) hX hW rfl rfl [0, 1] rfl (by decide)) rfl rfl hl.1 rfl (lv_room (Nat.le_of_ble_eq_true rfl)) dX5_pass_46 ⟨Nat.le_of_ble_eq_true rfl, Nat.le_of_ble_eq_true rfl⟩) hX hW [0, 1] rfl (by decide) (fun _ => rfl) (fun r_46 u_46 H locs h_46 hW => ?_)
          have hW : zW Z s A [(o0, .inr (5, [.int (nI 0), .int dy, .int me, .int co, .int (nI np), .int ca, .int br, .int ml, .ref o1, .ref o2, .ref o3, .ref o4, .ref o5, .ref o6, .int le, .ref o7, .ref o8])), (o1, zI Z 3770 (stF S F G)), (o2, zI Z 6 (qF pn 0)), (o3, zI Z 6 K), (o4, zI Z 6 (qF pn 2)), (o5, zI Z 6 (qF pn 3)), (o6, zI Z 6 E), (o7, zI Z 29 Tk), (o8, zI Z 29 Lf)] _ _ := hW
          subst h_46
          refine zw_topi (y := (bx_sum (F j) 290)) (by rw [sh_F (by omega) (hG.2.1 _)]) ?_
          refine lv_aload_n hx hb dX5_pass_49 rfl (lv_at hl 2 rfl) ?_
          refine lv_iload_n hx hb dX5_pass_50 rfl (lv_at hl 0 rfl) ?_
          refine zc_i (va_runS (As := [.int (nI j)]) (rest := [.ref o0, .int (bx_sum (F j) 290), .int dv, .int (K j), .int (nI j), .ref o3]) hC (c_X5_formOf l Z j  _) (va_cwS 1 hts gX5_pass_X5_formOf rfl rfl rfl (by decide +kernel) ⟨Nat.le_of_ble_eq_true rfl, Nat.le_of_ble_eq_true rfl⟩) (zpreS hX hW [] rfl (by decide)) rfl rfl hl.1 rfl (lv_room (Nat.le_of_ble_eq_true rfl)) dX5_pass_51 ⟨Nat.le_of_ble_eq_true rfl, Nat.le_of_ble_eq_true rfl⟩) hX hW [] rfl (by decide) (fun _ => rfl) (fun r_51 u_51 H locs h_51 hW => ?_)
          have hW : zW Z s A [(o0, .inr (5, [.int (nI 0), .int dy, .int me, .int co, .int (nI np), .int ca, .int br, .int ml, .ref o1, .ref o2, .ref o3, .ref o4, .ref o5, .ref o6, .int le, .ref o7, .ref o8])), (o1, zI Z 3770 (stF S F G)), (o2, zI Z 6 (qF pn 0)), (o3, zI Z 6 K), (o4, zI Z 6 (qF pn 2)), (o5, zI Z 6 (qF pn 3)), (o6, zI Z 6 E), (o7, zI Z 29 Tk), (o8, zI Z 29 Lf)] _ _ := hW
          subst h_51
          refine zc_i (va_runV (As := [.int (nI (290 * (7 + j)))]) (rest := [.int (bx_sum (F j) 290), .int dv, .int (K j), .int (nI j), .ref o3]) hC (c_X5_all l Z o0 o1 o2 o3 o4 o5 o6 o7 o8 np (nI 0) dy me co ca br ml le (stF S F G) (290 * (7 + j)) (by omega) _) (cwV 1 hts gX5_pass_X5_all rfl rfl rfl (by decide +kernel) ⟨Nat.le_of_ble_eq_true rfl, Nat.le_of_ble_eq_true rfl⟩) (zpreV (ci := 5) (q0 := 0) hX hW rfl rfl [0, 1] rfl (by decide)) rfl rfl hl.1 rfl (lv_room (Nat.le_of_ble_eq_true rfl)) dX5_pass_54 ⟨Nat.le_of_ble_eq_true rfl, Nat.le_of_ble_eq_true rfl⟩) hX hW [0, 1] rfl (by decide) (fun _ => rfl) (fun r_54 u_54 H locs h_54 hW => ?_)
          have hW : zW Z s A [(o0, .inr (5, [.int (nI 0), .int dy, .int me, .int co, .int (nI np), .int ca, .int br, .int ml, .ref o1, .ref o2, .ref o3, .ref o4, .ref o5, .ref o6, .int le, .ref o7, .ref o8])), (o1, zI Z 3770 (stF S F G)), (o2, zI Z 6 (qF pn 0)), (o3, zI Z 6 K), (o4, zI Z 6 (qF pn 2)), (o5, zI Z 6 (qF pn 3)), (o6, zI Z 6 E), (o7, zI Z 29 Tk), (o8, zI Z 29 Lf)] _ _ := hW
          subst h_54
          refine zw_topi (y := (bx_sum (G j) 290)) (by rw [sh_G (by omega) (hG.2.2.1 _)]) ?_
          refine lv_iadd hx hb dX5_pass_57 ?_
          refine lv_bipush (v := nI 9) hx hb dX5_pass_58 (by decide) ?_
          refine lv_iadd hx hb dX5_pass_60 ?_
          refine zw_topi (y := (bx_sum (F j) 290 + bx_sum (G j) 290 + nI 10 - nI 1)) (rn9 _) ?_
          refine lv_bipush (v := nI 10) hx hb dX5_pass_61 (by decide) ?_
          refine lv_idiv hx hb dX5_pass_63 (by decide) ?_
          refine lv_imul hx hb dX5_pass_64 ?_
          refine lv_iadd hx hb dX5_pass_65 ?_
          refine z_iast hx hb hX hW 3 rfl (k := j) (by omega) (by omega) dX5_pass_66 (fun H locs hW => ?_)
          have hW : zW Z s A [(o0, .inr (5, [.int (nI 0), .int dy, .int me, .int co, .int (nI np), .int ca, .int br, .int ml, .ref o1, .ref o2, .ref o3, .ref o4, .ref o5, .ref o6, .int le, .ref o7, .ref o8])), (o1, zI Z 3770 (stF S F G)), (o2, zI Z 6 (qF pn 0)), (o3, zI Z 6 (upd K j ((K j) + (dv * ((bx_sum (F j) 290 + bx_sum (G j) 290 + nI 10 - nI 1) / (nI 10)))))), (o4, zI Z 6 (qF pn 2)), (o5, zI Z 6 (qF pn 3)), (o6, zI Z 6 E), (o7, zI Z 29 Tk), (o8, zI Z 29 Lf)] _ _ := hW
          refine lv_iload_n hx hb dX5_pass_67 rfl (lv_at hl 1 rfl) ?_
          refine lv_aload_n hx hb dX5_pass_68 rfl (lv_at hl 2 rfl) ?_
          refine z_get (C := RX5) (T := TX5) (N := 17) hx hb hts mw_X5_pass_1 hown hX hW 0 rfl rfl 10 (by decide) mw_X5_pass_4 (fun _ h9 => h9) rfl dX5_pass_69 ?_
          refine lv_iload_n hx hb dX5_pass_72 rfl (lv_at hl 0 rfl) ?_
          refine z_iald hx hb hX hW 3 rfl (k := j) (by omega) (by omega) dX5_pass_73 ?_
          refine lv_iadd hx hb dX5_pass_74 ?_
          refine lv_istore_n (lv' := [(2, .int (y + ((upd K j ((K j) + (dv * ((bx_sum (F j) 290 + bx_sum (G j) 290 + nI 10 - nI 1) / (nI 10))))) j))), (3, .int (nI j)), (0, .ref o0), (1, .int dv)]) hx hb dX5_pass_75 rfl hl (by decide) rfl (fun ls hl => ?_)
          refine lv_iinc (v := nI (j + 1)) (lv' := [(3, .int (nI (j + 1))), (2, .int (y + ((upd K j ((K j) + (dv * ((bx_sum (F j) 290 + bx_sum (G j) 290 + nI 10 - nI 1) / (nI 10))))) j))), (0, .ref o0), (1, .int dv)]) hx hb dX5_pass_76 hl (k := 1) rfl (zinc1 _) (by decide) rfl (fun ls hl => ?_)
          refine lv_goto (tgt := 25) hx hb dX5_pass_79 (by decide) ?_
          have hl : lv_has ls 4 [(3, .int (nI (j + 1))), (2, .int (y + ((upd K j ((K j) + (dv * ((bx_sum (F j) 290 + bx_sum (G j) 290 + nI 10 - nI 1) / (nI 10))))) j))), (0, .ref o0), (1, .int dv)] := lv_sub hl [0, 1, 2, 3] rfl
          exact ih_25 (j + 1) (upd K j ((K j) + (dv * ((bx_sum (F j) 290 + bx_sum (G j) 290 + nI 10 - nI 1) / (nI 10))))) (y + ((upd K j ((K j) + (dv * ((bx_sum (F j) 290 + bx_sum (G j) 290 + nI 10 - nI 1) / (nI 10))))) j)) (by omega) (by subst hK; exact qf_1) (by subst hK; rw [hy9]; simp only [upd, if_true]; rfl) (by omega) _ _ _ hW hl
    have hl : lv_has ls 4 [(3, .int (nI 0)), (2, .int (nI 0)), (0, .ref o0), (1, .int dv)] := lv_sub hl [0, 1, 2, 3] rfl
    exact loop_25 _ 0 (qF pn 1) (nI 0) (by omega) rfl rfl (Nat.lt_succ_self _) _ _ _ hW hl
  · refine lv_aload_n hx hb dX5_pass_15 rfl (lv_at hl 0 rfl) ?_
    refine lv_iconst (v := nI 1) hx hb dX5_pass_16 (by decide) ?_
    refine zc_i (va_runV (As := [.int (nI 1)]) (rest := []) hC (c_X5_no l Z o0 o1 o2 o3 o4 o5 o6 o7 o8 np (nI 0) dy me co ca br ml le 1  _) (cwV 1 hts gX5_pass_X5_no rfl rfl rfl (by decide +kernel) ⟨Nat.le_of_ble_eq_true rfl, Nat.le_of_ble_eq_true rfl⟩) (zpreV (ci := 5) (q0 := 0) hX hW rfl rfl [0] rfl (by decide)) rfl rfl hl.1 rfl (lv_room (Nat.le_of_ble_eq_true rfl)) dX5_pass_17 ⟨Nat.le_of_ble_eq_true rfl, Nat.le_of_ble_eq_true rfl⟩) hX hW [0] rfl (by decide) (fun _ => rfl) (fun r_17 u_17 H locs h_17 hW => ?_)
    have hW : zW Z s A [(o0, .inr (5, [.int (nI 1), .int dy, .int me, .int co, .int (nI np), .int ca, .int br, .int ml, .ref o1, .ref o2, .ref o3, .ref o4, .ref o5, .ref o6, .int le, .ref o7, .ref o8])), (o1, zI Z 3770 (stF S F G)), (o2, zI Z 6 (qF pn 0)), (o3, zI Z 6 (qF pn 1)), (o4, zI Z 6 (qF pn 2)), (o5, zI Z 6 (qF pn 3)), (o6, zI Z 6 E), (o7, zI Z 29 Tk), (o8, zI Z 29 Lf)] _ _ := hW
    subst h_17
    exact z_iret hx hb hr hlk hW (nI 1, dy, qF pn 0, qF pn 1, qF pn 2, qF pn 3) (by unfold po_X5_pass; exact Or.inr ⟨1, by omega, cdx_1 (bI_e c_12), rfl, rfl, rfl, rfl, rfl, rfl⟩) (rfl) (by omega) (by omega) dX5_pass_20
