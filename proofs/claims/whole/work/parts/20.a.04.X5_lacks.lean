theorem mw_X5_lacks_0 : Cond.fieldLink RX5 38 "TypeFoundryModel" "thrown" "I" ∈ wsX5_lacks := by decide +kernel
theorem mw_X5_lacks_1 : ∀ w ∈ wsX50, w ∈ wsX5_lacks := by decide +kernel
theorem mw_X5_lacks_2 : Cond.fieldLink RX5 87 "TypeFoundryModel" "letters" "I" ∈ wsX5_lacks := by decide +kernel
theorem mw_X5_lacks_3 : Cond.fieldLink RX5 29 "TypeFoundryModel" "letter" "[I" ∈ wsX5_lacks := by decide +kernel
abbrev wp_X5_lacks (Z : zT) (o0 o1 o2 o3 o4 o5 o6 o7 o8 np : Nat) (th dy me co ca br ml le : Int32) (S E Tk Lf : Nat → Int32) (F G pn : Nat → Nat → Int32) (pv wv : Int32) : Int32 × Int32 × (Nat → Int32) → va_W := fun (u : Int32 × Int32 × (Nat → Int32)) => match u with | (th_1, le_1, E_1) => [(o0, .inr (5, [.int th_1, .int dy, .int me, .int co, .int (nI np), .int ca, .int br, .int ml, .ref o1, .ref o2, .ref o3, .ref o4, .ref o5, .ref o6, .int le_1, .ref o7, .ref o8])), (o1, zI Z 3770 (stF S F G)), (o2, zI Z 6 (qF pn 0)), (o3, zI Z 6 (qF pn 1)), (o4, zI Z 6 (qF pn 2)), (o5, zI Z 6 (qF pn 3)), (o6, zI Z 6 E_1), (o7, zI Z 29 Tk), (o8, zI Z 29 Lf)]
abbrev po_X5_lacks (Z : zT) (o0 o1 o2 o3 o4 o5 o6 o7 o8 np : Nat) (th dy me co ca br ml le : Int32) (S E Tk Lf : Nat → Int32) (F G pn : Nat → Nat → Int32) (pv wv : Int32) : Int32 → Int32 × Int32 × (Nat → Int32) → Prop := fun (r : Int32) (u : Int32 × Int32 × (Nat → Int32)) => match u with | (th_1, le_1, E_1) => (th_1 = nI 0 ∧ 0 = cdx (¬ isP pv np) (¬ isW wv) (False) ∧ r = (lkS (wla wv) (wkk wv) (F (sn pv)) 26).1) ∨ (∃ k9, 1 ≤ k9 ∧ k9 = cdx (¬ isP pv np) (¬ isW wv) (False) ∧ th_1 = nI k9)
abbrev rm_X5_lacks : Room := { frames := 2, cells := 0, slots := 0, locals := 43 }
set_option maxHeartbeats 4000000 in
set_option maxRecDepth 100000 in
theorem c_X5_lacks (l : Launch) (Z : zT) (o0 o1 o2 o3 o4 o5 o6 o7 o8 np : Nat) (th dy me co ca br ml le : Int32) (S E Tk Lf : Nat → Int32) (F G pn : Nat → Nat → Int32) (pv wv : Int32) (hG : GA S F G) (hnp : np ≤ 6) : zMet l yX5_lacks wsX5_lacks rm_X5_lacks [.ref o0, .int pv, .int wv] Z [(o0, .inr (5, [.int th, .int dy, .int me, .int co, .int (nI np), .int ca, .int br, .int ml, .ref o1, .ref o2, .ref o3, .ref o4, .ref o5, .ref o6, .int le, .ref o7, .ref o8])), (o1, zI Z 3770 (stF S F G)), (o2, zI Z 6 (qF pn 0)), (o3, zI Z 6 (qF pn 1)), (o4, zI Z 6 (qF pn 2)), (o5, zI Z 6 (qF pn 3)), (o6, zI Z 6 E), (o7, zI Z 29 Tk), (o8, zI Z 29 Lf)] (zQi Z (po_X5_lacks Z o0 o1 o2 o3 o4 o5 o6 o7 o8 np th dy me co ca br ml le S E Tk Lf F G pn pv wv) (wp_X5_lacks Z o0 o1 o2 o3 o4 o5 o6 o7 o8 np th dy me co ca br ml le S E Tk Lf F G pn pv wv)) 0 0 := by
  refine zstart (cc := cX5_lacks) (maxL := 8) (ret := (some .int)) (by decide) rfl (Nat.le_of_ble_eq_true rfl) ?_
  intro p e s m below meth c ls A hx hb hr hC hlk hnm hX hW hl
  have hml := hC.2.2.1
  have hown : s.vm.findClass RX5 = some m.cls := hC.2.2.2.1
  have hts := hC.2.2.2.2
  have hl : lv_has ls 8 [(0, .ref o0), (1, .int pv), (2, .int wv)] := hl
  refine lv_aload_n hx hb dX5_lacks_0 rfl (lv_at hl 0 rfl) ?_
  refine lv_iconst (v := nI 0) hx hb dX5_lacks_1 (by decide) ?_
  refine z_put (C := RX5) (T := TX5) (N := 17) (v := .int (nI 0)) (ty := .int) hx hb hts mw_X5_lacks_1 tyX5 tyX5_ok nmX5 hown hX hW 0 rfl rfl 0 (by decide) mw_X5_lacks_0 (fun _ h9 => h9) rfl (by decide +kernel) rfl rfl (Nat.le_of_ble_eq_true rfl) dX5_lacks_2 (fun H locs hW => ?_)
  have hW : zW Z s A [(o0, .inr (5, [.int (nI 0), .int dy, .int me, .int co, .int (nI np), .int ca, .int br, .int ml, .ref o1, .ref o2, .ref o3, .ref o4, .ref o5, .ref o6, .int le, .ref o7, .ref o8])), (o1, zI Z 3770 (stF S F G)), (o2, zI Z 6 (qF pn 0)), (o3, zI Z 6 (qF pn 1)), (o4, zI Z 6 (qF pn 2)), (o5, zI Z 6 (qF pn 3)), (o6, zI Z 6 E), (o7, zI Z 29 Tk), (o8, zI Z 29 Lf)] _ _ := hW
  refine lv_aload_n hx hb dX5_lacks_5 rfl (lv_at hl 0 rfl) ?_
  refine lv_iload_n hx hb dX5_lacks_6 rfl (lv_at hl 1 rfl) ?_
  refine zc_i (va_runV (As := [.int pv]) (rest := []) hC (c_X5_isPrinter l Z o0 o1 o2 o3 o4 o5 o6 o7 o8 np (nI 0) dy me co ca br ml le pv (by omega) _) (cwV 1 hts gX5_lacks_X5_isPrinter rfl rfl rfl (by decide +kernel) ⟨Nat.le_of_ble_eq_true rfl, Nat.le_of_ble_eq_true rfl⟩) (zpreV (ci := 5) (q0 := 0) hX hW rfl rfl [0] rfl (by decide)) rfl rfl hl.1 rfl (lv_room (Nat.le_of_ble_eq_true rfl)) dX5_lacks_7 ⟨Nat.le_of_ble_eq_true rfl, Nat.le_of_ble_eq_true rfl⟩) hX hW [0] rfl (by decide) (fun _ => rfl) (fun r_7 u_7 H locs h_7 hW => ?_)
  have hW : zW Z s A [(o0, .inr (5, [.int (nI 0), .int dy, .int me, .int co, .int (nI np), .int ca, .int br, .int ml, .ref o1, .ref o2, .ref o3, .ref o4, .ref o5, .ref o6, .int le, .ref o7, .ref o8])), (o1, zI Z 3770 (stF S F G)), (o2, zI Z 6 (qF pn 0)), (o3, zI Z 6 (qF pn 1)), (o4, zI Z 6 (qF pn 2)), (o5, zI Z 6 (qF pn 3)), (o6, zI Z 6 E), (o7, zI Z 29 Tk), (o8, zI Z 29 Lf)] _ _ := hW
  subst h_7
  refine lv_if_ne (tgt := 19) hx hb dX5_lacks_10 (by decide) (fun c_10 => ?_) (fun c_10 => ?_)
  · have hP : isP pv np := bI_n c_10
    have hP1 := hP.1
    have hl : lv_has ls 8 [(0, .ref o0), (1, .int (nI (sn pv))), (2, .int wv)] := by rw [← hP.2]; exact hl
    refine lv_aload_n hx hb dX5_lacks_19 rfl (lv_at hl 0 rfl) ?_
    refine lv_iload_n hx hb dX5_lacks_20 rfl (lv_at hl 2 rfl) ?_
    refine zc_i (va_runV (As := [.int wv]) (rest := []) hC (c_X5_isWord l Z o0 o1 o2 o3 o4 o5 o6 o7 o8 np (nI 0) dy me co ca br ml le E wv  _) (cwV 1 hts gX5_lacks_X5_isWord rfl rfl rfl (by decide +kernel) ⟨Nat.le_of_ble_eq_true rfl, Nat.le_of_ble_eq_true rfl⟩) (zpreV (ci := 5) (q0 := 0) hX hW rfl rfl [0, 6] rfl (by decide)) rfl rfl hl.1 rfl (lv_room (Nat.le_of_ble_eq_true rfl)) dX5_lacks_21 ⟨Nat.le_of_ble_eq_true rfl, Nat.le_of_ble_eq_true rfl⟩) hX hW [0, 6] rfl (by decide) (fun _ => rfl) (fun r_21 u_21 H locs h_21 hW => ?_)
    obtain ⟨E1_21, le1_21⟩ := u_21
    have hW : zW Z s A [(o0, .inr (5, [.int (nI 0), .int dy, .int me, .int co, .int (nI np), .int ca, .int br, .int ml, .ref o1, .ref o2, .ref o3, .ref o4, .ref o5, .ref o6, .int le1_21, .ref o7, .ref o8])), (o1, zI Z 3770 (stF S F G)), (o2, zI Z 6 (qF pn 0)), (o3, zI Z 6 (qF pn 1)), (o4, zI Z 6 (qF pn 2)), (o5, zI Z 6 (qF pn 3)), (o6, zI Z 6 E1_21), (o7, zI Z 29 Tk), (o8, zI Z 29 Lf)] _ _ := hW
    rcases h_21 with ⟨rfl, hW9, hle9, hM9⟩ | ⟨rfl, hW9⟩
    · subst hle9
      have hW : zW Z s A [(o0, .inr (5, [.int (nI 0), .int dy, .int me, .int co, .int (nI np), .int ca, .int br, .int ml, .ref o1, .ref o2, .ref o3, .ref o4, .ref o5, .ref o6, .int (nI (wkk wv)), .ref o7, .ref o8])), (o1, zI Z 3770 (stF S F G)), (o2, zI Z 6 (qF pn 0)), (o3, zI Z 6 (qF pn 1)), (o4, zI Z 6 (qF pn 2)), (o5, zI Z 6 (qF pn 3)), (o6, zI Z 6 E1_21), (o7, zI Z 29 Tk), (o8, zI Z 29 Lf)] _ _ := hW
      refine zn_if_ne (tgt := 33) (a := 1) hx hb (by omega) dX5_lacks_24 (by decide) (fun c_24 => ?_) (fun c_24 => (absurd c_24 (by decide) : False).elim)
      have hP6 : sn pv < 6 := by omega
      have hF9 := hG.2.1 (sn pv)
      have hb9 : tt (F (sn pv)) 290 + tt (G (sn pv)) 290 < 2 ^ 31 := (by have := hG.2.2.2; have := tP_le (F := F) hP6; have := tP_le (F := G) hP6; unfold tS at *; omega)
      obtain ⟨hk1, hk6, hka⟩ := isW_la hW9
      refine lv_iconst (v := nI 0) hx hb dX5_lacks_33 (by decide) ?_
      refine lv_istore_n (lv' := [(3, .int (nI 0)), (0, .ref o0), (1, .int (nI (sn pv))), (2, .int wv)]) hx hb dX5_lacks_34 rfl hl (by decide) rfl (fun ls hl => ?_)
      refine lv_iconst (v := -1) hx hb dX5_lacks_35 (by decide) ?_
      refine lv_istore (lv' := [(4, .int (-1)), (3, .int (nI 0)), (0, .ref o0), (1, .int (nI (sn pv))), (2, .int wv)]) hx hb dX5_lacks_36 hl (by decide) rfl (fun ls hl => ?_)
      refine lv_iconst (v := nI 0) hx hb dX5_lacks_38 (by decide) ?_
      refine lv_istore (lv' := [(5, .int (nI 0)), (4, .int (-1)), (3, .int (nI 0)), (0, .ref o0), (1, .int (nI (sn pv))), (2, .int wv)]) hx hb dX5_lacks_39 hl (by decide) rfl (fun ls hl => ?_)
      have loop_41 : ∀ (n : Nat) (j : Nat) (y : Int32) (z : Int32), (j ≤ 26) → (y = (lkS (wla wv) (wkk wv) (F (sn pv)) j).1) → (z = (lkS (wla wv) (wkk wv) (F (sn pv)) j).2) → (26 - j < n) → ∀ (H : Heap) (locs : List Loc) (ls : Array Slot), zW Z s A [(o0, .inr (5, [.int (nI 0), .int dy, .int me, .int co, .int (nI np), .int ca, .int br, .int ml, .ref o1, .ref o2, .ref o3, .ref o4, .ref o5, .ref o6, .int (nI (wkk wv)), .ref o7, .ref o8])), (o1, zI Z 3770 (stF S F G)), (o2, zI Z 6 (qF pn 0)), (o3, zI Z 6 (qF pn 1)), (o4, zI Z 6 (qF pn 2)), (o5, zI Z 6 (qF pn 3)), (o6, zI Z 6 E1_21), (o7, zI Z 29 Tk), (o8, zI Z 29 Lf)] H locs → lv_has ls 8 [(5, .int (nI j)), (4, .int y), (3, .int z), (0, .ref o0), (1, .int (nI (sn pv))), (2, .int wv)] → W p l e rm_X5_lacks s m ([.ref o0, .int pv, .int wv] : List Value).toArray below meth c H locs 0 0 (MQ below (zQi Z (po_X5_lacks Z o0 o1 o2 o3 o4 o5 o6 o7 o8 np th dy me co ca br ml le S E Tk Lf F G pn pv wv) (wp_X5_lacks Z o0 o1 o2 o3 o4 o5 o6 o7 o8 np th dy me co ca br ml le S E Tk Lf F G pn pv wv) A) ([.ref o0, .int pv, .int wv] : List Value).toArray s 0 0 A) (F0 m 41 ls []) := by
        intro n
        induction n with
        | zero =>
          intro j y z hj hy9 hz9 hm
          exact absurd hm (Nat.not_lt_zero _)
        | succ n ih =>
          intro j y z hj hy9 hz9 hm H locs ls hW hl
          have ih_41 := ih
          refine lv_iload hx hb dX5_lacks_41 (lv_at hl 0 rfl) ?_
          refine lv_bipush (v := nI 26) hx hb dX5_lacks_43 (by decide) ?_
          refine zn_icmp_ge (tgt := 123) (a := j) (b := 26) hx hb (by omega) (by omega) dX5_lacks_45 (by decide) (fun c_45 => ?_) (fun c_45 => ?_)
          · refine lv_iload hx hb dX5_lacks_123 (lv_at hl 1 rfl) ?_
            exact z_iret hx hb hr hlk hW ((nI 0), nI (wkk wv), E1_21) (by unfold po_X5_lacks; exact Or.inl ⟨rfl, cdx_0 (fun h6 => h6 hP) (fun h6 => h6 hW9) (fun h6 => h6), (by rw [hy9, show j = 26 by omega])⟩) (rfl) (by omega) (by omega) dX5_lacks_125
          · refine lv_aload_n hx hb dX5_lacks_48 rfl (lv_at hl 3 rfl) ?_
            refine lv_iload_n hx hb dX5_lacks_49 rfl (lv_at hl 4 rfl) ?_
            refine zc_i (va_runS (As := [.int (nI (sn pv))]) (rest := [.ref o0]) hC (c_X5_caseOf l Z (sn pv)  _) (va_cwS 1 hts gX5_lacks_X5_caseOf rfl rfl rfl (by decide +kernel) ⟨Nat.le_of_ble_eq_true rfl, Nat.le_of_ble_eq_true rfl⟩) (zpreS hX hW [] rfl (by decide)) rfl rfl hl.1 rfl (lv_room (Nat.le_of_ble_eq_true rfl)) dX5_lacks_50 ⟨Nat.le_of_ble_eq_true rfl, Nat.le_of_ble_eq_true rfl⟩) hX hW [] rfl (by decide) (fun _ => rfl) (fun r_50 u_50 H locs h_50 hW => ?_)
            have hW : zW Z s A [(o0, .inr (5, [.int (nI 0), .int dy, .int me, .int co, .int (nI np), .int ca, .int br, .int ml, .ref o1, .ref o2, .ref o3, .ref o4, .ref o5, .ref o6, .int (nI (wkk wv)), .ref o7, .ref o8])), (o1, zI Z 3770 (stF S F G)), (o2, zI Z 6 (qF pn 0)), (o3, zI Z 6 (qF pn 1)), (o4, zI Z 6 (qF pn 2)), (o5, zI Z 6 (qF pn 3)), (o6, zI Z 6 E1_21), (o7, zI Z 29 Tk), (o8, zI Z 29 Lf)] _ _ := hW
            subst h_50
            refine lv_iload hx hb dX5_lacks_53 (lv_at hl 0 rfl) ?_
            refine zc_i (va_runV (As := [.int (nI (290 * (1 + (sn pv)))), .int (nI j)]) (rest := []) hC (c_X5_many l Z o0 o1 o2 o3 o4 o5 o6 o7 o8 np (nI 0) dy me co ca br ml (nI (wkk wv)) (stF S F G) (290 * (1 + (sn pv))) j (by omega) (by omega) _) (cwV 2 hts gX5_lacks_X5_many rfl rfl rfl (by decide +kernel) ⟨Nat.le_of_ble_eq_true rfl, Nat.le_of_ble_eq_true rfl⟩) (zpreV (ci := 5) (q0 := 0) hX hW rfl rfl [0, 1] rfl (by decide)) rfl rfl hl.1 rfl (lv_room (Nat.le_of_ble_eq_true rfl)) dX5_lacks_55 ⟨Nat.le_of_ble_eq_true rfl, Nat.le_of_ble_eq_true rfl⟩) hX hW [0, 1] rfl (by decide) (fun _ => rfl) (fun r_55 u_55 H locs h_55 hW => ?_)
            have hW : zW Z s A [(o0, .inr (5, [.int (nI 0), .int dy, .int me, .int co, .int (nI np), .int ca, .int br, .int ml, .ref o1, .ref o2, .ref o3, .ref o4, .ref o5, .ref o6, .int (nI (wkk wv)), .ref o7, .ref o8])), (o1, zI Z 3770 (stF S F G)), (o2, zI Z 6 (qF pn 0)), (o3, zI Z 6 (qF pn 1)), (o4, zI Z 6 (qF pn 2)), (o5, zI Z 6 (qF pn 3)), (o6, zI Z 6 E1_21), (o7, zI Z 29 Tk), (o8, zI Z 29 Lf)] _ _ := hW
            subst h_55
            refine zw_topi (y := (bx_sum (sg (F (sn pv)) j) 10)) (by rw [sh_F hP6 hF9]) ?_
            refine lv_ineg hx hb dX5_lacks_58 ?_
            refine lv_istore (lv' := [(6, .int (-(bx_sum (sg (F (sn pv)) j) 10))), (5, .int (nI j)), (4, .int y), (3, .int z), (0, .ref o0), (1, .int (nI (sn pv))), (2, .int wv)]) hx hb dX5_lacks_59 hl (by decide) rfl (fun ls hl => ?_)
            refine lv_iconst (v := nI 0) hx hb dX5_lacks_61 (by decide) ?_
            refine lv_istore (lv' := [(7, .int (nI 0)), (6, .int (-(bx_sum (sg (F (sn pv)) j) 10))), (5, .int (nI j)), (4, .int y), (3, .int z), (0, .ref o0), (1, .int (nI (sn pv))), (2, .int wv)]) hx hb dX5_lacks_62 hl (by decide) rfl (fun ls hl => ?_)
            have loop_64 : ∀ (n : Nat) (i : Nat) (b : Int32), (i ≤ wkk wv) → (b = nI (ho (wla wv) j i) - bx_sum (sg (F (sn pv)) j) 10) → (wkk wv - i < n) → ∀ (H : Heap) (locs : List Loc) (ls : Array Slot), zW Z s A [(o0, .inr (5, [.int (nI 0), .int dy, .int me, .int co, .int (nI np), .int ca, .int br, .int ml, .ref o1, .ref o2, .ref o3, .ref o4, .ref o5, .ref o6, .int (nI (wkk wv)), .ref o7, .ref o8])), (o1, zI Z 3770 (stF S F G)), (o2, zI Z 6 (qF pn 0)), (o3, zI Z 6 (qF pn 1)), (o4, zI Z 6 (qF pn 2)), (o5, zI Z 6 (qF pn 3)), (o6, zI Z 6 E1_21), (o7, zI Z 29 Tk), (o8, zI Z 29 Lf)] H locs → lv_has ls 8 [(7, .int (nI i)), (6, .int b), (5, .int (nI j)), (4, .int y), (3, .int z), (0, .ref o0), (1, .int (nI (sn pv))), (2, .int wv)] → W p l e rm_X5_lacks s m ([.ref o0, .int pv, .int wv] : List Value).toArray below meth c H locs 0 0 (MQ below (zQi Z (po_X5_lacks Z o0 o1 o2 o3 o4 o5 o6 o7 o8 np th dy me co ca br ml le S E Tk Lf F G pn pv wv) (wp_X5_lacks Z o0 o1 o2 o3 o4 o5 o6 o7 o8 np th dy me co ca br ml le S E Tk Lf F G pn pv wv) A) ([.ref o0, .int pv, .int wv] : List Value).toArray s 0 0 A) (F0 m 64 ls []) := by
              intro n
              induction n with
              | zero =>
                intro i b hi hb9 hm
                exact absurd hm (Nat.not_lt_zero _)
              | succ n ih =>
                intro i b hi hb9 hm H locs ls hW hl
                have ih_64 := ih
                refine lv_iload hx hb dX5_lacks_64 (lv_at hl 0 rfl) ?_
                refine lv_aload_n hx hb dX5_lacks_66 rfl (lv_at hl 5 rfl) ?_
                refine z_get (C := RX5) (T := TX5) (N := 17) hx hb hts mw_X5_lacks_1 hown hX hW 0 rfl rfl 14 (by decide) mw_X5_lacks_2 (fun _ h9 => h9) rfl dX5_lacks_67 ?_
                refine zn_icmp_ge (tgt := 101) (a := i) (b := (wkk wv)) hx hb (by omega) (by omega) dX5_lacks_70 (by decide) (fun c_70 => ?_) (fun c_70 => ?_)
                · have hb8 : b = nI (ho (wla wv) j (wkk wv)) - bx_sum (sg (F (sn pv)) j) 10 := by rw [hb9, show i = wkk wv by omega]
                  refine lv_iload hx hb dX5_lacks_101 (lv_at hl 1 rfl) ?_
                  refine lv_iload_n hx hb dX5_lacks_103 rfl (lv_at hl 4 rfl) ?_
                  refine lv_icmp_gt (tgt := 110) hx hb dX5_lacks_104 (by decide) (fun c_104 => ?_) (fun c_104 => ?_)
                  · refine lv_iload hx hb dX5_lacks_110 (lv_at hl 1 rfl) ?_
                    refine lv_istore_n (lv' := [(3, .int b), (7, .int (nI i)), (6, .int b), (5, .int (nI j)), (4, .int y), (0, .ref o0), (1, .int (nI (sn pv))), (2, .int wv)]) hx hb dX5_lacks_112 rfl hl (by decide) rfl (fun ls hl => ?_)
                    refine lv_iload hx hb dX5_lacks_113 (lv_at hl 3 rfl) ?_
                    refine lv_istore (lv' := [(4, .int (nI j)), (3, .int b), (7, .int (nI i)), (6, .int b), (5, .int (nI j)), (0, .ref o0), (1, .int (nI (sn pv))), (2, .int wv)]) hx hb dX5_lacks_115 hl (by decide) rfl (fun ls hl => ?_)
                    refine lv_iinc (v := nI (j + 1)) (lv' := [(5, .int (nI (j + 1))), (4, .int (nI j)), (3, .int b), (7, .int (nI i)), (6, .int b), (0, .ref o0), (1, .int (nI (sn pv))), (2, .int wv)]) hx hb dX5_lacks_117 hl (k := 4) rfl (zinc1 _) (by decide) rfl (fun ls hl => ?_)
                    refine lv_goto (tgt := 41) hx hb dX5_lacks_120 (by decide) ?_
                    have hl : lv_has ls 8 [(5, .int (nI (j + 1))), (4, .int (nI j)), (3, .int b), (0, .ref o0), (1, .int (nI (sn pv))), (2, .int wv)] := lv_sub hl [0, 1, 2, 5, 6, 7] rfl
                    exact ih_41 (j + 1) (nI j) b (by omega) (by subst hy9; subst hz9; subst hb8; first | rw [lkS_t (Int32.not_lt.mp c_104)] | rw [lkS_f (Int32.not_le.mpr c_104)] | rw [lkS_t c_104] | rw [lkS_f c_104]) (by subst hy9; subst hz9; subst hb8; first | rw [lkS_t (Int32.not_lt.mp c_104)] | rw [lkS_f (Int32.not_le.mpr c_104)] | rw [lkS_t c_104] | rw [lkS_f c_104]) (by omega) _ _ _ hW hl
                  · refine lv_goto (tgt := 117) hx hb dX5_lacks_107 (by decide) ?_
                    refine lv_iinc (v := nI (j + 1)) (lv' := [(5, .int (nI (j + 1))), (7, .int (nI i)), (6, .int b), (4, .int y), (3, .int z), (0, .ref o0), (1, .int (nI (sn pv))), (2, .int wv)]) hx hb dX5_lacks_117 hl (k := 2) rfl (zinc1 _) (by decide) rfl (fun ls hl => ?_)
                    refine lv_goto (tgt := 41) hx hb dX5_lacks_120 (by decide) ?_
                    have hl : lv_has ls 8 [(5, .int (nI (j + 1))), (4, .int y), (3, .int z), (0, .ref o0), (1, .int (nI (sn pv))), (2, .int wv)] := lv_sub hl [0, 3, 4, 5, 6, 7] rfl
                    exact ih_41 (j + 1) y z (by omega) (by subst hy9; subst hz9; subst hb8; first | rw [lkS_t (Int32.not_lt.mp c_104)] | rw [lkS_f (Int32.not_le.mpr c_104)] | rw [lkS_t c_104] | rw [lkS_f c_104]) (by subst hy9; subst hz9; subst hb8; first | rw [lkS_t (Int32.not_lt.mp c_104)] | rw [lkS_f (Int32.not_le.mpr c_104)] | rw [lkS_t c_104] | rw [lkS_f c_104]) (by omega) _ _ _ hW hl
                · have hik : i < wkk wv := by omega
                  have hti := hka i hik
                  refine lv_iload hx hb dX5_lacks_73 (lv_at hl 1 rfl) ?_
                  refine lv_aload_n hx hb dX5_lacks_75 rfl (lv_at hl 5 rfl) ?_
                  refine z_get (C := RX5) (T := TX5) (N := 17) hx hb hts mw_X5_lacks_1 hown hX hW 0 rfl rfl 13 (by decide) mw_X5_lacks_3 (fun _ h9 => h9) rfl dX5_lacks_76 ?_
                  refine lv_iload hx hb dX5_lacks_79 (lv_at hl 0 rfl) ?_
                  refine z_iald hx hb hX hW 6 rfl (k := i) (by omega) (by omega) dX5_lacks_81 ?_
                  refine zw_topi (y := (nI (wla wv i))) (hM9.2.2.2 i hik) ?_
                  refine lv_iload hx hb dX5_lacks_82 (lv_at hl 2 rfl) ?_
                  refine zn_icmp_ne (tgt := 91) (a := (wla wv i)) (b := j) hx hb (by omega) (by omega) dX5_lacks_84 (by decide) (fun c_84 => ?_) (fun c_84 => ?_)
                  · refine lv_iconst (v := nI 0) hx hb dX5_lacks_91 (by decide) ?_
                    refine lv_iadd hx hb dX5_lacks_92 ?_
                    refine lv_istore (lv' := [(6, .int (b + (nI 0))), (7, .int (nI i)), (5, .int (nI j)), (4, .int y), (3, .int z), (0, .ref o0), (1, .int (nI (sn pv))), (2, .int wv)]) hx hb dX5_lacks_93 hl (by decide) rfl (fun ls hl => ?_)
                    refine lv_iinc (v := nI (i + 1)) (lv' := [(7, .int (nI (i + 1))), (6, .int (b + (nI 0))), (5, .int (nI j)), (4, .int y), (3, .int z), (0, .ref o0), (1, .int (nI (sn pv))), (2, .int wv)]) hx hb dX5_lacks_95 hl (k := 1) rfl (zinc1 _) (by decide) rfl (fun ls hl => ?_)
                    refine lv_goto (tgt := 64) hx hb dX5_lacks_98 (by decide) ?_
                    have hl : lv_has ls 8 [(7, .int (nI (i + 1))), (6, .int (b + (nI 0))), (5, .int (nI j)), (4, .int y), (3, .int z), (0, .ref o0), (1, .int (nI (sn pv))), (2, .int wv)] := lv_sub hl [0, 1, 2, 3, 4, 5, 6, 7] rfl
                    exact ih_64 (i + 1) (b + (nI 0)) (by omega) (by rw [hb9]; first | exact hob_t _ c_84 | exact hob_f _ c_84) (by omega) _ _ _ hW hl
                  · refine lv_iconst (v := nI 1) hx hb dX5_lacks_87 (by decide) ?_
                    refine lv_goto (tgt := 92) hx hb dX5_lacks_88 (by decide) ?_
                    refine lv_iadd hx hb dX5_lacks_92 ?_
                    refine lv_istore (lv' := [(6, .int (b + (nI 1))), (7, .int (nI i)), (5, .int (nI j)), (4, .int y), (3, .int z), (0, .ref o0), (1, .int (nI (sn pv))), (2, .int wv)]) hx hb dX5_lacks_93 hl (by decide) rfl (fun ls hl => ?_)
                    refine lv_iinc (v := nI (i + 1)) (lv' := [(7, .int (nI (i + 1))), (6, .int (b + (nI 1))), (5, .int (nI j)), (4, .int y), (3, .int z), (0, .ref o0), (1, .int (nI (sn pv))), (2, .int wv)]) hx hb dX5_lacks_95 hl (k := 1) rfl (zinc1 _) (by decide) rfl (fun ls hl => ?_)
                    refine lv_goto (tgt := 64) hx hb dX5_lacks_98 (by decide) ?_
                    have hl : lv_has ls 8 [(7, .int (nI (i + 1))), (6, .int (b + (nI 1))), (5, .int (nI j)), (4, .int y), (3, .int z), (0, .ref o0), (1, .int (nI (sn pv))), (2, .int wv)] := lv_sub hl [0, 1, 2, 3, 4, 5, 6, 7] rfl
                    exact ih_64 (i + 1) (b + (nI 1)) (by omega) (by rw [hb9]; first | exact hob_t _ c_84 | exact hob_f _ c_84) (by omega) _ _ _ hW hl
            have hl : lv_has ls 8 [(7, .int (nI 0)), (6, .int (-(bx_sum (sg (F (sn pv)) j) 10))), (5, .int (nI j)), (4, .int y), (3, .int z), (0, .ref o0), (1, .int (nI (sn pv))), (2, .int wv)] := lv_sub hl [0, 1, 2, 3, 4, 5, 6, 7] rfl
            exact loop_64 _ 0 (-(bx_sum (sg (F (sn pv)) j) 10)) (by omega) (by show -(bx_sum (sg (F (sn pv)) j) 10) = nI 0 - bx_sum (sg (F (sn pv)) j) 10; rw [nI_0, Int32.zero_sub]) (Nat.lt_succ_self _) _ _ _ hW hl
      have hl : lv_has ls 8 [(5, .int (nI 0)), (4, .int (-1)), (3, .int (nI 0)), (0, .ref o0), (1, .int (nI (sn pv))), (2, .int wv)] := lv_sub hl [0, 1, 2, 3, 4, 5] rfl
      exact loop_41 _ 0 (-1) (nI 0) (by omega) rfl rfl (Nat.lt_succ_self _) _ _ _ hW hl
    · refine zn_if_ne (tgt := 33) (a := 0) hx hb (by omega) dX5_lacks_24 (by decide) (fun c_24 => (absurd c_24 (by decide) : False).elim) (fun c_24 => ?_)
      refine lv_aload_n hx hb dX5_lacks_27 rfl (lv_at hl 0 rfl) ?_
      refine lv_iconst (v := nI 2) hx hb dX5_lacks_28 (by decide) ?_
      refine zc_i (va_runV (As := [.int (nI 2)]) (rest := []) hC (c_X5_no l Z o0 o1 o2 o3 o4 o5 o6 o7 o8 np (nI 0) dy me co ca br ml le1_21 2  _) (cwV 1 hts gX5_lacks_X5_no rfl rfl rfl (by decide +kernel) ⟨Nat.le_of_ble_eq_true rfl, Nat.le_of_ble_eq_true rfl⟩) (zpreV (ci := 5) (q0 := 0) hX hW rfl rfl [0] rfl (by decide)) rfl rfl hl.1 rfl (lv_room (Nat.le_of_ble_eq_true rfl)) dX5_lacks_29 ⟨Nat.le_of_ble_eq_true rfl, Nat.le_of_ble_eq_true rfl⟩) hX hW [0] rfl (by decide) (fun _ => rfl) (fun r_29 u_29 H locs h_29 hW => ?_)
      have hW : zW Z s A [(o0, .inr (5, [.int (nI 2), .int dy, .int me, .int co, .int (nI np), .int ca, .int br, .int ml, .ref o1, .ref o2, .ref o3, .ref o4, .ref o5, .ref o6, .int le1_21, .ref o7, .ref o8])), (o1, zI Z 3770 (stF S F G)), (o2, zI Z 6 (qF pn 0)), (o3, zI Z 6 (qF pn 1)), (o4, zI Z 6 (qF pn 2)), (o5, zI Z 6 (qF pn 3)), (o6, zI Z 6 E1_21), (o7, zI Z 29 Tk), (o8, zI Z 29 Lf)] _ _ := hW
      subst h_29
      exact z_iret hx hb hr hlk hW (nI 2, le1_21, E1_21) (by unfold po_X5_lacks; exact Or.inr ⟨2, by omega, cdx_2 (fun h6 => h6 hP) hW9, rfl⟩) (rfl) (by omega) (by omega) dX5_lacks_32
  · refine lv_aload_n hx hb dX5_lacks_13 rfl (lv_at hl 0 rfl) ?_
    refine lv_iconst (v := nI 1) hx hb dX5_lacks_14 (by decide) ?_
    refine zc_i (va_runV (As := [.int (nI 1)]) (rest := []) hC (c_X5_no l Z o0 o1 o2 o3 o4 o5 o6 o7 o8 np (nI 0) dy me co ca br ml le 1  _) (cwV 1 hts gX5_lacks_X5_no rfl rfl rfl (by decide +kernel) ⟨Nat.le_of_ble_eq_true rfl, Nat.le_of_ble_eq_true rfl⟩) (zpreV (ci := 5) (q0 := 0) hX hW rfl rfl [0] rfl (by decide)) rfl rfl hl.1 rfl (lv_room (Nat.le_of_ble_eq_true rfl)) dX5_lacks_15 ⟨Nat.le_of_ble_eq_true rfl, Nat.le_of_ble_eq_true rfl⟩) hX hW [0] rfl (by decide) (fun _ => rfl) (fun r_15 u_15 H locs h_15 hW => ?_)
    have hW : zW Z s A [(o0, .inr (5, [.int (nI 1), .int dy, .int me, .int co, .int (nI np), .int ca, .int br, .int ml, .ref o1, .ref o2, .ref o3, .ref o4, .ref o5, .ref o6, .int le, .ref o7, .ref o8])), (o1, zI Z 3770 (stF S F G)), (o2, zI Z 6 (qF pn 0)), (o3, zI Z 6 (qF pn 1)), (o4, zI Z 6 (qF pn 2)), (o5, zI Z 6 (qF pn 3)), (o6, zI Z 6 E), (o7, zI Z 29 Tk), (o8, zI Z 29 Lf)] _ _ := hW
    subst h_15
    exact z_iret hx hb hr hlk hW (nI 1, le, E) (by unfold po_X5_lacks; exact Or.inr ⟨1, by omega, cdx_1 (bI_e c_10), rfl⟩) (rfl) (by omega) (by omega) dX5_lacks_18
