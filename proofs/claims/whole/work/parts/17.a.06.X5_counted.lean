theorem mw_X5_counted_0 : Cond.arrayClass .int ∈ wsX5_counted := by decide +kernel
theorem mw_X5_counted_1 : Cond.fieldLink RX5 119 "TypeFoundryModel" "day" "I" ∈ wsX5_counted := by decide +kernel
theorem mw_X5_counted_2 : ∀ w ∈ wsX50, w ∈ wsX5_counted := by decide +kernel
theorem mw_X5_counted_3 : Cond.fieldLink RX5 7 "TypeFoundryModel" "metal" "I" ∈ wsX5_counted := by decide +kernel
theorem mw_X5_counted_4 : Cond.fieldLink RX5 84 "TypeFoundryModel" "coins" "I" ∈ wsX5_counted := by decide +kernel
theorem mw_X5_counted_5 : Cond.fieldLink RX5 41 "TypeFoundryModel" "printers" "I" ∈ wsX5_counted := by decide +kernel
theorem mw_X5_counted_6 : Cond.fieldLink RX5 68 "TypeFoundryModel" "made" "I" ∈ wsX5_counted := by decide +kernel
theorem mw_X5_counted_7 : Cond.fieldLink RX5 116 "TypeFoundryModel" "broken" "I" ∈ wsX5_counted := by decide +kernel
theorem mw_X5_counted_8 : Cond.fieldLink RX5 71 "TypeFoundryModel" "melted" "I" ∈ wsX5_counted := by decide +kernel
abbrev wp_X5_counted (Z : zT) (o0 o1 o2 o3 o4 o5 o6 o7 o8 np : Nat) (th dy me co ca br ml le : Int32) (f : Nat → Int32) (w : Nat) : Unit → va_W := fun (u : Unit) => [(o0, .inr (5, [.int th, .int dy, .int me, .int co, .int (nI np), .int ca, .int br, .int ml, .ref o1, .ref o2, .ref o3, .ref o4, .ref o5, .ref o6, .int le, .ref o7, .ref o8])), (o1, zI Z 3770 f)]
abbrev po_X5_counted (Z : zT) (o0 o1 o2 o3 o4 o5 o6 o7 o8 np : Nat) (th dy me co ca br ml le : Int32) (f : Nat → Int32) (w : Nat) : Int32 → Unit → Prop := fun (r : Int32) (u : Unit) => r = cnt dy me co (sh f 0) np ca br ml w
abbrev rm_X5_counted : Room := { frames := 1, cells := 1, slots := 8, locals := 23 }
set_option maxHeartbeats 4000000 in
set_option maxRecDepth 100000 in
theorem c_X5_counted (l : Launch) (Z : zT) (o0 o1 o2 o3 o4 o5 o6 o7 o8 np : Nat) (th dy me co ca br ml le : Int32) (f : Nat → Int32) (w : Nat) (hw : w < 8) : zMet l yX5_counted wsX5_counted rm_X5_counted [.ref o0, .int (nI w)] Z [(o0, .inr (5, [.int th, .int dy, .int me, .int co, .int (nI np), .int ca, .int br, .int ml, .ref o1, .ref o2, .ref o3, .ref o4, .ref o5, .ref o6, .int le, .ref o7, .ref o8])), (o1, zI Z 3770 f)] (zQi Z (po_X5_counted Z o0 o1 o2 o3 o4 o5 o6 o7 o8 np th dy me co ca br ml le f w) (wp_X5_counted Z o0 o1 o2 o3 o4 o5 o6 o7 o8 np th dy me co ca br ml le f w)) 1 8 := by
  refine zstart (cc := cX5_counted) (maxL := 3) (ret := (some .int)) (by decide) rfl (Nat.le_of_ble_eq_true rfl) ?_
  intro p e s m below meth c ls A hx hb hr hC hlk hnm hX hW hl
  have hml := hC.2.2.1
  have hown : s.vm.findClass RX5 = some m.cls := hC.2.2.2.1
  have hts := hC.2.2.2.2
  have hl : lv_has ls 3 [(0, .ref o0), (1, .int (nI w))] := hl
  refine lv_bipush (v := nI 8) hx hb dX5_counted_0 (by decide) ?_
  refine z_newa hx hb hts mw_X5_counted_0 hX hW (n := 8) (by omega) (Nat.le_of_ble_eq_true rfl) (Nat.le_of_ble_eq_true rfl) dX5_counted_2 (fun qa_1 H hW => ?_)
  have hW : zW Z s A [(o0, .inr (5, [.int th, .int dy, .int me, .int co, .int (nI np), .int ca, .int br, .int ml, .ref o1, .ref o2, .ref o3, .ref o4, .ref o5, .ref o6, .int le, .ref o7, .ref o8])), (o1, zI Z 3770 f), (qa_1, zI Z 8 (fun _ => 0))] _ _ := hW
  refine lv_dup hx hb dX5_counted_4 rfl ?_
  refine lv_iconst (v := nI 0) hx hb dX5_counted_5 (by decide) ?_
  refine lv_aload_n hx hb dX5_counted_6 rfl (lv_at hl 0 rfl) ?_
  refine z_get (C := RX5) (T := TX5) (N := 17) hx hb hts mw_X5_counted_2 hown hX hW 0 rfl rfl 1 (by decide) mw_X5_counted_1 (fun _ h9 => h9) rfl dX5_counted_7 ?_
  refine z_iast hx hb hX hW 2 rfl (k := 0) (by omega) (by omega) dX5_counted_10 (fun H locs hW => ?_)
  have hW : zW Z s A [(o0, .inr (5, [.int th, .int dy, .int me, .int co, .int (nI np), .int ca, .int br, .int ml, .ref o1, .ref o2, .ref o3, .ref o4, .ref o5, .ref o6, .int le, .ref o7, .ref o8])), (o1, zI Z 3770 f), (qa_1, zI Z 8 (upd (fun _ => 0) 0 dy))] _ _ := hW
  refine lv_dup hx hb dX5_counted_11 rfl ?_
  refine lv_iconst (v := nI 1) hx hb dX5_counted_12 (by decide) ?_
  refine lv_aload_n hx hb dX5_counted_13 rfl (lv_at hl 0 rfl) ?_
  refine z_get (C := RX5) (T := TX5) (N := 17) hx hb hts mw_X5_counted_2 hown hX hW 0 rfl rfl 2 (by decide) mw_X5_counted_3 (fun _ h9 => h9) rfl dX5_counted_14 ?_
  refine z_iast hx hb hX hW 2 rfl (k := 1) (by omega) (by omega) dX5_counted_17 (fun H locs hW => ?_)
  have hW : zW Z s A [(o0, .inr (5, [.int th, .int dy, .int me, .int co, .int (nI np), .int ca, .int br, .int ml, .ref o1, .ref o2, .ref o3, .ref o4, .ref o5, .ref o6, .int le, .ref o7, .ref o8])), (o1, zI Z 3770 f), (qa_1, zI Z 8 (upd (upd (fun _ => 0) 0 dy) 1 me))] _ _ := hW
  refine lv_dup hx hb dX5_counted_18 rfl ?_
  refine lv_iconst (v := nI 2) hx hb dX5_counted_19 (by decide) ?_
  refine lv_aload_n hx hb dX5_counted_20 rfl (lv_at hl 0 rfl) ?_
  refine z_get (C := RX5) (T := TX5) (N := 17) hx hb hts mw_X5_counted_2 hown hX hW 0 rfl rfl 3 (by decide) mw_X5_counted_4 (fun _ h9 => h9) rfl dX5_counted_21 ?_
  refine z_iast hx hb hX hW 2 rfl (k := 2) (by omega) (by omega) dX5_counted_24 (fun H locs hW => ?_)
  have hW : zW Z s A [(o0, .inr (5, [.int th, .int dy, .int me, .int co, .int (nI np), .int ca, .int br, .int ml, .ref o1, .ref o2, .ref o3, .ref o4, .ref o5, .ref o6, .int le, .ref o7, .ref o8])), (o1, zI Z 3770 f), (qa_1, zI Z 8 (upd (upd (upd (fun _ => 0) 0 dy) 1 me) 2 co))] _ _ := hW
  refine lv_dup hx hb dX5_counted_25 rfl ?_
  refine lv_iconst (v := nI 3) hx hb dX5_counted_26 (by decide) ?_
  refine lv_aload_n hx hb dX5_counted_27 rfl (lv_at hl 0 rfl) ?_
  refine lv_iconst (v := nI 0) hx hb dX5_counted_28 (by decide) ?_
  refine zc_i (va_runV (As := [.int (nI 0)]) (rest := [.int (nI 3), .ref qa_1, .ref qa_1]) hC (c_X5_all l Z o0 o1 o2 o3 o4 o5 o6 o7 o8 np th dy me co ca br ml le f 0 (by omega) _) (cwV 1 hts gX5_counted_X5_all rfl rfl rfl (by decide +kernel) ⟨Nat.le_of_ble_eq_true rfl, Nat.le_of_ble_eq_true rfl⟩) (zpreV (ci := 5) (q0 := 0) hX hW rfl rfl [0, 1] rfl (by decide)) rfl rfl hl.1 rfl (lv_room (Nat.le_of_ble_eq_true rfl)) dX5_counted_29 ⟨Nat.le_of_ble_eq_true rfl, Nat.le_of_ble_eq_true rfl⟩) hX hW [0, 1] rfl (by decide) (fun _ => rfl) (fun r_29 u_29 H locs h_29 hW => ?_)
  have hW : zW Z s A [(o0, .inr (5, [.int th, .int dy, .int me, .int co, .int (nI np), .int ca, .int br, .int ml, .ref o1, .ref o2, .ref o3, .ref o4, .ref o5, .ref o6, .int le, .ref o7, .ref o8])), (o1, zI Z 3770 f), (qa_1, zI Z 8 (upd (upd (upd (fun _ => 0) 0 dy) 1 me) 2 co))] _ _ := hW
  subst h_29
  refine z_iast hx hb hX hW 2 rfl (k := 3) (by omega) (by omega) dX5_counted_32 (fun H locs hW => ?_)
  have hW : zW Z s A [(o0, .inr (5, [.int th, .int dy, .int me, .int co, .int (nI np), .int ca, .int br, .int ml, .ref o1, .ref o2, .ref o3, .ref o4, .ref o5, .ref o6, .int le, .ref o7, .ref o8])), (o1, zI Z 3770 f), (qa_1, zI Z 8 (upd (upd (upd (upd (fun _ => 0) 0 dy) 1 me) 2 co) 3 (bx_sum (sh f 0) 290)))] _ _ := hW
  refine lv_dup hx hb dX5_counted_33 rfl ?_
  refine lv_iconst (v := nI 4) hx hb dX5_counted_34 (by decide) ?_
  refine lv_aload_n hx hb dX5_counted_35 rfl (lv_at hl 0 rfl) ?_
  refine z_get (C := RX5) (T := TX5) (N := 17) hx hb hts mw_X5_counted_2 hown hX hW 0 rfl rfl 4 (by decide) mw_X5_counted_5 (fun _ h9 => h9) rfl dX5_counted_36 ?_
  refine z_iast hx hb hX hW 2 rfl (k := 4) (by omega) (by omega) dX5_counted_39 (fun H locs hW => ?_)
  have hW : zW Z s A [(o0, .inr (5, [.int th, .int dy, .int me, .int co, .int (nI np), .int ca, .int br, .int ml, .ref o1, .ref o2, .ref o3, .ref o4, .ref o5, .ref o6, .int le, .ref o7, .ref o8])), (o1, zI Z 3770 f), (qa_1, zI Z 8 (upd (upd (upd (upd (upd (fun _ => 0) 0 dy) 1 me) 2 co) 3 (bx_sum (sh f 0) 290)) 4 (nI np)))] _ _ := hW
  refine lv_dup hx hb dX5_counted_40 rfl ?_
  refine lv_iconst (v := nI 5) hx hb dX5_counted_41 (by decide) ?_
  refine lv_aload_n hx hb dX5_counted_42 rfl (lv_at hl 0 rfl) ?_
  refine z_get (C := RX5) (T := TX5) (N := 17) hx hb hts mw_X5_counted_2 hown hX hW 0 rfl rfl 5 (by decide) mw_X5_counted_6 (fun _ h9 => h9) rfl dX5_counted_43 ?_
  refine z_iast hx hb hX hW 2 rfl (k := 5) (by omega) (by omega) dX5_counted_46 (fun H locs hW => ?_)
  have hW : zW Z s A [(o0, .inr (5, [.int th, .int dy, .int me, .int co, .int (nI np), .int ca, .int br, .int ml, .ref o1, .ref o2, .ref o3, .ref o4, .ref o5, .ref o6, .int le, .ref o7, .ref o8])), (o1, zI Z 3770 f), (qa_1, zI Z 8 (upd (upd (upd (upd (upd (upd (fun _ => 0) 0 dy) 1 me) 2 co) 3 (bx_sum (sh f 0) 290)) 4 (nI np)) 5 ca))] _ _ := hW
  refine lv_dup hx hb dX5_counted_47 rfl ?_
  refine lv_bipush (v := nI 6) hx hb dX5_counted_48 (by decide) ?_
  refine lv_aload_n hx hb dX5_counted_50 rfl (lv_at hl 0 rfl) ?_
  refine z_get (C := RX5) (T := TX5) (N := 17) hx hb hts mw_X5_counted_2 hown hX hW 0 rfl rfl 6 (by decide) mw_X5_counted_7 (fun _ h9 => h9) rfl dX5_counted_51 ?_
  refine z_iast hx hb hX hW 2 rfl (k := 6) (by omega) (by omega) dX5_counted_54 (fun H locs hW => ?_)
  have hW : zW Z s A [(o0, .inr (5, [.int th, .int dy, .int me, .int co, .int (nI np), .int ca, .int br, .int ml, .ref o1, .ref o2, .ref o3, .ref o4, .ref o5, .ref o6, .int le, .ref o7, .ref o8])), (o1, zI Z 3770 f), (qa_1, zI Z 8 (upd (upd (upd (upd (upd (upd (upd (fun _ => 0) 0 dy) 1 me) 2 co) 3 (bx_sum (sh f 0) 290)) 4 (nI np)) 5 ca) 6 br))] _ _ := hW
  refine lv_dup hx hb dX5_counted_55 rfl ?_
  refine lv_bipush (v := nI 7) hx hb dX5_counted_56 (by decide) ?_
  refine lv_aload_n hx hb dX5_counted_58 rfl (lv_at hl 0 rfl) ?_
  refine z_get (C := RX5) (T := TX5) (N := 17) hx hb hts mw_X5_counted_2 hown hX hW 0 rfl rfl 7 (by decide) mw_X5_counted_8 (fun _ h9 => h9) rfl dX5_counted_59 ?_
  refine z_iast hx hb hX hW 2 rfl (k := 7) (by omega) (by omega) dX5_counted_62 (fun H locs hW => ?_)
  have hW : zW Z s A [(o0, .inr (5, [.int th, .int dy, .int me, .int co, .int (nI np), .int ca, .int br, .int ml, .ref o1, .ref o2, .ref o3, .ref o4, .ref o5, .ref o6, .int le, .ref o7, .ref o8])), (o1, zI Z 3770 f), (qa_1, zI Z 8 (upd (upd (upd (upd (upd (upd (upd (upd (fun _ => 0) 0 dy) 1 me) 2 co) 3 (bx_sum (sh f 0) 290)) 4 (nI np)) 5 ca) 6 br) 7 ml))] _ _ := hW
  refine lv_astore_n (lv' := [(2, .ref qa_1), (0, .ref o0), (1, .int (nI w))]) hx hb dX5_counted_63 rfl hl (by decide) rfl (fun ls hl => ?_)
  rcases (show w = 0 ∨ w = 1 ∨ w = 2 ∨ w = 3 ∨ w = 4 ∨ w = 5 ∨ w = 6 ∨ w = 7 by omega) with rfl | rfl | rfl | rfl | rfl | rfl | rfl | rfl
  · refine lv_aload_n hx hb dX5_counted_64 rfl (lv_at hl 0 rfl) ?_
    refine lv_iload_n hx hb dX5_counted_65 rfl (lv_at hl 2 rfl) ?_
    refine z_iald hx hb hX hW 2 rfl (k := 0) (by omega) (by omega) dX5_counted_66 ?_
    have hW : zW Z s A [(o0, .inr (5, [.int th, .int dy, .int me, .int co, .int (nI np), .int ca, .int br, .int ml, .ref o1, .ref o2, .ref o3, .ref o4, .ref o5, .ref o6, .int le, .ref o7, .ref o8])), (o1, zI Z 3770 f)] _ _ := z_drop hW [0, 1] rfl (by decide)
    exact z_iret hx hb hr hlk hW () (rfl) (rfl) (by omega) (by omega) dX5_counted_67
  · refine lv_aload_n hx hb dX5_counted_64 rfl (lv_at hl 0 rfl) ?_
    refine lv_iload_n hx hb dX5_counted_65 rfl (lv_at hl 2 rfl) ?_
    refine z_iald hx hb hX hW 2 rfl (k := 1) (by omega) (by omega) dX5_counted_66 ?_
    have hW : zW Z s A [(o0, .inr (5, [.int th, .int dy, .int me, .int co, .int (nI np), .int ca, .int br, .int ml, .ref o1, .ref o2, .ref o3, .ref o4, .ref o5, .ref o6, .int le, .ref o7, .ref o8])), (o1, zI Z 3770 f)] _ _ := z_drop hW [0, 1] rfl (by decide)
    exact z_iret hx hb hr hlk hW () (rfl) (rfl) (by omega) (by omega) dX5_counted_67
  · refine lv_aload_n hx hb dX5_counted_64 rfl (lv_at hl 0 rfl) ?_
    refine lv_iload_n hx hb dX5_counted_65 rfl (lv_at hl 2 rfl) ?_
    refine z_iald hx hb hX hW 2 rfl (k := 2) (by omega) (by omega) dX5_counted_66 ?_
    have hW : zW Z s A [(o0, .inr (5, [.int th, .int dy, .int me, .int co, .int (nI np), .int ca, .int br, .int ml, .ref o1, .ref o2, .ref o3, .ref o4, .ref o5, .ref o6, .int le, .ref o7, .ref o8])), (o1, zI Z 3770 f)] _ _ := z_drop hW [0, 1] rfl (by decide)
    exact z_iret hx hb hr hlk hW () (rfl) (rfl) (by omega) (by omega) dX5_counted_67
  · refine lv_aload_n hx hb dX5_counted_64 rfl (lv_at hl 0 rfl) ?_
    refine lv_iload_n hx hb dX5_counted_65 rfl (lv_at hl 2 rfl) ?_
    refine z_iald hx hb hX hW 2 rfl (k := 3) (by omega) (by omega) dX5_counted_66 ?_
    have hW : zW Z s A [(o0, .inr (5, [.int th, .int dy, .int me, .int co, .int (nI np), .int ca, .int br, .int ml, .ref o1, .ref o2, .ref o3, .ref o4, .ref o5, .ref o6, .int le, .ref o7, .ref o8])), (o1, zI Z 3770 f)] _ _ := z_drop hW [0, 1] rfl (by decide)
    exact z_iret hx hb hr hlk hW () (rfl) (rfl) (by omega) (by omega) dX5_counted_67
  · refine lv_aload_n hx hb dX5_counted_64 rfl (lv_at hl 0 rfl) ?_
    refine lv_iload_n hx hb dX5_counted_65 rfl (lv_at hl 2 rfl) ?_
    refine z_iald hx hb hX hW 2 rfl (k := 4) (by omega) (by omega) dX5_counted_66 ?_
    have hW : zW Z s A [(o0, .inr (5, [.int th, .int dy, .int me, .int co, .int (nI np), .int ca, .int br, .int ml, .ref o1, .ref o2, .ref o3, .ref o4, .ref o5, .ref o6, .int le, .ref o7, .ref o8])), (o1, zI Z 3770 f)] _ _ := z_drop hW [0, 1] rfl (by decide)
    exact z_iret hx hb hr hlk hW () (rfl) (rfl) (by omega) (by omega) dX5_counted_67
  · refine lv_aload_n hx hb dX5_counted_64 rfl (lv_at hl 0 rfl) ?_
    refine lv_iload_n hx hb dX5_counted_65 rfl (lv_at hl 2 rfl) ?_
    refine z_iald hx hb hX hW 2 rfl (k := 5) (by omega) (by omega) dX5_counted_66 ?_
    have hW : zW Z s A [(o0, .inr (5, [.int th, .int dy, .int me, .int co, .int (nI np), .int ca, .int br, .int ml, .ref o1, .ref o2, .ref o3, .ref o4, .ref o5, .ref o6, .int le, .ref o7, .ref o8])), (o1, zI Z 3770 f)] _ _ := z_drop hW [0, 1] rfl (by decide)
    exact z_iret hx hb hr hlk hW () (rfl) (rfl) (by omega) (by omega) dX5_counted_67
  · refine lv_aload_n hx hb dX5_counted_64 rfl (lv_at hl 0 rfl) ?_
    refine lv_iload_n hx hb dX5_counted_65 rfl (lv_at hl 2 rfl) ?_
    refine z_iald hx hb hX hW 2 rfl (k := 6) (by omega) (by omega) dX5_counted_66 ?_
    have hW : zW Z s A [(o0, .inr (5, [.int th, .int dy, .int me, .int co, .int (nI np), .int ca, .int br, .int ml, .ref o1, .ref o2, .ref o3, .ref o4, .ref o5, .ref o6, .int le, .ref o7, .ref o8])), (o1, zI Z 3770 f)] _ _ := z_drop hW [0, 1] rfl (by decide)
    exact z_iret hx hb hr hlk hW () (rfl) (rfl) (by omega) (by omega) dX5_counted_67
  · refine lv_aload_n hx hb dX5_counted_64 rfl (lv_at hl 0 rfl) ?_
    refine lv_iload_n hx hb dX5_counted_65 rfl (lv_at hl 2 rfl) ?_
    refine z_iald hx hb hX hW 2 rfl (k := 7) (by omega) (by omega) dX5_counted_66 ?_
    have hW : zW Z s A [(o0, .inr (5, [.int th, .int dy, .int me, .int co, .int (nI np), .int ca, .int br, .int ml, .ref o1, .ref o2, .ref o3, .ref o4, .ref o5, .ref o6, .int le, .ref o7, .ref o8])), (o1, zI Z 3770 f)] _ _ := z_drop hW [0, 1] rfl (by decide)
    exact z_iret hx hb hr hlk hW () (rfl) (rfl) (by omega) (by omega) dX5_counted_67
