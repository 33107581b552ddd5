theorem mw_X4_number_0 : Cond.fieldLink RX4 173 "TypeFoundry" "day" "I" ∈ wsX4_number := by decide +kernel
theorem mw_X4_number_1 : ∀ w ∈ wsX40, w ∈ wsX4_number := by decide +kernel
theorem mw_X4_number_2 : Cond.fieldLink RX4 22 "TypeFoundry" "metal" "I" ∈ wsX4_number := by decide +kernel
theorem mw_X4_number_3 : Cond.fieldLink RX4 128 "TypeFoundry" "coins" "I" ∈ wsX4_number := by decide +kernel
theorem mw_X4_number_4 : Cond.fieldLink RX4 10 "TypeFoundry" "stock" "LTypeFoundry$Sorts;" ∈ wsX4_number := by decide +kernel
theorem mw_X4_number_5 : Cond.fieldLink RX4 91 "TypeFoundry" "printersThere" "I" ∈ wsX4_number := by decide +kernel
theorem mw_X4_number_6 : Cond.fieldLink RX4 68 "TypeFoundry" "everCast" "I" ∈ wsX4_number := by decide +kernel
theorem mw_X4_number_7 : Cond.fieldLink RX4 168 "TypeFoundry" "everBroken" "I" ∈ wsX4_number := by decide +kernel
theorem mw_X4_number_8 : Cond.fieldLink RX4 84 "TypeFoundry" "everMelted" "I" ∈ wsX4_number := by decide +kernel
abbrev wp_X4_number (Z : zT) (x st sb pa sp se np : Nat) (S : Nat → Int32) (dy me co ca br ml : Int32) (w : Nat) : Unit → va_W := fun (u : Unit) => [(x, .inr (4, [.ref st, .ref pa, .int (nI np), .int dy, .int me, .int co, .int ca, .int br, .int ml, .ref sp, .ref se])), (st, .inr (2, [.ref sb])), (sb, zI Z 290 S)]
abbrev po_X4_number (Z : zT) (x st sb pa sp se np : Nat) (S : Nat → Int32) (dy me co ca br ml : Int32) (w : Nat) : Int32 → Unit → Prop := fun (r : Int32) (u : Unit) => r = cnt dy me co S np ca br ml w
abbrev rm_X4_number : Room := { frames := 1, cells := 0, slots := 0, locals := 22 }
set_option maxHeartbeats 4000000 in
set_option maxRecDepth 100000 in
theorem c_X4_number (l : Launch) (Z : zT) (x st sb pa sp se np : Nat) (S : Nat → Int32) (dy me co ca br ml : Int32) (w : Nat) (hw : w < 8) : zMet l yX4_number wsX4_number rm_X4_number [.ref x, .int (nI w)] Z [(x, .inr (4, [.ref st, .ref pa, .int (nI np), .int dy, .int me, .int co, .int ca, .int br, .int ml, .ref sp, .ref se])), (st, .inr (2, [.ref sb])), (sb, zI Z 290 S)] (zQi Z (po_X4_number Z x st sb pa sp se np S dy me co ca br ml w) (wp_X4_number Z x st sb pa sp se np S dy me co ca br ml w)) 0 0 := by
  refine zstart (cc := cX4_number) (maxL := 2) (ret := (some .int)) (by decide) rfl (Nat.le_of_ble_eq_true rfl) ?_
  intro p e s m below meth c ls A hx hb hr hC hlk hnm hX hW hl
  have hml := hC.2.2.1
  have hown : s.vm.findClass RX4 = some m.cls := hC.2.2.2.1
  have hts := hC.2.2.2.2
  have hl : lv_has ls 2 [(0, .ref x), (1, .int (nI w))] := hl
  rcases (show w = 0 ∨ w = 1 ∨ w = 2 ∨ w = 3 ∨ w = 4 ∨ w = 5 ∨ w = 6 ∨ w = 7 by omega) with rfl | rfl | rfl | rfl | rfl | rfl | rfl | rfl
  · refine lv_iload_n hx hb dX4_number_0 rfl (lv_at hl 1 rfl) ?_
    refine lv_tableIn (tgt := 48) hx hb dX4_number_1 (by decide) (by decide) rfl (by decide) ?_
    refine lv_aload_n hx hb dX4_number_48 rfl (lv_at hl 0 rfl) ?_
    refine z_get (C := RX4) (T := TX4) (N := 11) hx hb hts mw_X4_number_1 hown hX hW 0 rfl rfl 3 (by decide) mw_X4_number_0 (fun _ h9 => h9) rfl dX4_number_49 ?_
    exact z_iret hx hb hr hlk hW () (rfl) (rfl) (by omega) (by omega) dX4_number_52
  · refine lv_iload_n hx hb dX4_number_0 rfl (lv_at hl 1 rfl) ?_
    refine lv_tableIn (tgt := 53) hx hb dX4_number_1 (by decide) (by decide) rfl (by decide) ?_
    refine lv_aload_n hx hb dX4_number_53 rfl (lv_at hl 0 rfl) ?_
    refine z_get (C := RX4) (T := TX4) (N := 11) hx hb hts mw_X4_number_1 hown hX hW 0 rfl rfl 4 (by decide) mw_X4_number_2 (fun _ h9 => h9) rfl dX4_number_54 ?_
    exact z_iret hx hb hr hlk hW () (rfl) (rfl) (by omega) (by omega) dX4_number_57
  · refine lv_iload_n hx hb dX4_number_0 rfl (lv_at hl 1 rfl) ?_
    refine lv_tableIn (tgt := 58) hx hb dX4_number_1 (by decide) (by decide) rfl (by decide) ?_
    refine lv_aload_n hx hb dX4_number_58 rfl (lv_at hl 0 rfl) ?_
    refine z_get (C := RX4) (T := TX4) (N := 11) hx hb hts mw_X4_number_1 hown hX hW 0 rfl rfl 5 (by decide) mw_X4_number_3 (fun _ h9 => h9) rfl dX4_number_59 ?_
    exact z_iret hx hb hr hlk hW () (rfl) (rfl) (by omega) (by omega) dX4_number_62
  · refine lv_iload_n hx hb dX4_number_0 rfl (lv_at hl 1 rfl) ?_
    refine lv_tableIn (tgt := 63) hx hb dX4_number_1 (by decide) (by decide) rfl (by decide) ?_
    refine lv_aload_n hx hb dX4_number_63 rfl (lv_at hl 0 rfl) ?_
    refine z_get (C := RX4) (T := TX4) (N := 11) hx hb hts mw_X4_number_1 hown hX hW 0 rfl rfl 0 (by decide) mw_X4_number_4 (fun _ h9 => h9) rfl dX4_number_64 ?_
    refine zc_i (va_runV (As := []) (rest := []) hC (c_X2_inAll l Z st sb S  _) (cwV 0 hts gX4_number_X2_inAll rfl rfl rfl (by decide +kernel) ⟨Nat.le_of_ble_eq_true rfl, Nat.le_of_ble_eq_true rfl⟩) (zpreV (ci := 2) (q0 := 1) hX hW rfl rfl [1, 2] rfl (by decide)) rfl rfl hl.1 rfl (lv_room (Nat.le_of_ble_eq_true rfl)) dX4_number_67 ⟨Nat.le_of_ble_eq_true rfl, Nat.le_of_ble_eq_true rfl⟩) hX hW [1, 2] rfl (by decide) (fun _ => rfl) (fun r_67 u_67 H locs h_67 hW => ?_)
    have hW : zW Z s A [(x, .inr (4, [.ref st, .ref pa, .int (nI np), .int dy, .int me, .int co, .int ca, .int br, .int ml, .ref sp, .ref se])), (st, .inr (2, [.ref sb])), (sb, zI Z 290 S)] _ _ := hW
    subst h_67
    exact z_iret hx hb hr hlk hW () (rfl) (rfl) (by omega) (by omega) dX4_number_70
  · refine lv_iload_n hx hb dX4_number_0 rfl (lv_at hl 1 rfl) ?_
    refine lv_tableIn (tgt := 71) hx hb dX4_number_1 (by decide) (by decide) rfl (by decide) ?_
    refine lv_aload_n hx hb dX4_number_71 rfl (lv_at hl 0 rfl) ?_
    refine z_get (C := RX4) (T := TX4) (N := 11) hx hb hts mw_X4_number_1 hown hX hW 0 rfl rfl 2 (by decide) mw_X4_number_5 (fun _ h9 => h9) rfl dX4_number_72 ?_
    exact z_iret hx hb hr hlk hW () (rfl) (rfl) (by omega) (by omega) dX4_number_75
  · refine lv_iload_n hx hb dX4_number_0 rfl (lv_at hl 1 rfl) ?_
    refine lv_tableIn (tgt := 76) hx hb dX4_number_1 (by decide) (by decide) rfl (by decide) ?_
    refine lv_aload_n hx hb dX4_number_76 rfl (lv_at hl 0 rfl) ?_
    refine z_get (C := RX4) (T := TX4) (N := 11) hx hb hts mw_X4_number_1 hown hX hW 0 rfl rfl 6 (by decide) mw_X4_number_6 (fun _ h9 => h9) rfl dX4_number_77 ?_
    exact z_iret hx hb hr hlk hW () (rfl) (rfl) (by omega) (by omega) dX4_number_80
  · refine lv_iload_n hx hb dX4_number_0 rfl (lv_at hl 1 rfl) ?_
    refine lv_tableIn (tgt := 81) hx hb dX4_number_1 (by decide) (by decide) rfl (by decide) ?_
    refine lv_aload_n hx hb dX4_number_81 rfl (lv_at hl 0 rfl) ?_
    refine z_get (C := RX4) (T := TX4) (N := 11) hx hb hts mw_X4_number_1 hown hX hW 0 rfl rfl 7 (by decide) mw_X4_number_7 (fun _ h9 => h9) rfl dX4_number_82 ?_
    exact z_iret hx hb hr hlk hW () (rfl) (rfl) (by omega) (by omega) dX4_number_85
  · refine lv_iload_n hx hb dX4_number_0 rfl (lv_at hl 1 rfl) ?_
    refine lv_tableIn (tgt := 86) hx hb dX4_number_1 (by decide) (by decide) rfl (by decide) ?_
    refine lv_aload_n hx hb dX4_number_86 rfl (lv_at hl 0 rfl) ?_
    refine z_get (C := RX4) (T := TX4) (N := 11) hx hb hts mw_X4_number_1 hown hX hW 0 rfl rfl 8 (by decide) mw_X4_number_8 (fun _ h9 => h9) rfl dX4_number_87 ?_
    exact z_iret hx hb hr hlk hW () (rfl) (rfl) (by omega) (by omega) dX4_number_90
