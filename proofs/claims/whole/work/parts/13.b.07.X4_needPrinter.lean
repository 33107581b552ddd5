theorem mw_X4_needPrinter_0 : Cond.classLink RX4 179 (zEx 1) ∈ wsX4_needPrinter := by decide +kernel
theorem mw_X4_needPrinter_1 : Cond.initialized (zEx 1) ∈ wsX4_needPrinter := by decide +kernel
theorem mw_X4_needPrinter_2 : ∀ w ∈ (vx_atS RX4 183 (zEx 1) zEs).filter goodWord, w ∈ wsX4_needPrinter := by decide +kernel
theorem mw_X4_needPrinter_3 : Cond.fieldLink RX4 18 "TypeFoundry" "printers" "[LTypeFoundry$Printer;" ∈ wsX4_needPrinter := by decide +kernel
theorem mw_X4_needPrinter_4 : ∀ w ∈ wsX40, w ∈ wsX4_needPrinter := by decide +kernel
abbrev wp_X4_needPrinter (Z : zT) (x st pa sp se np : Nat) (dy me co ca br ml : Int32) (ad : Nat → Nat → Nat) (v : Int32) : Unit → va_W := fun (u : Unit) => [(x, .inr (4, [.ref st, .ref pa, .int (nI np), .int dy, .int me, .int co, .int ca, .int br, .int ml, .ref sp, .ref se])), (pa, zQ Z 6 (pav ad np))]
abbrev po_X4_needPrinter (Z : zT) (x st pa sp se np : Nat) (dy me co ca br ml : Int32) (ad : Nat → Nat → Nat) (v : Int32) : Unit → Prop := fun (u : Unit) => isP v np
abbrev wx_X4_needPrinter (Z : zT) (x st pa sp se np : Nat) (dy me co ca br ml : Int32) (ad : Nat → Nat → Nat) (v : Int32) : Unit → va_W := fun (u : Unit) => [(x, .inr (4, [.ref st, .ref pa, .int (nI np), .int dy, .int me, .int co, .int ca, .int br, .int ml, .ref sp, .ref se])), (pa, zQ Z 6 (pav ad np))]
abbrev px_X4_needPrinter (Z : zT) (x st pa sp se np : Nat) (dy me co ca br ml : Int32) (ad : Nat → Nat → Nat) (v : Int32) : Nat → Unit → Prop := fun (k : Nat) (u : Unit) => k = 1 ∧ ¬ isP v np
abbrev rm_X4_needPrinter : Room := { frames := 6, cells := 1, slots := 6, locals := 82 }
set_option maxHeartbeats 4000000 in
set_option maxRecDepth 100000 in
theorem c_X4_needPrinter (l : Launch) (Z : zT) (x st pa sp se np : Nat) (dy me co ca br ml : Int32) (ad : Nat → Nat → Nat) (v : Int32) (hfl : l.stackTraces = false) (hnp : np ≤ 6) : zTet l yX4_needPrinter wsX4_needPrinter rm_X4_needPrinter [.ref x, .int v] Z [(x, .inr (4, [.ref st, .ref pa, .int (nI np), .int dy, .int me, .int co, .int ca, .int br, .int ml, .ref sp, .ref se])), (pa, zQ Z 6 (pav ad np))] (zQr Z (po_X4_needPrinter Z x st pa sp se np dy me co ca br ml ad v) (fun (u : Unit) => ad (sn v) 0) (wp_X4_needPrinter Z x st pa sp se np dy me co ca br ml ad v)) (zXC Z (px_X4_needPrinter Z x st pa sp se np dy me co ca br ml ad v) (wx_X4_needPrinter Z x st pa sp se np dy me co ca br ml ad v)) 1 6 := by
  refine ztstart (cc := cX4_needPrinter) (maxL := 3) (ret := (some (.object "TypeFoundry$Printer"))) (by decide) rfl (Nat.le_of_ble_eq_true rfl) ?_
  intro p e s m below meth c ls A hx hb hr hC hlk hno hX hW hl
  have hml := hC.2.2.1
  have hown : s.vm.findClass RX4 = some m.cls := hC.2.2.2.1
  have hts := hC.2.2.2.2
  have hl : lv_has ls 3 [(0, .ref x), (1, .int v)] := hl
  refine lv_iload_n hx hb dX4_needPrinter_0 rfl (lv_at hl 1 rfl) ?_
  refine lv_if_lt (tgt := 13) hx hb dX4_needPrinter_1 (by decide) (fun c_1 => ?_) (fun c_1 => ?_)
  · exact z_throw hx hb hfl hC 1 zfit1 mw_X4_needPrinter_0 mw_X4_needPrinter_1 mw_X4_needPrinter_2 zng1 zgd1 (is := 226) (text := "there is no such printer") (by decide +kernel) hX hW hl.1 dX4_needPrinter_13 dX4_needPrinter_16 dX4_needPrinter_17 dX4_needPrinter_19 dX4_needPrinter_22 hno hlk (Nat.le_of_ble_eq_true rfl) (Nat.le_of_ble_eq_true rfl) (Nat.le_of_ble_eq_true rfl) (Nat.le_of_ble_eq_true rfl) () (⟨rfl, fun h9 => znot (n := 6) (by omega) (by first | exact Or.inl c_1 | exact Or.inr (Int32.not_lt.mp c_10)) ⟨by have := h9.1; omega, h9.2⟩⟩) (rfl) (Nat.le_of_ble_eq_true rfl) (Nat.le_of_ble_eq_true rfl)
  · refine lv_iload_n hx hb dX4_needPrinter_4 rfl (lv_at hl 1 rfl) ?_
    refine lv_aload_n hx hb dX4_needPrinter_5 rfl (lv_at hl 0 rfl) ?_
    refine z_get (C := RX4) (T := TX4) (N := 11) hx hb hts mw_X4_needPrinter_4 hown hX hW 0 rfl rfl 1 (by decide) mw_X4_needPrinter_3 (fun _ h9 => h9) rfl dX4_needPrinter_6 ?_
    refine z_alenq hx hb hX hW 1 rfl dX4_needPrinter_9 ?_
    refine lv_icmp_lt (tgt := 23) hx hb dX4_needPrinter_10 (by decide) (fun c_10 => ?_) (fun c_10 => ?_)
    · obtain ⟨hv1, hv2⟩ := zof (by omega) c_1 c_10
      have hl : lv_has ls 3 [(0, .ref x), (1, .int (nI (sn v)))] := by rw [← hv2]; exact hl
      refine lv_aload_n hx hb dX4_needPrinter_23 rfl (lv_at hl 0 rfl) ?_
      refine z_get (C := RX4) (T := TX4) (N := 11) hx hb hts mw_X4_needPrinter_4 hown hX hW 0 rfl rfl 1 (by decide) mw_X4_needPrinter_3 (fun _ h9 => h9) rfl dX4_needPrinter_24 ?_
      refine lv_iload_n hx hb dX4_needPrinter_27 rfl (lv_at hl 1 rfl) ?_
      refine z_aldq hx hb hX hW 1 rfl (k := (sn v)) (by omega) (by omega) dX4_needPrinter_28 ?_
      rcases Nat.lt_or_ge (sn v) np with hz | hz
      · refine zw_topq (pav_s hz) ?_
        refine lv_astore_n (lv' := [(2, .ref (ad (sn v) 0)), (0, .ref x), (1, .int (nI (sn v)))]) hx hb dX4_needPrinter_29 rfl hl (by decide) rfl (fun ls hl => ?_)
        refine lv_aload_n hx hb dX4_needPrinter_30 rfl (lv_at hl 0 rfl) ?_
        refine lv_ifnonnull (tgt := 44) hx hb dX4_needPrinter_31 (by decide) ?_
        refine lv_aload_n hx hb dX4_needPrinter_44 rfl (lv_at hl 0 rfl) ?_
        refine vx_ret ?_
        exact z_aret hx hb hr (Or.inl ⟨_, rfl⟩) hlk hW () (⟨hz, hv2⟩) rfl (rfl) (by omega) (by omega) dX4_needPrinter_45
      · refine zw_topn (pav_n (by omega)) ?_
        refine lv_astore_nN (lv' := [(2, .null), (0, .ref x), (1, .int (nI (sn v)))]) hx hb dX4_needPrinter_29 rfl hl (by decide) rfl (fun ls hl => ?_)
        refine lv_aload_nN hx hb dX4_needPrinter_30 rfl (lv_at hl 0 rfl) ?_
        refine lv_ifnonnullN hx hb dX4_needPrinter_31 ?_
        exact z_throw hx hb hfl hC 1 zfit1 mw_X4_needPrinter_0 mw_X4_needPrinter_1 mw_X4_needPrinter_2 zng1 zgd1 (is := 226) (text := "there is no such printer") (by decide +kernel) hX hW hl.1 dX4_needPrinter_34 dX4_needPrinter_37 dX4_needPrinter_38 dX4_needPrinter_40 dX4_needPrinter_43 hno hlk (Nat.le_of_ble_eq_true rfl) (Nat.le_of_ble_eq_true rfl) (Nat.le_of_ble_eq_true rfl) (Nat.le_of_ble_eq_true rfl) () (⟨rfl, fun h9 => absurd h9.1 (by omega)⟩) (rfl) (Nat.le_of_ble_eq_true rfl) (Nat.le_of_ble_eq_true rfl)
    · exact z_throw hx hb hfl hC 1 zfit1 mw_X4_needPrinter_0 mw_X4_needPrinter_1 mw_X4_needPrinter_2 zng1 zgd1 (is := 226) (text := "there is no such printer") (by decide +kernel) hX hW hl.1 dX4_needPrinter_13 dX4_needPrinter_16 dX4_needPrinter_17 dX4_needPrinter_19 dX4_needPrinter_22 hno hlk (Nat.le_of_ble_eq_true rfl) (Nat.le_of_ble_eq_true rfl) (Nat.le_of_ble_eq_true rfl) (Nat.le_of_ble_eq_true rfl) () (⟨rfl, fun h9 => znot (n := 6) (by omega) (by first | exact Or.inl c_1 | exact Or.inr (Int32.not_lt.mp c_10)) ⟨by have := h9.1; omega, h9.2⟩⟩) (rfl) (Nat.le_of_ble_eq_true rfl) (Nat.le_of_ble_eq_true rfl)
