theorem mw_X4_needWord_0 : Cond.fieldLink RX4 29 "TypeFoundry" "spelled" "LTypeFoundry$Word;" ∈ wsX4_needWord := by decide +kernel
theorem mw_X4_needWord_1 : ∀ w ∈ wsX40, w ∈ wsX4_needWord := by decide +kernel
theorem mw_X4_needWord_2 : Cond.classLink RX4 71 (zEx 2) ∈ wsX4_needWord := by decide +kernel
theorem mw_X4_needWord_3 : Cond.initialized (zEx 2) ∈ wsX4_needWord := by decide +kernel
theorem mw_X4_needWord_4 : ∀ w ∈ (vx_atS RX4 75 (zEx 2) zEs).filter goodWord, w ∈ wsX4_needWord := by decide +kernel
noncomputable abbrev wp_X4_needWord (Z : zT) (x st pa sp spb se np : Nat) (dy me co ca br ml fp : Int32) (L : Nat → Int32) (v : Int32) : (Nat → Int32) → va_W := fun (u : (Nat → Int32)) => match u with | L1 => [(x, .inr (4, [.ref st, .ref pa, .int (nI np), .int dy, .int me, .int co, .int ca, .int br, .int ml, .ref sp, .ref se])), (sp, .inr (3, [.ref spb, .int (nI (6 - wkk v))])), (spb, zI Z 6 L1)]
abbrev po_X4_needWord (Z : zT) (x st pa sp spb se np : Nat) (dy me co ca br ml fp : Int32) (L : Nat → Int32) (v : Int32) : (Nat → Int32) → Prop := fun (u : (Nat → Int32)) => match u with | L1 => isW v ∧ wdC (wkk v) (wla v) L1
abbrev wx_X4_needWord (Z : zT) (x st pa sp spb se np : Nat) (dy me co ca br ml fp : Int32) (L : Nat → Int32) (v : Int32) : (Nat → Int32) × Int32 → va_W := fun (u : (Nat → Int32) × Int32) => match u with | (L1, fp1) => [(x, .inr (4, [.ref st, .ref pa, .int (nI np), .int dy, .int me, .int co, .int ca, .int br, .int ml, .ref sp, .ref se])), (sp, .inr (3, [.ref spb, .int fp1])), (spb, zI Z 6 L1)]
abbrev px_X4_needWord (Z : zT) (x st pa sp spb se np : Nat) (dy me co ca br ml fp : Int32) (L : Nat → Int32) (v : Int32) : Nat → (Nat → Int32) × Int32 → Prop := fun (k : Nat) (u : (Nat → Int32) × Int32) => match u with | (L1, fp1) => k = 2 ∧ ¬ isW v
abbrev rm_X4_needWord : Room := { frames := 6, cells := 1, slots := 6, locals := 82 }
set_option maxHeartbeats 4000000 in
set_option maxRecDepth 100000 in
theorem c_X4_needWord (l : Launch) (Z : zT) (x st pa sp spb se np : Nat) (dy me co ca br ml fp : Int32) (L : Nat → Int32) (v : Int32) (hfl : l.stackTraces = false)  : zTet l yX4_needWord wsX4_needWord rm_X4_needWord [.ref x, .int v] Z [(x, .inr (4, [.ref st, .ref pa, .int (nI np), .int dy, .int me, .int co, .int ca, .int br, .int ml, .ref sp, .ref se])), (sp, .inr (3, [.ref spb, .int fp])), (spb, zI Z 6 L)] (zQr Z (po_X4_needWord Z x st pa sp spb se np dy me co ca br ml fp L v) (fun (u : (Nat → Int32)) => match u with | L1 => sp) (wp_X4_needWord Z x st pa sp spb se np dy me co ca br ml fp L v)) (zXC Z (px_X4_needWord Z x st pa sp spb se np dy me co ca br ml fp L v) (wx_X4_needWord Z x st pa sp spb se np dy me co ca br ml fp L v)) 1 6 := by
  refine ztstart (cc := cX4_needWord) (maxL := 2) (ret := (some (.object "TypeFoundry$Word"))) (by decide) rfl (Nat.le_of_ble_eq_true rfl) ?_
  intro p e s m below meth c ls A hx hb hr hC hlk hno hX hW hl
  have hml := hC.2.2.1
  have hown : s.vm.findClass RX4 = some m.cls := hC.2.2.2.1
  have hts := hC.2.2.2.2
  have hl : lv_has ls 2 [(0, .ref x), (1, .int v)] := hl
  refine lv_aload_n hx hb dX4_needWord_0 rfl (lv_at hl 0 rfl) ?_
  refine z_get (C := RX4) (T := TX4) (N := 11) hx hb hts mw_X4_needWord_1 hown hX hW 0 rfl rfl 9 (by decide) mw_X4_needWord_0 (fun _ h9 => h9) rfl dX4_needWord_1 ?_
  refine lv_iload_n hx hb dX4_needWord_4 rfl (lv_at hl 1 rfl) ?_
  refine zc_i (va_runV (As := [.int v]) (rest := []) hC (c_X3_spell l Z sp spb L fp v  _) (cwV 1 hts gX4_needWord_X3_spell rfl rfl rfl (by decide +kernel) ⟨Nat.le_of_ble_eq_true rfl, Nat.le_of_ble_eq_true rfl⟩) (zpreV (ci := 3) (q0 := 1) hX hW rfl rfl [1, 2] rfl (by decide)) rfl rfl hl.1 rfl (lv_room (Nat.le_of_ble_eq_true rfl)) dX4_needWord_5 ⟨Nat.le_of_ble_eq_true rfl, Nat.le_of_ble_eq_true rfl⟩) hX hW [1, 2] rfl (by decide) (fun _ => rfl) (fun r_5 u_5 H locs h_5 hW => ?_)
  obtain ⟨L1_5, fp1_5⟩ := u_5
  have hW : zW Z s A [(x, .inr (4, [.ref st, .ref pa, .int (nI np), .int dy, .int me, .int co, .int ca, .int br, .int ml, .ref sp, .ref se])), (sp, .inr (3, [.ref spb, .int fp1_5])), (spb, zI Z 6 L1_5)] _ _ := hW
  rcases h_5 with ⟨rfl, v9, k9, hq1, hq2, hq3, hq4, hq5⟩ | ⟨rfl, hq⟩
  · obtain ⟨e1, e2⟩ := wkk_of hq1 hq2 hq3
    rw [← e1] at hq4 hq5
    rw [← e2] at hq5
    subst hq4
    have hW : zW Z s A [(x, .inr (4, [.ref st, .ref pa, .int (nI np), .int dy, .int me, .int co, .int ca, .int br, .int ml, .ref sp, .ref se])), (sp, .inr (3, [.ref spb, .int (nI (6 - wkk v))])), (spb, zI Z 6 L1_5)] _ _ := hW
    refine zn_if_ne (tgt := 21) (a := 1) hx hb (by omega) dX4_needWord_8 (by decide) (fun c_8 => ?_) (fun c_8 => (by omega : False).elim)
    refine lv_aload_n hx hb dX4_needWord_21 rfl (lv_at hl 0 rfl) ?_
    refine z_get (C := RX4) (T := TX4) (N := 11) hx hb hts mw_X4_needWord_1 hown hX hW 0 rfl rfl 9 (by decide) mw_X4_needWord_0 (fun _ h9 => h9) rfl dX4_needWord_22 ?_
    refine vx_ret ?_
    exact z_aret hx hb hr (Or.inl ⟨_, rfl⟩) hlk hW L1_5 (⟨⟨v9, k9, hq1, hq2, hq3⟩, hq5⟩) rfl (rfl) (by omega) (by omega) dX4_needWord_25
  · refine zn_if_ne (tgt := 21) (a := 0) hx hb (by omega) dX4_needWord_8 (by decide) (fun c_8 => (by omega : False).elim) (fun c_8 => ?_)
    exact z_throw hx hb hfl hC 2 zfit2 mw_X4_needWord_2 mw_X4_needWord_3 mw_X4_needWord_4 zng2 zgd2 (is := 231) (text := "word is no word") (by decide +kernel) hX hW hl.1 dX4_needWord_11 dX4_needWord_14 dX4_needWord_15 dX4_needWord_17 dX4_needWord_20 hno hlk (Nat.le_of_ble_eq_true rfl) (Nat.le_of_ble_eq_true rfl) (Nat.le_of_ble_eq_true rfl) (Nat.le_of_ble_eq_true rfl) (L1_5, fp1_5) (⟨rfl, hq⟩) (rfl) (Nat.le_of_ble_eq_true rfl) (Nat.le_of_ble_eq_true rfl)
