theorem mw_X4_mean_0 : Cond.fieldLink RX4 10 "TypeFoundry" "stock" "LTypeFoundry$Sorts;" ∈ wsX4_mean := by decide +kernel
theorem mw_X4_mean_1 : ∀ w ∈ wsX40, w ∈ wsX4_mean := by decide +kernel
abbrev wp_X4_mean (Z : zT) (x st sb pa sp spb se sl sk np : Nat) (S : Nat → Int32) (dy me co ca br ml fp : Int32) (L lf tk : Nat → Int32) (ad : Nat → Nat → Nat) (F G pn : Nat → Nat → Int32) : Unit → va_W := fun (u : Unit) => ((x, .inr (4, [.ref st, .ref pa, .int (nI np), .int dy, .int me, .int co, .int ca, .int br, .int ml, .ref sp, .ref se])) :: (st, .inr (2, [.ref sb])) :: (sb, zI Z 290 S) :: (pa, zQ Z 6 (pav ad np)) :: (sp, .inr (3, [.ref spb, .int fp])) :: (spb, zI Z 6 L) :: (se, .inr (1, [.ref sl, .ref sk])) :: (sl, zI Z 29 lf) :: (sk, zI Z 29 tk) :: zpool np (pcs Z ad F G pn))
abbrev po_X4_mean (Z : zT) (x st sb pa sp spb se sl sk np : Nat) (S : Nat → Int32) (dy me co ca br ml fp : Int32) (L lf tk : Nat → Int32) (ad : Nat → Nat → Nat) (F G pn : Nat → Nat → Int32) : UInt64 → Unit → Prop := fun (r : UInt64) (u : Unit) => r = mnS S
abbrev rm_X4_mean : Room := { frames := 1, cells := 0, slots := 0, locals := 22 }
set_option maxHeartbeats 4000000 in
set_option maxRecDepth 100000 in
theorem c_X4_mean (l : Launch) (Z : zT) (x st sb pa sp spb se sl sk np : Nat) (S : Nat → Int32) (dy me co ca br ml fp : Int32) (L lf tk : Nat → Int32) (ad : Nat → Nat → Nat) (F G pn : Nat → Nat → Int32) (hnp : np ≤ 6) : zMet l yX4_mean wsX4_mean rm_X4_mean [.ref x] Z ((x, .inr (4, [.ref st, .ref pa, .int (nI np), .int dy, .int me, .int co, .int ca, .int br, .int ml, .ref sp, .ref se])) :: (st, .inr (2, [.ref sb])) :: (sb, zI Z 290 S) :: (pa, zQ Z 6 (pav ad np)) :: (sp, .inr (3, [.ref spb, .int fp])) :: (spb, zI Z 6 L) :: (se, .inr (1, [.ref sl, .ref sk])) :: (sl, zI Z 29 lf) :: (sk, zI Z 29 tk) :: zpool np (pcs Z ad F G pn)) (zQd Z (po_X4_mean Z x st sb pa sp spb se sl sk np S dy me co ca br ml fp L lf tk ad F G pn) (wp_X4_mean Z x st sb pa sp spb se sl sk np S dy me co ca br ml fp L lf tk ad F G pn)) 0 0 := by
  refine zstart (cc := cX4_mean) (maxL := 2) (ret := (some .double)) (by decide) rfl (Nat.le_of_ble_eq_true rfl) ?_
  intro p e s m below meth c ls A hx hb hr hC hlk hnm hX hW hl
  have hml := hC.2.2.1
  have hown : s.vm.findClass RX4 = some m.cls := hC.2.2.2.1
  have hts := hC.2.2.2.2
  have hl : lv_has ls 2 [(0, .ref x)] := hl
  refine lv_aload_n hx hb dX4_mean_0 rfl (lv_at hl 0 rfl) ?_
  refine z_get (C := RX4) (T := TX4) (N := 11) hx hb hts mw_X4_mean_1 hown hX hW 0 rfl rfl 0 (by decide) mw_X4_mean_0 (fun _ h9 => h9) rfl dX4_mean_1 ?_
  refine zc_i (va_runV (As := []) (rest := []) hC (c_X2_inAll l Z st sb S  _) (cwV 0 hts gX4_mean_X2_inAll rfl rfl rfl (by decide +kernel) ⟨Nat.le_of_ble_eq_true rfl, Nat.le_of_ble_eq_true rfl⟩) (zpreV (ci := 2) (q0 := 1) hX hW rfl rfl [1, 2] rfl (by decide)) rfl rfl hl.1 rfl (lv_room (Nat.le_of_ble_eq_true rfl)) dX4_mean_4 ⟨Nat.le_of_ble_eq_true rfl, Nat.le_of_ble_eq_true rfl⟩) hX hW [1, 2] rfl (by decide) (fun _ => rfl) (fun r_4 u_4 H locs h_4 hW => ?_)
  have hW : zW Z s A ((x, .inr (4, [.ref st, .ref pa, .int (nI np), .int dy, .int me, .int co, .int ca, .int br, .int ml, .ref sp, .ref se])) :: (st, .inr (2, [.ref sb])) :: (sb, zI Z 290 S) :: (pa, zQ Z 6 (pav ad np)) :: (sp, .inr (3, [.ref spb, .int fp])) :: (spb, zI Z 6 L) :: (se, .inr (1, [.ref sl, .ref sk])) :: (sl, zI Z 29 lf) :: (sk, zI Z 29 tk) :: zpool np (pcs Z ad F G pn)) _ _ := hW
  subst h_4
  refine lv_istore_n (lv' := [(1, .int (bx_sum S 290)), (0, .ref x)]) hx hb dX4_mean_7 rfl hl (by decide) rfl (fun ls hl => ?_)
  refine lv_iload_n hx hb dX4_mean_8 rfl (lv_at hl 0 rfl) ?_
  refine lv_if_ne (tgt := 16) hx hb dX4_mean_9 (by decide) (fun c_9 => ?_) (fun c_9 => ?_)
  · refine lv_aload_n hx hb dX4_mean_16 rfl (lv_at hl 1 rfl) ?_
    refine z_get (C := RX4) (T := TX4) (N := 11) hx hb hts mw_X4_mean_1 hown hX hW 0 rfl rfl 0 (by decide) mw_X4_mean_0 (fun _ h9 => h9) rfl dX4_mean_17 ?_
    refine zc_i (va_runV (As := []) (rest := []) hC (c_X2_wearInAll l Z st sb S  _) (cwV 0 hts gX4_mean_X2_wearInAll rfl rfl rfl (by decide +kernel) ⟨Nat.le_of_ble_eq_true rfl, Nat.le_of_ble_eq_true rfl⟩) (zpreV (ci := 2) (q0 := 1) hX hW rfl rfl [1, 2] rfl (by decide)) rfl rfl hl.1 rfl (lv_room (Nat.le_of_ble_eq_true rfl)) dX4_mean_20 ⟨Nat.le_of_ble_eq_true rfl, Nat.le_of_ble_eq_true rfl⟩) hX hW [1, 2] rfl (by decide) (fun _ => rfl) (fun r_20 u_20 H locs h_20 hW => ?_)
    have hW : zW Z s A ((x, .inr (4, [.ref st, .ref pa, .int (nI np), .int dy, .int me, .int co, .int ca, .int br, .int ml, .ref sp, .ref se])) :: (st, .inr (2, [.ref sb])) :: (sb, zI Z 290 S) :: (pa, zQ Z 6 (pav ad np)) :: (sp, .inr (3, [.ref spb, .int fp])) :: (spb, zI Z 6 L) :: (se, .inr (1, [.ref sl, .ref sk])) :: (sl, zI Z 29 lf) :: (sk, zI Z 29 tk) :: zpool np (pcs Z ad F G pn)) _ _ := hW
    subst h_20
    refine lv_i2d hx hb dX4_mean_23 ?_
    refine lv_iload_n hx hb dX4_mean_24 rfl (lv_at hl 0 rfl) ?_
    refine lv_i2d hx hb dX4_mean_25 ?_
    refine lv_ddiv hx hb dX4_mean_26 (zmean _ _ c_9) ?_
    exact z_dret hx hb hr hlk hW () (by unfold po_X4_mean mnS; first | rw [if_pos c_9] | rw [if_neg c_9]) (rfl) (by omega) (by omega) dX4_mean_27
  · refine lv_dconst0 hx hb dX4_mean_12 ?_
    refine lv_goto (tgt := 27) hx hb dX4_mean_13 (by decide) ?_
    exact z_dret hx hb hr hlk hW () (by unfold po_X4_mean mnS; first | rw [if_pos c_9] | rw [if_neg c_9]) (rfl) (by omega) (by omega) dX4_mean_27
