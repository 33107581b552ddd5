theorem mw_X5_look_0 : Cond.fieldLink RX5 35 "TypeFoundryModel" "left" "[I" ∈ wsX5_look := by decide +kernel
theorem mw_X5_look_1 : ∀ w ∈ wsX50, w ∈ wsX5_look := by decide +kernel
abbrev wp_X5_look (Z : zT) (o0 o1 o2 o3 o4 o5 o6 o7 o8 np : Nat) (th dy me co ca br ml le : Int32) (f Lf : Nat → Int32) (pk : Nat) : Unit → va_W := fun (u : Unit) => [(o0, .inr (5, [.int th, .int dy, .int me, .int co, .int (nI np), .int ca, .int br, .int ml, .ref o1, .ref o2, .ref o3, .ref o4, .ref o5, .ref o6, .int le, .ref o7, .ref o8])), (o1, zI Z 3770 f), (o8, zI Z 29 (lk (sh f (290 * (1 + pk)))))]
abbrev po_X5_look (Z : zT) (o0 o1 o2 o3 o4 o5 o6 o7 o8 np : Nat) (th dy me co ca br ml le : Int32) (f Lf : Nat → Int32) (pk : Nat) : Unit → Prop := fun (u : Unit) => True
abbrev rm_X5_look : Room := { frames := 1, cells := 0, slots := 0, locals := 24 }
set_option maxHeartbeats 4000000 in
set_option maxRecDepth 100000 in
theorem c_X5_look (l : Launch) (Z : zT) (o0 o1 o2 o3 o4 o5 o6 o7 o8 np : Nat) (th dy me co ca br ml le : Int32) (f Lf : Nat → Int32) (pk : Nat) (hpk : pk < 6) : zMet l yX5_look wsX5_look rm_X5_look [.ref o0, .int (nI pk)] Z [(o0, .inr (5, [.int th, .int dy, .int me, .int co, .int (nI np), .int ca, .int br, .int ml, .ref o1, .ref o2, .ref o3, .ref o4, .ref o5, .ref o6, .int le, .ref o7, .ref o8])), (o1, zI Z 3770 f), (o8, zI Z 29 Lf)] (zQv Z (po_X5_look Z o0 o1 o2 o3 o4 o5 o6 o7 o8 np th dy me co ca br ml le f Lf pk) (wp_X5_look Z o0 o1 o2 o3 o4 o5 o6 o7 o8 np th dy me co ca br ml le f Lf pk)) 0 0 := by
  refine zstart (cc := cX5_look) (maxL := 3) (ret := none) (by decide) rfl (Nat.le_of_ble_eq_true rfl) ?_
  intro p e s m below meth c ls A hx hb hr hC hlk hnm hX hW hl
  have hml := hC.2.2.1
  have hown : s.vm.findClass RX5 = some m.cls := hC.2.2.2.1
  have hts := hC.2.2.2.2
  have hl : lv_has ls 3 [(0, .ref o0), (1, .int (nI pk))] := hl
  refine lv_iconst (v := nI 0) hx hb dX5_look_0 (by decide) ?_
  refine lv_istore_n (lv' := [(2, .int (nI 0)), (0, .ref o0), (1, .int (nI pk))]) hx hb dX5_look_1 rfl hl (by decide) rfl (fun ls hl => ?_)
  have loop_2 : ∀ (n : Nat) (j : Nat) (K : Nat → Int32), (j ≤ 29) → (K = fil (lk (sh f (290 * (1 + pk)))) Lf j) → (29 - j < n) → ∀ (H : Heap) (locs : List Loc) (ls : Array Slot), zW Z s A [(o0, .inr (5, [.int th, .int dy, .int me, .int co, .int (nI np), .int ca, .int br, .int ml, .ref o1, .ref o2, .ref o3, .ref o4, .ref o5, .ref o6, .int le, .ref o7, .ref o8])), (o1, zI Z 3770 f), (o8, zI Z 29 K)] H locs → lv_has ls 3 [(2, .int (nI j)), (0, .ref o0), (1, .int (nI pk))] → W p l e rm_X5_look s m ([.ref o0, .int (nI pk)] : List Value).toArray below meth c H locs 0 0 (MQ below (zQv Z (po_X5_look Z o0 o1 o2 o3 o4 o5 o6 o7 o8 np th dy me co ca br ml le f Lf pk) (wp_X5_look Z o0 o1 o2 o3 o4 o5 o6 o7 o8 np th dy me co ca br ml le f Lf pk) A) ([.ref o0, .int (nI pk)] : List Value).toArray s 0 0 A) (F0 m 2 ls []) := by
    intro n
    induction n with
    | zero =>
      intro j K hj hk9 hm
      exact absurd hm (Nat.not_lt_zero _)
    | succ n ih =>
      intro j K hj hk9 hm H locs ls hW hl
      have ih_2 := ih
      refine lv_iload_n hx hb dX5_look_2 rfl (lv_at hl 0 rfl) ?_
      refine lv_bipush (v := nI 29) hx hb dX5_look_3 (by decide) ?_
      refine zn_icmp_ge (tgt := 29) (a := j) (b := 29) hx hb (by omega) (by omega) dX5_look_5 (by decide) (fun c_5 => ?_) (fun c_5 => ?_)
      · have hW := z_cong hW 2 rfl (f' := lk (sh f (290 * (1 + pk)))) (by rw [hk9, show j = 29 by omega]; exact fil_end)
        have hW : zW Z s A [(o0, .inr (5, [.int th, .int dy, .int me, .int co, .int (nI np), .int ca, .int br, .int ml, .ref o1, .ref o2, .ref o3, .ref o4, .ref o5, .ref o6, .int le, .ref o7, .ref o8])), (o1, zI Z 3770 f), (o8, zI Z 29 (lk (sh f (290 * (1 + pk)))))] _ _ := hW
        exact z_vret hx hb hr hlk hW () (trivial) (rfl) (by omega) (by omega) dX5_look_29
      · refine lv_aload_n hx hb dX5_look_8 rfl (lv_at hl 1 rfl) ?_
        refine z_get (C := RX5) (T := TX5) (N := 17) hx hb hts mw_X5_look_1 hown hX hW 0 rfl rfl 16 (by decide) mw_X5_look_0 (fun _ h9 => h9) rfl dX5_look_9 ?_
        refine lv_iload_n hx hb dX5_look_12 rfl (lv_at hl 0 rfl) ?_
        refine lv_aload_n hx hb dX5_look_13 rfl (lv_at hl 1 rfl) ?_
        refine lv_iload_n hx hb dX5_look_14 rfl (lv_at hl 2 rfl) ?_
        refine zc_i (va_runS (As := [.int (nI pk)]) (rest := [.ref o0, .int (nI j), .ref o8]) hC (c_X5_caseOf l Z pk  _) (va_cwS 1 hts gX5_look_X5_caseOf rfl rfl rfl (by decide +kernel) ⟨Nat.le_of_ble_eq_true rfl, Nat.le_of_ble_eq_true rfl⟩) (zpreS hX hW [] rfl (by decide)) rfl rfl hl.1 rfl (lv_room (Nat.le_of_ble_eq_true rfl)) dX5_look_15 ⟨Nat.le_of_ble_eq_true rfl, Nat.le_of_ble_eq_true rfl⟩) hX hW [] rfl (by decide) (fun _ => rfl) (fun r_15 u_15 H locs h_15 hW => ?_)
        have hW : zW Z s A [(o0, .inr (5, [.int th, .int dy, .int me, .int co, .int (nI np), .int ca, .int br, .int ml, .ref o1, .ref o2, .ref o3, .ref o4, .ref o5, .ref o6, .int le, .ref o7, .ref o8])), (o1, zI Z 3770 f), (o8, zI Z 29 K)] _ _ := hW
        subst h_15
        refine lv_iload_n hx hb dX5_look_18 rfl (lv_at hl 0 rfl) ?_
        refine zc_i (va_runV (As := [.int (nI (290 * (1 + pk))), .int (nI j)]) (rest := [.int (nI j), .ref o8]) hC (c_X5_many l Z o0 o1 o2 o3 o4 o5 o6 o7 o8 np th dy me co ca br ml le f (290 * (1 + pk)) j (by omega) (by omega) _) (cwV 2 hts gX5_look_X5_many rfl rfl rfl (by decide +kernel) ⟨Nat.le_of_ble_eq_true rfl, Nat.le_of_ble_eq_true rfl⟩) (zpreV (ci := 5) (q0 := 0) hX hW rfl rfl [0, 1] rfl (by decide)) rfl rfl hl.1 rfl (lv_room (Nat.le_of_ble_eq_true rfl)) dX5_look_19 ⟨Nat.le_of_ble_eq_true rfl, Nat.le_of_ble_eq_true rfl⟩) hX hW [0, 1] rfl (by decide) (fun _ => rfl) (fun r_19 u_19 H locs h_19 hW => ?_)
        have hW : zW Z s A [(o0, .inr (5, [.int th, .int dy, .int me, .int co, .int (nI np), .int ca, .int br, .int ml, .ref o1, .ref o2, .ref o3, .ref o4, .ref o5, .ref o6, .int le, .ref o7, .ref o8])), (o1, zI Z 3770 f), (o8, zI Z 29 K)] _ _ := hW
        subst h_19
        refine z_iast hx hb hX hW 2 rfl (k := j) (by omega) (by omega) dX5_look_22 (fun H locs hW => ?_)
        have hW : zW Z s A [(o0, .inr (5, [.int th, .int dy, .int me, .int co, .int (nI np), .int ca, .int br, .int ml, .ref o1, .ref o2, .ref o3, .ref o4, .ref o5, .ref o6, .int le, .ref o7, .ref o8])), (o1, zI Z 3770 f), (o8, zI Z 29 (upd K j (bx_sum (sg (sh f (290 * (1 + pk))) j) 10)))] _ _ := hW
        refine lv_iinc (v := nI (j + 1)) (lv' := [(2, .int (nI (j + 1))), (0, .ref o0), (1, .int (nI pk))]) hx hb dX5_look_23 hl (k := 0) rfl (zinc1 _) (by decide) rfl (fun ls hl => ?_)
        refine lv_goto (tgt := 2) hx hb dX5_look_26 (by decide) ?_
        have hl : lv_has ls 3 [(2, .int (nI (j + 1))), (0, .ref o0), (1, .int (nI pk))] := lv_sub hl [0, 1, 2] rfl
        exact ih_2 (j + 1) (upd K j (bx_sum (sg (sh f (290 * (1 + pk))) j) 10)) (by omega) (by rw [hk9]; exact fil_s (lk (sh f (290 * (1 + pk)))) Lf j) (by omega) _ _ _ hW hl
  have hl : lv_has ls 3 [(2, .int (nI 0)), (0, .ref o0), (1, .int (nI pk))] := lv_sub hl [0, 1, 2] rfl
  exact loop_2 _ 0 Lf (by omega) (fil_0 _ _) (Nat.lt_succ_self _) _ _ _ hW hl
