theorem mw_X1_fillFrom_0 : Cond.fieldLink RX1 9 "TypeFoundry$Setting" "left" "[I" ∈ wsX1_fillFrom := by decide +kernel
theorem mw_X1_fillFrom_1 : ∀ w ∈ wsX10, w ∈ wsX1_fillFrom := by decide +kernel
abbrev wp_X1_fillFrom (Z : zT) (z zl zt : Nat) (lf tk : Nat → Int32) (a b : Nat) (f : Nat → Int32) : Unit → va_W := fun (u : Unit) => [(z, .inr (1, [.ref zl, .ref zt])), (zl, zI Z 29 (lk f)), (zt, zI Z 29 tk), (a, .inr (2, [.ref b])), (b, zI Z 290 f)]
abbrev po_X1_fillFrom (Z : zT) (z zl zt : Nat) (lf tk : Nat → Int32) (a b : Nat) (f : Nat → Int32) : Unit → Prop := fun (u : Unit) => True
abbrev rm_X1_fillFrom : Room := { frames := 2, cells := 0, slots := 0, locals := 45 }
set_option maxHeartbeats 4000000 in
set_option maxRecDepth 100000 in
theorem c_X1_fillFrom (l : Launch) (Z : zT) (z zl zt : Nat) (lf tk : Nat → Int32) (a b : Nat) (f : Nat → Int32)  : zMet l yX1_fillFrom wsX1_fillFrom rm_X1_fillFrom [.ref z, .ref a] Z [(z, .inr (1, [.ref zl, .ref zt])), (zl, zI Z 29 lf), (zt, zI Z 29 tk), (a, .inr (2, [.ref b])), (b, zI Z 290 f)] (zQv Z (po_X1_fillFrom Z z zl zt lf tk a b f) (wp_X1_fillFrom Z z zl zt lf tk a b f)) 0 0 := by
  refine zstart (cc := cX1_fillFrom) (maxL := 3) (ret := none) (by decide) rfl (Nat.le_of_ble_eq_true rfl) ?_
  intro p e s m below meth c ls A hx hb hr hC hlk hnm hX hW hl
  have hml := hC.2.2.1
  have hown : s.vm.findClass RX1 = some m.cls := hC.2.2.2.1
  have hts := hC.2.2.2.2
  have hl : lv_has ls 3 [(0, .ref z), (1, .ref a)] := hl
  refine lv_iconst (v := nI 0) hx hb dX1_fillFrom_0 (by decide) ?_
  refine lv_istore_n (lv' := [(2, .int (nI 0)), (0, .ref z), (1, .ref a)]) hx hb dX1_fillFrom_1 rfl hl (by decide) rfl (fun ls hl => ?_)
  have loop_2 : ∀ (n : Nat) (j : Nat) (k : Nat → Int32), (j ≤ 29) → (k = fil (lk f) lf j) → (29 - j < n) → ∀ (H : Heap) (locs : List Loc) (ls : Array Slot), zW Z s A [(z, .inr (1, [.ref zl, .ref zt])), (zl, zI Z 29 k), (zt, zI Z 29 tk), (a, .inr (2, [.ref b])), (b, zI Z 290 f)] H locs → lv_has ls 3 [(2, .int (nI j)), (0, .ref z), (1, .ref a)] → W p l e rm_X1_fillFrom s m ([.ref z, .ref a] : List Value).toArray below meth c H locs 0 0 (MQ below (zQv Z (po_X1_fillFrom Z z zl zt lf tk a b f) (wp_X1_fillFrom Z z zl zt lf tk a b f) A) ([.ref z, .ref a] : List Value).toArray s 0 0 A) (F0 m 2 ls []) := by
    intro n
    induction n with
    | zero =>
      intro j k hj hk9 hm
      exact absurd hm (Nat.not_lt_zero _)
    | succ n ih =>
      intro j k hj hk9 hm H locs ls hW hl
      have ih_2 := ih
      refine lv_iload_n hx hb dX1_fillFrom_2 rfl (lv_at hl 0 rfl) ?_
      refine lv_bipush (v := nI 29) hx hb dX1_fillFrom_3 (by decide) ?_
      refine zn_icmp_ge (tgt := 25) (a := j) (b := 29) hx hb (by omega) (by omega) dX1_fillFrom_5 (by decide) (fun c_5 => ?_) (fun c_5 => ?_)
      · have hW := z_cong hW 1 rfl (f' := lk f) (by rw [hk9, show j = 29 by omega]; exact fil_end)
        have hW : zW Z s A [(z, .inr (1, [.ref zl, .ref zt])), (zl, zI Z 29 (lk f)), (zt, zI Z 29 tk), (a, .inr (2, [.ref b])), (b, zI Z 290 f)] _ _ := hW
        exact z_vret hx hb hr hlk hW () (trivial) (rfl) (by omega) (by omega) dX1_fillFrom_25
      · refine lv_aload_n hx hb dX1_fillFrom_8 rfl (lv_at hl 1 rfl) ?_
        refine z_get (C := RX1) (T := TX1) (N := 2) hx hb hts mw_X1_fillFrom_1 hown hX hW 0 rfl rfl 0 (by decide) mw_X1_fillFrom_0 (fun _ h9 => h9) rfl dX1_fillFrom_9 ?_
        refine lv_iload_n hx hb dX1_fillFrom_12 rfl (lv_at hl 0 rfl) ?_
        refine lv_aload_n hx hb dX1_fillFrom_13 rfl (lv_at hl 2 rfl) ?_
        refine lv_iload_n hx hb dX1_fillFrom_14 rfl (lv_at hl 0 rfl) ?_
        refine zc_i (va_runV (As := [.int (nI j)]) (rest := [.int (nI j), .ref zl]) hC (c_X2_ofSign l Z a b f j (by omega) _) (cwV 1 hts gX1_fillFrom_X2_ofSign rfl rfl rfl (by decide +kernel) ⟨Nat.le_of_ble_eq_true rfl, Nat.le_of_ble_eq_true rfl⟩) (zpreV (ci := 2) (q0 := 3) hX hW rfl rfl [3, 4] rfl (by decide)) rfl rfl hl.1 rfl (lv_room (Nat.le_of_ble_eq_true rfl)) dX1_fillFrom_15 ⟨Nat.le_of_ble_eq_true rfl, Nat.le_of_ble_eq_true rfl⟩) hX hW [3, 4] rfl (by decide) (fun _ => rfl) (fun r_15 u_15 H locs h_15 hW => ?_)
        have hW : zW Z s A [(z, .inr (1, [.ref zl, .ref zt])), (zl, zI Z 29 k), (zt, zI Z 29 tk), (a, .inr (2, [.ref b])), (b, zI Z 290 f)] _ _ := hW
        subst h_15
        refine z_iast hx hb hX hW 1 rfl (k := j) (by omega) (by omega) dX1_fillFrom_18 (fun H locs hW => ?_)
        have hW : zW Z s A [(z, .inr (1, [.ref zl, .ref zt])), (zl, zI Z 29 (upd k j (bx_sum (sg f j) 10))), (zt, zI Z 29 tk), (a, .inr (2, [.ref b])), (b, zI Z 290 f)] _ _ := hW
        refine lv_iinc (v := nI (j + 1)) (lv' := [(2, .int (nI (j + 1))), (0, .ref z), (1, .ref a)]) hx hb dX1_fillFrom_19 hl (k := 0) rfl (zinc1 _) (by decide) rfl (fun ls hl => ?_)
        refine lv_goto (tgt := 2) hx hb dX1_fillFrom_22 (by decide) ?_
        have hl : lv_has ls 3 [(2, .int (nI (j + 1))), (0, .ref z), (1, .ref a)] := lv_sub hl [0, 1, 2] rfl
        exact ih_2 (j + 1) (upd k j (bx_sum (sg f j) 10)) (by omega) (by rw [hk9]; exact fil_s (lk f) lf j) (by omega) _ _ _ hW hl
  have hl : lv_has ls 3 [(2, .int (nI 0)), (0, .ref z), (1, .ref a)] := lv_sub hl [0, 1, 2] rfl
  exact loop_2 _ 0 lf (by omega) (fil_0 _ _) (Nat.lt_succ_self _) _ _ _ hW hl
