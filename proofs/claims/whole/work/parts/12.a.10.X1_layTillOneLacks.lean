abbrev wp_X1_layTillOneLacks (Z : zT) (z zl zt : Nat) (lf tk : Nat → Int32) (a b : Nat) (L : Nat → Int32) (k : Nat) (t : Nat → Nat) : (Nat → Int32) × (Nat → Int32) → va_W := fun (u : (Nat → Int32) × (Nat → Int32)) => match u with | (lf2, tk2) => [(z, .inr (1, [.ref zl, .ref zt])), (zl, zI Z 29 lf2), (zt, zI Z 29 tk2), (a, .inr (3, [.ref b, .int (nI (6 - k))])), (b, zI Z 6 L)]
abbrev po_X1_layTillOneLacks (Z : zT) (z zl zt : Nat) (lf tk : Nat → Int32) (a b : Nat) (L : Nat → Int32) (k : Nat) (t : Nat → Nat) : Int32 → (Nat → Int32) × (Nat → Int32) → Prop := fun (r : Int32) (u : (Nat → Int32) × (Nat → Int32)) => match u with | (lf2, tk2) => r = lt1 t k 1000 0 lf
abbrev rm_X1_layTillOneLacks : Room := { frames := 4, cells := 0, slots := 0, locals := 89 }
set_option maxHeartbeats 4000000 in
set_option maxRecDepth 100000 in
theorem c_X1_layTillOneLacks (l : Launch) (Z : zT) (z zl zt : Nat) (lf tk : Nat → Int32) (a b : Nat) (L : Nat → Int32) (k : Nat) (t : Nat → Nat) (hw9 : wdC k t L) : zMet l yX1_layTillOneLacks wsX1_layTillOneLacks rm_X1_layTillOneLacks [.ref z, .ref a] Z [(z, .inr (1, [.ref zl, .ref zt])), (zl, zI Z 29 lf), (zt, zI Z 29 tk), (a, .inr (3, [.ref b, .int (nI (6 - k))])), (b, zI Z 6 L)] (zQi Z (po_X1_layTillOneLacks Z z zl zt lf tk a b L k t) (wp_X1_layTillOneLacks Z z zl zt lf tk a b L k t)) 0 0 := by
  refine zstart (cc := cX1_layTillOneLacks) (maxL := 4) (ret := (some .int)) (by decide) rfl (Nat.le_of_ble_eq_true rfl) ?_
  intro p e s m below meth c ls A hx hb hr hC hlk hnm hX hW hl
  have hml := hC.2.2.1
  have hown : s.vm.findClass RX1 = some m.cls := hC.2.2.2.1
  have hts := hC.2.2.2.2
  have hl : lv_has ls 4 [(0, .ref z), (1, .ref a)] := hl
  refine lv_iconst (v := nI 0) hx hb dX1_layTillOneLacks_0 (by decide) ?_
  refine lv_istore_n (lv' := [(2, .int (nI 0)), (0, .ref z), (1, .ref a)]) hx hb dX1_layTillOneLacks_1 rfl hl (by decide) rfl (fun ls hl => ?_)
  refine lv_iconst (v := nI 0) hx hb dX1_layTillOneLacks_2 (by decide) ?_
  refine lv_istore_n (lv' := [(3, .int (nI 0)), (2, .int (nI 0)), (0, .ref z), (1, .ref a)]) hx hb dX1_layTillOneLacks_3 rfl hl (by decide) rfl (fun ls hl => ?_)
  have loop_4 : ∀ (n : Nat) (j : Nat) (x : Int32) (lf1 : Nat → Int32) (tk1 : Nat → Int32), (j ≤ 1000) → (lt1 t k 1000 0 lf = lt1 t k (1000 - j) x lf1) → (1000 - j < n) → ∀ (H : Heap) (locs : List Loc) (ls : Array Slot), zW Z s A [(z, .inr (1, [.ref zl, .ref zt])), (zl, zI Z 29 lf1), (zt, zI Z 29 tk1), (a, .inr (3, [.ref b, .int (nI (6 - k))])), (b, zI Z 6 L)] H locs → lv_has ls 4 [(3, .int (nI j)), (2, .int x), (0, .ref z), (1, .ref a)] → W p l e rm_X1_layTillOneLacks s m ([.ref z, .ref a] : List Value).toArray below meth c H locs 0 0 (MQ below (zQi Z (po_X1_layTillOneLacks Z z zl zt lf tk a b L k t) (wp_X1_layTillOneLacks Z z zl zt lf tk a b L k t) A) ([.ref z, .ref a] : List Value).toArray s 0 0 A) (F0 m 4 ls []) := by
    intro n
    induction n with
    | zero =>
      intro j x lf1 tk1 hj hE hm
      exact absurd hm (Nat.not_lt_zero _)
    | succ n ih =>
      intro j x lf1 tk1 hj hE hm H locs ls hW hl
      have ih_4 := ih
      refine lv_iload_n hx hb dX1_layTillOneLacks_4 rfl (lv_at hl 0 rfl) ?_
      refine lv_sipush (v := nI 1000) hx hb dX1_layTillOneLacks_5 (by decide) ?_
      refine zn_icmp_ge (tgt := 37) (a := j) (b := 1000) hx hb (by omega) (by omega) dX1_layTillOneLacks_8 (by decide) (fun c_8 => ?_) (fun c_8 => ?_)
      · refine lv_iload_n hx hb dX1_layTillOneLacks_37 rfl (lv_at hl 1 rfl) ?_
        exact z_iret hx hb hr hlk hW (lf1, tk1) (by unfold po_X1_layTillOneLacks; rw [hE, show 1000 - j = 0 by omega]; rfl) (rfl) (by omega) (by omega) dX1_layTillOneLacks_38
      · refine lv_aload_n hx hb dX1_layTillOneLacks_11 rfl (lv_at hl 2 rfl) ?_
        refine lv_aload_n hx hb dX1_layTillOneLacks_12 rfl (lv_at hl 3 rfl) ?_
        refine zc_i (va_runV (As := [.ref a]) (rest := []) hC (c_X1_lay l Z z zl zt lf1 tk1 a b L k t hw9 _) (cwV 1 hts gX1_layTillOneLacks_X1_lay rfl rfl rfl (by decide +kernel) ⟨Nat.le_of_ble_eq_true rfl, Nat.le_of_ble_eq_true rfl⟩) (zpreV (ci := 1) (q0 := 0) hX hW rfl rfl [0, 1, 2, 3, 4] rfl (by decide)) rfl rfl hl.1 rfl (lv_room (Nat.le_of_ble_eq_true rfl)) dX1_layTillOneLacks_13 ⟨Nat.le_of_ble_eq_true rfl, Nat.le_of_ble_eq_true rfl⟩) hX hW [0, 1, 2, 3, 4] rfl (by decide) (fun _ => rfl) (fun r_13 u_13 H locs h_13 hW => ?_)
        have hW : zW Z s A [(z, .inr (1, [.ref zl, .ref zt])), (zl, zI Z 29 ((ly0 t k lf1).2.1)), (zt, zI Z 29 ((ly0 t k lf1).2.2)), (a, .inr (3, [.ref b, .int (nI (6 - k))])), (b, zI Z 6 L)] _ _ := hW
        subst h_13
        refine lv_iconst (v := nI 1) hx hb dX1_layTillOneLacks_16 (by decide) ?_
        refine lv_icmp_ge (tgt := 22) hx hb dX1_layTillOneLacks_17 (by decide) (fun c_17 => ?_) (fun c_17 => ?_)
        · refine lv_iload_n hx hb dX1_layTillOneLacks_22 rfl (lv_at hl 1 rfl) ?_
          refine lv_iconst (v := nI 1) hx hb dX1_layTillOneLacks_23 (by decide) ?_
          refine lv_aload_n hx hb dX1_layTillOneLacks_24 rfl (lv_at hl 2 rfl) ?_
          refine zc_i (va_runV (As := []) (rest := [.int (nI 1), .int x]) hC (c_X1_layTheSameAgain l Z z zl zt ((ly0 t k lf1).2.1) ((ly0 t k lf1).2.2)  _) (cwV 0 hts gX1_layTillOneLacks_X1_layTheSameAgain rfl rfl rfl (by decide +kernel) ⟨Nat.le_of_ble_eq_true rfl, Nat.le_of_ble_eq_true rfl⟩) (zpreV (ci := 1) (q0 := 0) hX hW rfl rfl [0, 1, 2] rfl (by decide)) rfl rfl hl.1 rfl (lv_room (Nat.le_of_ble_eq_true rfl)) dX1_layTillOneLacks_25 ⟨Nat.le_of_ble_eq_true rfl, Nat.le_of_ble_eq_true rfl⟩) hX hW [0, 1, 2] rfl (by decide) (fun _ => rfl) (fun r_25 u_25 H locs h_25 hW => ?_)
          have hW : zW Z s A [(z, .inr (1, [.ref zl, .ref zt])), (zl, zI Z 29 (sa ((ly0 t k lf1).2.1) ((ly0 t k lf1).2.2))), (zt, zI Z 29 ((ly0 t k lf1).2.2)), (a, .inr (3, [.ref b, .int (nI (6 - k))])), (b, zI Z 6 L)] _ _ := hW
          subst h_25
          refine lv_iadd hx hb dX1_layTillOneLacks_28 ?_
          refine lv_iadd hx hb dX1_layTillOneLacks_29 ?_
          refine lv_istore_n (lv' := [(2, .int (x + ((nI 1) + (ag ((ly0 t k lf1).2.1) ((ly0 t k lf1).2.2) 29)))), (3, .int (nI j)), (0, .ref z), (1, .ref a)]) hx hb dX1_layTillOneLacks_30 rfl hl (by decide) rfl (fun ls hl => ?_)
          refine lv_iinc (v := nI (j + 1)) (lv' := [(3, .int (nI (j + 1))), (2, .int (x + ((nI 1) + (ag ((ly0 t k lf1).2.1) ((ly0 t k lf1).2.2) 29)))), (0, .ref z), (1, .ref a)]) hx hb dX1_layTillOneLacks_31 hl (k := 1) rfl (zinc1 _) (by decide) rfl (fun ls hl => ?_)
          refine lv_goto (tgt := 4) hx hb dX1_layTillOneLacks_34 (by decide) ?_
          have hl : lv_has ls 4 [(3, .int (nI (j + 1))), (2, .int (x + ((nI 1) + (ag ((ly0 t k lf1).2.1) ((ly0 t k lf1).2.2) 29)))), (0, .ref z), (1, .ref a)] := lv_sub hl [0, 1, 2, 3] rfl
          exact ih_4 (j + 1) (x + ((nI 1) + (ag ((ly0 t k lf1).2.1) ((ly0 t k lf1).2.2) 29))) (sa ((ly0 t k lf1).2.1) ((ly0 t k lf1).2.2)) ((ly0 t k lf1).2.2) (by omega) (by rw [hE, lt1_s (by omega) c_17]; rfl) (by omega) _ _ _ hW hl
        · refine lv_iload_n hx hb dX1_layTillOneLacks_20 rfl (lv_at hl 1 rfl) ?_
          exact z_iret hx hb hr hlk hW ((ly0 t k lf1).2.1, (ly0 t k lf1).2.2) (by unfold po_X1_layTillOneLacks; rw [hE, lt1_no c_17]) (rfl) (by omega) (by omega) dX1_layTillOneLacks_21
  have hl : lv_has ls 4 [(3, .int (nI 0)), (2, .int (nI 0)), (0, .ref z), (1, .ref a)] := lv_sub hl [0, 1, 2, 3] rfl
  exact loop_4 _ 0 (nI 0) lf tk (by omega) rfl (Nat.lt_succ_self _) _ _ _ hW hl
