abbrev wp_X2_ofSign (Z : zT) (a b : Nat) (f : Nat → Int32) (g : Nat) : Unit → va_W := fun (u : Unit) => [(a, .inr (2, [.ref b])), (b, zI Z 290 f)]
abbrev po_X2_ofSign (Z : zT) (a b : Nat) (f : Nat → Int32) (g : Nat) : Int32 → Unit → Prop := fun (r : Int32) (u : Unit) => r = bx_sum (sg f g) 10
abbrev rm_X2_ofSign : Room := { frames := 1, cells := 0, slots := 0, locals := 22 }
set_option maxHeartbeats 4000000 in
set_option maxRecDepth 100000 in
theorem c_X2_ofSign (l : Launch) (Z : zT) (a b : Nat) (f : Nat → Int32) (g : Nat) (hg : g < 29) : zMet l yX2_ofSign wsX2_ofSign rm_X2_ofSign [.ref a, .int (nI g)] Z [(a, .inr (2, [.ref b])), (b, zI Z 290 f)] (zQi Z (po_X2_ofSign Z a b f g) (wp_X2_ofSign Z a b f g)) 0 0 := by
  refine zstart (cc := cX2_ofSign) (maxL := 4) (ret := (some .int)) (by decide) rfl (Nat.le_of_ble_eq_true rfl) ?_
  intro p e s m below meth c ls A hx hb hr hC hlk hnm hX hW hl
  have hml := hC.2.2.1
  have hown : s.vm.findClass RX2 = some m.cls := hC.2.2.2.1
  have hts := hC.2.2.2.2
  have hl : lv_has ls 4 [(0, .ref a), (1, .int (nI g))] := hl
  refine lv_iconst (v := nI 0) hx hb dX2_ofSign_0 (by decide) ?_
  refine lv_istore_n (lv' := [(2, .int (nI 0)), (0, .ref a), (1, .int (nI g))]) hx hb dX2_ofSign_1 rfl hl (by decide) rfl (fun ls hl => ?_)
  refine lv_iconst (v := nI 0) hx hb dX2_ofSign_2 (by decide) ?_
  refine lv_istore_n (lv' := [(3, .int (nI 0)), (2, .int (nI 0)), (0, .ref a), (1, .int (nI g))]) hx hb dX2_ofSign_3 rfl hl (by decide) rfl (fun ls hl => ?_)
  have loop_4 : ∀ (n : Nat) (j : Nat), (j ≤ 10) → (10 - j < n) → ∀ (H : Heap) (locs : List Loc) (ls : Array Slot), zW Z s A [(a, .inr (2, [.ref b])), (b, zI Z 290 f)] H locs → lv_has ls 4 [(3, .int (nI j)), (2, .int (bx_sum (sg f g) j)), (0, .ref a), (1, .int (nI g))] → W p l e rm_X2_ofSign s m ([.ref a, .int (nI g)] : List Value).toArray below meth c H locs 0 0 (MQ below (zQi Z (po_X2_ofSign Z a b f g) (wp_X2_ofSign Z a b f g) A) ([.ref a, .int (nI g)] : List Value).toArray s 0 0 A) (F0 m 4 ls []) := by
    intro n
    induction n with
    | zero =>
      intro j hj hm
      exact absurd hm (Nat.not_lt_zero _)
    | succ n ih =>
      intro j hj hm H locs ls hW hl
      have ih_4 := ih
      refine lv_iload_n hx hb dX2_ofSign_4 rfl (lv_at hl 0 rfl) ?_
      refine lv_bipush (v := nI 10) hx hb dX2_ofSign_5 (by decide) ?_
      refine zn_icmp_ge (tgt := 25) (a := j) (b := 10) hx hb (by omega) (by omega) dX2_ofSign_7 (by decide) (fun c_7 => ?_) (fun c_7 => ?_)
      · refine lv_iload_n hx hb dX2_ofSign_25 rfl (lv_at hl 1 rfl) ?_
        exact z_iret hx hb hr hlk hW () (by rw [show j = 10 by omega]) (rfl) (by omega) (by omega) dX2_ofSign_26
      · refine lv_iload_n hx hb dX2_ofSign_10 rfl (lv_at hl 1 rfl) ?_
        refine lv_aload_n hx hb dX2_ofSign_11 rfl (lv_at hl 2 rfl) ?_
        refine lv_iload_n hx hb dX2_ofSign_12 rfl (lv_at hl 3 rfl) ?_
        refine lv_iload_n hx hb dX2_ofSign_13 rfl (lv_at hl 0 rfl) ?_
        refine zc_i (va_runV (As := [.int (nI g), .int (nI j)]) (rest := [.int (bx_sum (sg f g) j)]) hC (c_X2_at l Z a b f g j (by omega) (by omega) _) (cwV 2 hts gX2_ofSign_X2_at rfl rfl rfl (by decide +kernel) ⟨Nat.le_of_ble_eq_true rfl, Nat.le_of_ble_eq_true rfl⟩) (zpreV (ci := 2) (q0 := 0) hX hW rfl rfl [0, 1] rfl (by decide)) rfl rfl hl.1 rfl (lv_room (Nat.le_of_ble_eq_true rfl)) dX2_ofSign_14 ⟨Nat.le_of_ble_eq_true rfl, Nat.le_of_ble_eq_true rfl⟩) hX hW [0, 1] rfl (by decide) (fun _ => rfl) (fun r_14 u_14 H locs h_14 hW => ?_)
        have hW : zW Z s A [(a, .inr (2, [.ref b])), (b, zI Z 290 f)] _ _ := hW
        subst h_14
        refine lv_iadd hx hb dX2_ofSign_17 ?_
        refine lv_istore_n (lv' := [(2, .int ((bx_sum (sg f g) j) + (f (g * 10 + j)))), (3, .int (nI j)), (0, .ref a), (1, .int (nI g))]) hx hb dX2_ofSign_18 rfl hl (by decide) rfl (fun ls hl => ?_)
        refine lv_iinc (v := nI (j + 1)) (lv' := [(3, .int (nI (j + 1))), (2, .int ((bx_sum (sg f g) j) + (f (g * 10 + j)))), (0, .ref a), (1, .int (nI g))]) hx hb dX2_ofSign_19 hl (k := 1) rfl (zinc1 _) (by decide) rfl (fun ls hl => ?_)
        refine lv_goto (tgt := 4) hx hb dX2_ofSign_22 (by decide) ?_
        have hl : lv_has ls 4 [(3, .int (nI (j + 1))), (2, .int (bx_sum (sg f g) (j + 1))), (0, .ref a), (1, .int (nI g))] := lv_sub hl [0, 1, 2, 3] rfl
        exact ih_4 (j + 1) (by omega) (by omega) _ _ _ hW hl
  have hl : lv_has ls 4 [(3, .int (nI 0)), (2, .int (bx_sum (sg f g) 0)), (0, .ref a), (1, .int (nI g))] := lv_sub hl [0, 1, 2, 3] rfl
  exact loop_4 _ 0 (by omega) (Nat.lt_succ_self _) _ _ _ hW hl
