abbrev wp_X2_moveLeastWorn (Z : zT) (a b a2 b2 : Nat) (f h : Nat → Int32) (g : Nat) (q : Int32) : Unit → va_W := fun (u : Unit) => [(a, .inr (2, [.ref b])), (b, zI Z 290 ((mvS oU g q f h 10).2.2.1)), (a2, .inr (2, [.ref b2])), (b2, zI Z 290 ((mvS oU g q f h 10).2.2.2))]
abbrev po_X2_moveLeastWorn (Z : zT) (a b a2 b2 : Nat) (f h : Nat → Int32) (g : Nat) (q : Int32) : Int32 → Unit → Prop := fun (r : Int32) (u : Unit) => r = (mvS oU g q f h 10).2.1
abbrev rm_X2_moveLeastWorn : Room := { frames := 2, cells := 0, slots := 0, locals := 48 }
set_option maxHeartbeats 4000000 in
set_option maxRecDepth 100000 in
theorem c_X2_moveLeastWorn (l : Launch) (Z : zT) (a b a2 b2 : Nat) (f h : Nat → Int32) (g : Nat) (q : Int32) (hg : g < 29) : zMet l yX2_moveLeastWorn wsX2_moveLeastWorn rm_X2_moveLeastWorn [.ref a, .ref a2, .int (nI g), .int q] Z [(a, .inr (2, [.ref b])), (b, zI Z 290 f), (a2, .inr (2, [.ref b2])), (b2, zI Z 290 h)] (zQi Z (po_X2_moveLeastWorn Z a b a2 b2 f h g q) (wp_X2_moveLeastWorn Z a b a2 b2 f h g q)) 0 0 := by
  refine zstart (cc := cX2_moveLeastWorn) (maxL := 8) (ret := (some .int)) (by decide) rfl (Nat.le_of_ble_eq_true rfl) ?_
  intro p e s m below meth c ls A hx hb hr hC hlk hnm hX hW hl
  have hml := hC.2.2.1
  have hown : s.vm.findClass RX2 = some m.cls := hC.2.2.2.1
  have hts := hC.2.2.2.2
  have hl : lv_has ls 8 [(0, .ref a), (1, .ref a2), (2, .int (nI g)), (3, .int q)] := hl
  refine lv_iconst (v := nI 0) hx hb dX2_moveLeastWorn_0 (by decide) ?_
  refine lv_istore (lv' := [(4, .int (nI 0)), (0, .ref a), (1, .ref a2), (2, .int (nI g)), (3, .int q)]) hx hb dX2_moveLeastWorn_1 hl (by decide) rfl (fun ls hl => ?_)
  refine lv_iload_n hx hb dX2_moveLeastWorn_3 rfl (lv_at hl 4 rfl) ?_
  refine lv_istore (lv' := [(5, .int q), (4, .int (nI 0)), (0, .ref a), (1, .ref a2), (2, .int (nI g)), (3, .int q)]) hx hb dX2_moveLeastWorn_4 hl (by decide) rfl (fun ls hl => ?_)
  refine lv_iconst (v := nI 0) hx hb dX2_moveLeastWorn_6 (by decide) ?_
  refine lv_istore (lv' := [(6, .int (nI 0)), (5, .int q), (4, .int (nI 0)), (0, .ref a), (1, .ref a2), (2, .int (nI g)), (3, .int q)]) hx hb dX2_moveLeastWorn_7 hl (by decide) rfl (fun ls hl => ?_)
  have loop_9 : ∀ (n : Nat) (j : Nat), (j ≤ 10) → (10 - j < n) → ∀ (H : Heap) (locs : List Loc) (ls : Array Slot), zW Z s A [(a, .inr (2, [.ref b])), (b, zI Z 290 ((mvS oU g q f h j).2.2.1)), (a2, .inr (2, [.ref b2])), (b2, zI Z 290 ((mvS oU g q f h j).2.2.2))] H locs → lv_has ls 8 [(6, .int (nI j)), (5, .int ((mvS oU g q f h j).1)), (4, .int ((mvS oU g q f h j).2.1)), (0, .ref a), (1, .ref a2), (2, .int (nI g)), (3, .int q)] → W p l e rm_X2_moveLeastWorn s m ([.ref a, .ref a2, .int (nI g), .int q] : List Value).toArray below meth c H locs 0 0 (MQ below (zQi Z (po_X2_moveLeastWorn Z a b a2 b2 f h g q) (wp_X2_moveLeastWorn Z a b a2 b2 f h g q) A) ([.ref a, .ref a2, .int (nI g), .int q] : List Value).toArray s 0 0 A) (F0 m 9 ls []) := by
    intro n
    induction n with
    | zero =>
      intro j hj hm
      exact absurd hm (Nat.not_lt_zero _)
    | succ n ih =>
      intro j hj hm H locs ls hW hl
      have ih_9 := ih
      refine lv_iload hx hb dX2_moveLeastWorn_9 (lv_at hl 0 rfl) ?_
      refine lv_bipush (v := nI 10) hx hb dX2_moveLeastWorn_11 (by decide) ?_
      refine zn_icmp_ge (tgt := 51) (a := j) (b := 10) hx hb (by omega) (by omega) dX2_moveLeastWorn_13 (by decide) (fun c_13 => ?_) (fun c_13 => ?_)
      · refine lv_iload hx hb dX2_moveLeastWorn_51 (lv_at hl 2 rfl) ?_
        exact z_iret hx hb hr hlk hW () (by rw [show j = 10 by omega]) (by rw [show j = 10 by omega]) (by omega) (by omega) dX2_moveLeastWorn_53
      · refine lv_aload_n hx hb dX2_moveLeastWorn_16 rfl (lv_at hl 3 rfl) ?_
        refine lv_aload_n hx hb dX2_moveLeastWorn_17 rfl (lv_at hl 4 rfl) ?_
        refine lv_iload_n hx hb dX2_moveLeastWorn_18 rfl (lv_at hl 5 rfl) ?_
        refine lv_iload hx hb dX2_moveLeastWorn_19 (lv_at hl 0 rfl) ?_
        refine lv_iload hx hb dX2_moveLeastWorn_21 (lv_at hl 1 rfl) ?_
        refine zc_i (va_runV (As := [.ref a2, .int (nI g), .int (nI j), .int ((mvS oU g q f h j).1)]) (rest := []) hC (c_X2_moveAt l Z a b a2 b2 ((mvS oU g q f h j).2.2.1) ((mvS oU g q f h j).2.2.2) g j ((mvS oU g q f h j).1) (by omega) (by omega) _) (cwV 4 hts gX2_moveLeastWorn_X2_moveAt rfl rfl rfl (by decide +kernel) ⟨Nat.le_of_ble_eq_true rfl, Nat.le_of_ble_eq_true rfl⟩) (zpreV (ci := 2) (q0 := 0) hX hW rfl rfl [0, 1, 2, 3] rfl (by decide)) rfl rfl hl.1 rfl (lv_room (Nat.le_of_ble_eq_true rfl)) dX2_moveLeastWorn_23 ⟨Nat.le_of_ble_eq_true rfl, Nat.le_of_ble_eq_true rfl⟩) hX hW [0, 1, 2, 3] rfl (by decide) (fun _ => rfl) (fun r_23 u_23 H locs h_23 hW => ?_)
        have hW : zW Z s A [(a, .inr (2, [.ref b])), (b, zI Z 290 (upd ((mvS oU g q f h j).2.2.1) (g * 10 + j) (((mvS oU g q f h j).2.2.1) (g * 10 + j) + -mn ((mvS oU g q f h j).1) (((mvS oU g q f h j).2.2.1) (g * 10 + j))))), (a2, .inr (2, [.ref b2])), (b2, zI Z 290 (upd ((mvS oU g q f h j).2.2.2) (g * 10 + j) (((mvS oU g q f h j).2.2.2) (g * 10 + j) + mn ((mvS oU g q f h j).1) (((mvS oU g q f h j).2.2.1) (g * 10 + j)))))] _ _ := hW
        subst h_23
        refine lv_istore (lv' := [(7, .int (mn ((mvS oU g q f h j).1) (((mvS oU g q f h j).2.2.1) (g * 10 + j)))), (6, .int (nI j)), (5, .int ((mvS oU g q f h j).1)), (4, .int ((mvS oU g q f h j).2.1)), (0, .ref a), (1, .ref a2), (2, .int (nI g)), (3, .int q)]) hx hb dX2_moveLeastWorn_26 hl (by decide) rfl (fun ls hl => ?_)
        refine lv_iload hx hb dX2_moveLeastWorn_28 (lv_at hl 2 rfl) ?_
        refine lv_iload hx hb dX2_moveLeastWorn_30 (lv_at hl 0 rfl) ?_
        refine lv_isub hx hb dX2_moveLeastWorn_32 ?_
        refine lv_istore (lv' := [(5, .int (((mvS oU g q f h j).1) - (mn ((mvS oU g q f h j).1) (((mvS oU g q f h j).2.2.1) (g * 10 + j))))), (7, .int (mn ((mvS oU g q f h j).1) (((mvS oU g q f h j).2.2.1) (g * 10 + j)))), (6, .int (nI j)), (4, .int ((mvS oU g q f h j).2.1)), (0, .ref a), (1, .ref a2), (2, .int (nI g)), (3, .int q)]) hx hb dX2_moveLeastWorn_33 hl (by decide) rfl (fun ls hl => ?_)
        refine lv_iload hx hb dX2_moveLeastWorn_35 (lv_at hl 3 rfl) ?_
        refine lv_iload hx hb dX2_moveLeastWorn_37 (lv_at hl 1 rfl) ?_
        refine lv_iload hx hb dX2_moveLeastWorn_39 (lv_at hl 2 rfl) ?_
        refine lv_imul hx hb dX2_moveLeastWorn_41 ?_
        refine lv_iadd hx hb dX2_moveLeastWorn_42 ?_
        refine lv_istore (lv' := [(4, .int (((mvS oU g q f h j).2.1) + ((mn ((mvS oU g q f h j).1) (((mvS oU g q f h j).2.2.1) (g * 10 + j))) * (nI j)))), (5, .int (((mvS oU g q f h j).1) - (mn ((mvS oU g q f h j).1) (((mvS oU g q f h j).2.2.1) (g * 10 + j))))), (7, .int (mn ((mvS oU g q f h j).1) (((mvS oU g q f h j).2.2.1) (g * 10 + j)))), (6, .int (nI j)), (0, .ref a), (1, .ref a2), (2, .int (nI g)), (3, .int q)]) hx hb dX2_moveLeastWorn_43 hl (by decide) rfl (fun ls hl => ?_)
        refine lv_iinc (v := nI (j + 1)) (lv' := [(6, .int (nI (j + 1))), (4, .int (((mvS oU g q f h j).2.1) + ((mn ((mvS oU g q f h j).1) (((mvS oU g q f h j).2.2.1) (g * 10 + j))) * (nI j)))), (5, .int (((mvS oU g q f h j).1) - (mn ((mvS oU g q f h j).1) (((mvS oU g q f h j).2.2.1) (g * 10 + j))))), (7, .int (mn ((mvS oU g q f h j).1) (((mvS oU g q f h j).2.2.1) (g * 10 + j)))), (0, .ref a), (1, .ref a2), (2, .int (nI g)), (3, .int q)]) hx hb dX2_moveLeastWorn_45 hl (k := 3) rfl (zinc1 _) (by decide) rfl (fun ls hl => ?_)
        refine lv_goto (tgt := 9) hx hb dX2_moveLeastWorn_48 (by decide) ?_
        have hl : lv_has ls 8 [(6, .int (nI (j + 1))), (5, .int ((mvS oU g q f h (j + 1)).1)), (4, .int ((mvS oU g q f h (j + 1)).2.1)), (0, .ref a), (1, .ref a2), (2, .int (nI g)), (3, .int q)] := lv_sub hl [0, 2, 1, 4, 5, 6, 7] rfl
        have hW : zW Z s A [(a, .inr (2, [.ref b])), (b, zI Z 290 ((mvS oU g q f h (j + 1)).2.2.1)), (a2, .inr (2, [.ref b2])), (b2, zI Z 290 ((mvS oU g q f h (j + 1)).2.2.2))] _ _ := hW
        exact ih_9 (j + 1) (by omega) (by omega) _ _ _ hW hl
  have hl : lv_has ls 8 [(6, .int (nI 0)), (5, .int ((mvS oU g q f h 0).1)), (4, .int ((mvS oU g q f h 0).2.1)), (0, .ref a), (1, .ref a2), (2, .int (nI g)), (3, .int q)] := lv_sub hl [0, 1, 2, 3, 4, 5, 6] rfl
  have hW : zW Z s A [(a, .inr (2, [.ref b])), (b, zI Z 290 ((mvS oU g q f h 0).2.2.1)), (a2, .inr (2, [.ref b2])), (b2, zI Z 290 ((mvS oU g q f h 0).2.2.2))] _ _ := hW
  exact loop_9 _ 0 (by omega) (Nat.lt_succ_self _) _ _ _ hW hl
