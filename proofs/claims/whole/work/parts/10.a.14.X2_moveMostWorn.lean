abbrev wp_X2_moveMostWorn (Z : zT) (a b a2 b2 : Nat) (f h : Nat → Int32) (g : Nat) (q : Int32) : Unit → va_W := fun (u : Unit) => [(a, .inr (2, [.ref b])), (b, zI Z 290 ((mvS oD g q f h 10).2.2.1)), (a2, .inr (2, [.ref b2])), (b2, zI Z 290 ((mvS oD g q f h 10).2.2.2))]
abbrev po_X2_moveMostWorn (Z : zT) (a b a2 b2 : Nat) (f h : Nat → Int32) (g : Nat) (q : Int32) : Int32 → Unit → Prop := fun (r : Int32) (u : Unit) => r = (mvS oD g q f h 10).2.1
abbrev rm_X2_moveMostWorn : Room := { frames := 2, cells := 0, slots := 0, locals := 48 }
set_option maxHeartbeats 4000000 in
set_option maxRecDepth 100000 in
theorem c_X2_moveMostWorn (l : Launch) (Z : zT) (a b a2 b2 : Nat) (f h : Nat → Int32) (g : Nat) (q : Int32) (hg : g < 29) : zMet l yX2_moveMostWorn wsX2_moveMostWorn rm_X2_moveMostWorn [.ref a, .ref a2, .int (nI g), .int q] Z [(a, .inr (2, [.ref b])), (b, zI Z 290 f), (a2, .inr (2, [.ref b2])), (b2, zI Z 290 h)] (zQi Z (po_X2_moveMostWorn Z a b a2 b2 f h g q) (wp_X2_moveMostWorn Z a b a2 b2 f h g q)) 0 0 := by
  refine zstart (cc := cX2_moveMostWorn) (maxL := 8) (ret := (some .int)) (by decide) rfl (Nat.le_of_ble_eq_true rfl) ?_
  intro p e s m below meth c ls A hx hb hr hC hlk hnm hX hW hl
  have hml := hC.2.2.1
  have hown : s.vm.findClass RX2 = some m.cls := hC.2.2.2.1
  have hts := hC.2.2.2.2
  have hl : lv_has ls 8 [(0, .ref a), (1, .ref a2), (2, .int (nI g)), (3, .int q)] := hl
  refine lv_iconst (v := nI 0) hx hb dX2_moveMostWorn_0 (by decide) ?_
  refine lv_istore (lv' := [(4, .int (nI 0)), (0, .ref a), (1, .ref a2), (2, .int (nI g)), (3, .int q)]) hx hb dX2_moveMostWorn_1 hl (by decide) rfl (fun ls hl => ?_)
  refine lv_iload_n hx hb dX2_moveMostWorn_3 rfl (lv_at hl 4 rfl) ?_
  refine lv_istore (lv' := [(5, .int q), (4, .int (nI 0)), (0, .ref a), (1, .ref a2), (2, .int (nI g)), (3, .int q)]) hx hb dX2_moveMostWorn_4 hl (by decide) rfl (fun ls hl => ?_)
  refine lv_bipush (v := nI 9) hx hb dX2_moveMostWorn_6 (by decide) ?_
  refine lv_istore (lv' := [(6, .int (nI 9)), (5, .int q), (4, .int (nI 0)), (0, .ref a), (1, .ref a2), (2, .int (nI g)), (3, .int q)]) hx hb dX2_moveMostWorn_8 hl (by decide) rfl (fun ls hl => ?_)
  have loop_10 : ∀ (n : Nat) (j : Nat), (j ≤ 10) → (10 - j < n) → ∀ (H : Heap) (locs : List Loc) (ls : Array Slot), zW Z s A [(a, .inr (2, [.ref b])), (b, zI Z 290 ((mvS oD g q f h j).2.2.1)), (a2, .inr (2, [.ref b2])), (b2, zI Z 290 ((mvS oD g q f h j).2.2.2))] H locs → lv_has ls 8 [(6, .int (w9 j)), (5, .int ((mvS oD g q f h j).1)), (4, .int ((mvS oD g q f h j).2.1)), (0, .ref a), (1, .ref a2), (2, .int (nI g)), (3, .int q)] → W p l e rm_X2_moveMostWorn s m ([.ref a, .ref a2, .int (nI g), .int q] : List Value).toArray below meth c H locs 0 0 (MQ below (zQi Z (po_X2_moveMostWorn Z a b a2 b2 f h g q) (wp_X2_moveMostWorn Z a b a2 b2 f h g q) A) ([.ref a, .ref a2, .int (nI g), .int q] : List Value).toArray s 0 0 A) (F0 m 10 ls []) := by
    intro n
    induction n with
    | zero =>
      intro j hj hm
      exact absurd hm (Nat.not_lt_zero _)
    | succ n ih =>
      intro j hj hm H locs ls hW hl
      have ih_10 := ih
      rcases Nat.lt_or_ge j 10 with hj10 | hj10
      · rw [w9_lt hj10] at hl
        have hl : lv_has ls 8 [(6, .int (nI (9 - j))), (5, .int ((mvS oD g q f h j).1)), (4, .int ((mvS oD g q f h j).2.1)), (0, .ref a), (1, .ref a2), (2, .int (nI g)), (3, .int q)] := hl
        refine lv_iload hx hb dX2_moveMostWorn_10 (lv_at hl 0 rfl) ?_
        refine zn_if_lt (tgt := 50) (a := (9 - j)) hx hb (by omega) dX2_moveMostWorn_12 (by decide) ?_
        refine lv_aload_n hx hb dX2_moveMostWorn_15 rfl (lv_at hl 3 rfl) ?_
        refine lv_aload_n hx hb dX2_moveMostWorn_16 rfl (lv_at hl 4 rfl) ?_
        refine lv_iload_n hx hb dX2_moveMostWorn_17 rfl (lv_at hl 5 rfl) ?_
        refine lv_iload hx hb dX2_moveMostWorn_18 (lv_at hl 0 rfl) ?_
        refine lv_iload hx hb dX2_moveMostWorn_20 (lv_at hl 1 rfl) ?_
        refine zc_i (va_runV (As := [.ref a2, .int (nI g), .int (nI (9 - j)), .int ((mvS oD g q f h j).1)]) (rest := []) hC (c_X2_moveAt l Z a b a2 b2 ((mvS oD g q f h j).2.2.1) ((mvS oD g q f h j).2.2.2) g (9 - j) ((mvS oD g q f h j).1) (by omega) (by omega) _) (cwV 4 hts gX2_moveMostWorn_X2_moveAt rfl rfl rfl (by decide +kernel) ⟨Nat.le_of_ble_eq_true rfl, Nat.le_of_ble_eq_true rfl⟩) (zpreV (ci := 2) (q0 := 0) hX hW rfl rfl [0, 1, 2, 3] rfl (by decide)) rfl rfl hl.1 rfl (lv_room (Nat.le_of_ble_eq_true rfl)) dX2_moveMostWorn_22 ⟨Nat.le_of_ble_eq_true rfl, Nat.le_of_ble_eq_true rfl⟩) hX hW [0, 1, 2, 3] rfl (by decide) (fun _ => rfl) (fun r_22 u_22 H locs h_22 hW => ?_)
        have hW : zW Z s A [(a, .inr (2, [.ref b])), (b, zI Z 290 (upd ((mvS oD g q f h j).2.2.1) (g * 10 + (9 - j)) (((mvS oD g q f h j).2.2.1) (g * 10 + (9 - j)) + -mn ((mvS oD g q f h j).1) (((mvS oD g q f h j).2.2.1) (g * 10 + (9 - j)))))), (a2, .inr (2, [.ref b2])), (b2, zI Z 290 (upd ((mvS oD g q f h j).2.2.2) (g * 10 + (9 - j)) (((mvS oD g q f h j).2.2.2) (g * 10 + (9 - j)) + mn ((mvS oD g q f h j).1) (((mvS oD g q f h j).2.2.1) (g * 10 + (9 - j))))))] _ _ := hW
        subst h_22
        refine lv_istore (lv' := [(7, .int (mn ((mvS oD g q f h j).1) (((mvS oD g q f h j).2.2.1) (g * 10 + (9 - j))))), (6, .int (nI (9 - j))), (5, .int ((mvS oD g q f h j).1)), (4, .int ((mvS oD g q f h j).2.1)), (0, .ref a), (1, .ref a2), (2, .int (nI g)), (3, .int q)]) hx hb dX2_moveMostWorn_25 hl (by decide) rfl (fun ls hl => ?_)
        refine lv_iload hx hb dX2_moveMostWorn_27 (lv_at hl 2 rfl) ?_
        refine lv_iload hx hb dX2_moveMostWorn_29 (lv_at hl 0 rfl) ?_
        refine lv_isub hx hb dX2_moveMostWorn_31 ?_
        refine lv_istore (lv' := [(5, .int (((mvS oD g q f h j).1) - (mn ((mvS oD g q f h j).1) (((mvS oD g q f h j).2.2.1) (g * 10 + (9 - j)))))), (7, .int (mn ((mvS oD g q f h j).1) (((mvS oD g q f h j).2.2.1) (g * 10 + (9 - j))))), (6, .int (nI (9 - j))), (4, .int ((mvS oD g q f h j).2.1)), (0, .ref a), (1, .ref a2), (2, .int (nI g)), (3, .int q)]) hx hb dX2_moveMostWorn_32 hl (by decide) rfl (fun ls hl => ?_)
        refine lv_iload hx hb dX2_moveMostWorn_34 (lv_at hl 3 rfl) ?_
        refine lv_iload hx hb dX2_moveMostWorn_36 (lv_at hl 1 rfl) ?_
        refine lv_iload hx hb dX2_moveMostWorn_38 (lv_at hl 2 rfl) ?_
        refine lv_imul hx hb dX2_moveMostWorn_40 ?_
        refine lv_iadd hx hb dX2_moveMostWorn_41 ?_
        refine lv_istore (lv' := [(4, .int (((mvS oD g q f h j).2.1) + ((mn ((mvS oD g q f h j).1) (((mvS oD g q f h j).2.2.1) (g * 10 + (9 - j)))) * (nI (9 - j))))), (5, .int (((mvS oD g q f h j).1) - (mn ((mvS oD g q f h j).1) (((mvS oD g q f h j).2.2.1) (g * 10 + (9 - j)))))), (7, .int (mn ((mvS oD g q f h j).1) (((mvS oD g q f h j).2.2.1) (g * 10 + (9 - j))))), (6, .int (nI (9 - j))), (0, .ref a), (1, .ref a2), (2, .int (nI g)), (3, .int q)]) hx hb dX2_moveMostWorn_42 hl (by decide) rfl (fun ls hl => ?_)
        refine lv_iinc (v := w9 (j + 1)) (lv' := [(6, .int (w9 (j + 1))), (4, .int (((mvS oD g q f h j).2.1) + ((mn ((mvS oD g q f h j).1) (((mvS oD g q f h j).2.2.1) (g * 10 + (9 - j)))) * (nI (9 - j))))), (5, .int (((mvS oD g q f h j).1) - (mn ((mvS oD g q f h j).1) (((mvS oD g q f h j).2.2.1) (g * 10 + (9 - j)))))), (7, .int (mn ((mvS oD g q f h j).1) (((mvS oD g q f h j).2.2.1) (g * 10 + (9 - j))))), (0, .ref a), (1, .ref a2), (2, .int (nI g)), (3, .int q)]) hx hb dX2_moveMostWorn_44 hl (k := 3) rfl (w9_s hj10) (by decide) rfl (fun ls hl => ?_)
        refine lv_goto (tgt := 10) hx hb dX2_moveMostWorn_47 (by decide) ?_
        have hl : lv_has ls 8 [(6, .int (w9 (j + 1))), (5, .int ((mvS oD g q f h (j + 1)).1)), (4, .int ((mvS oD g q f h (j + 1)).2.1)), (0, .ref a), (1, .ref a2), (2, .int (nI g)), (3, .int q)] := lv_sub hl [0, 2, 1, 4, 5, 6, 7] rfl
        have hW : zW Z s A [(a, .inr (2, [.ref b])), (b, zI Z 290 ((mvS oD g q f h (j + 1)).2.2.1)), (a2, .inr (2, [.ref b2])), (b2, zI Z 290 ((mvS oD g q f h (j + 1)).2.2.2))] _ _ := hW
        exact ih_10 (j + 1) (by omega) (by omega) _ _ _ hW hl
      · rw [w9_ge hj10] at hl
        have hl : lv_has ls 8 [(6, .int (-1)), (5, .int ((mvS oD g q f h j).1)), (4, .int ((mvS oD g q f h j).2.1)), (0, .ref a), (1, .ref a2), (2, .int (nI g)), (3, .int q)] := hl
        refine lv_iload hx hb dX2_moveMostWorn_10 (lv_at hl 0 rfl) ?_
        refine lv_if_lt (tgt := 50) hx hb dX2_moveMostWorn_12 (by decide) (fun c_12 => ?_) (fun c_12 => absurd (by decide) c_12)
        refine lv_iload hx hb dX2_moveMostWorn_50 (lv_at hl 2 rfl) ?_
        exact z_iret hx hb hr hlk hW () (by rw [show j = 10 by omega]) (by rw [show j = 10 by omega]) (by omega) (by omega) dX2_moveMostWorn_52
  have hl : lv_has ls 8 [(6, .int (w9 0)), (5, .int ((mvS oD g q f h 0).1)), (4, .int ((mvS oD g q f h 0).2.1)), (0, .ref a), (1, .ref a2), (2, .int (nI g)), (3, .int q)] := lv_sub hl [0, 1, 2, 3, 4, 5, 6] rfl
  have hW : zW Z s A [(a, .inr (2, [.ref b])), (b, zI Z 290 ((mvS oD g q f h 0).2.2.1)), (a2, .inr (2, [.ref b2])), (b2, zI Z 290 ((mvS oD g q f h 0).2.2.2))] _ _ := hW
  exact loop_10 _ 0 (by omega) (Nat.lt_succ_self _) _ _ _ hW hl
