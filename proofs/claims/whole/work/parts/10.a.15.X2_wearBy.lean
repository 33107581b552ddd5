abbrev wp_X2_wearBy (Z : zT) (a b : Nat) (f : Nat → Int32) (mo : Nat) : Unit → va_W := fun (u : Unit) => [(a, .inr (2, [.ref b])), (b, zI Z 290 ((wbO mo f 29).2))]
abbrev po_X2_wearBy (Z : zT) (a b : Nat) (f : Nat → Int32) (mo : Nat) : Int32 → Unit → Prop := fun (r : Int32) (u : Unit) => r = (wbO mo f 29).1
abbrev rm_X2_wearBy : Room := { frames := 2, cells := 0, slots := 0, locals := 46 }
set_option maxHeartbeats 4000000 in
set_option maxRecDepth 100000 in
theorem c_X2_wearBy (l : Launch) (Z : zT) (a b : Nat) (f : Nat → Int32) (mo : Nat) (hm9 : mo < 1000) : zMet l yX2_wearBy wsX2_wearBy rm_X2_wearBy [.ref a, .int (nI mo)] Z [(a, .inr (2, [.ref b])), (b, zI Z 290 f)] (zQi Z (po_X2_wearBy Z a b f mo) (wp_X2_wearBy Z a b f mo)) 0 0 := by
  refine zstart (cc := cX2_wearBy) (maxL := 6) (ret := (some .int)) (by decide) rfl (Nat.le_of_ble_eq_true rfl) ?_
  intro p e s m below meth c ls A hx hb hr hC hlk hnm hX hW hl
  have hml := hC.2.2.1
  have hown : s.vm.findClass RX2 = some m.cls := hC.2.2.2.1
  have hts := hC.2.2.2.2
  have hl : lv_has ls 6 [(0, .ref a), (1, .int (nI mo))] := hl
  refine lv_iconst (v := nI 0) hx hb dX2_wearBy_0 (by decide) ?_
  refine lv_istore_n (lv' := [(2, .int (nI 0)), (0, .ref a), (1, .int (nI mo))]) hx hb dX2_wearBy_1 rfl hl (by decide) rfl (fun ls hl => ?_)
  refine lv_iconst (v := nI 0) hx hb dX2_wearBy_2 (by decide) ?_
  refine lv_istore_n (lv' := [(3, .int (nI 0)), (2, .int (nI 0)), (0, .ref a), (1, .int (nI mo))]) hx hb dX2_wearBy_3 rfl hl (by decide) rfl (fun ls hl => ?_)
  have loop_4 : ∀ (n : Nat) (g : Nat), (g ≤ 29) → (29 - g < n) → ∀ (H : Heap) (locs : List Loc) (ls : Array Slot), zW Z s A [(a, .inr (2, [.ref b])), (b, zI Z 290 ((wbO mo f g).2))] H locs → lv_has ls 6 [(3, .int (nI g)), (2, .int ((wbO mo f g).1)), (0, .ref a), (1, .int (nI mo))] → W p l e rm_X2_wearBy s m ([.ref a, .int (nI mo)] : List Value).toArray below meth c H locs 0 0 (MQ below (zQi Z (po_X2_wearBy Z a b f mo) (wp_X2_wearBy Z a b f mo) A) ([.ref a, .int (nI mo)] : List Value).toArray s 0 0 A) (F0 m 4 ls []) := by
    intro n
    induction n with
    | zero =>
      intro g hg hm
      exact absurd hm (Nat.not_lt_zero _)
    | succ n ih =>
      intro g hg hm H locs ls hW hl
      have ih_4 := ih
      refine lv_iload_n hx hb dX2_wearBy_4 rfl (lv_at hl 0 rfl) ?_
      refine lv_bipush (v := nI 29) hx hb dX2_wearBy_5 (by decide) ?_
      refine zn_icmp_ge (tgt := 68) (a := g) (b := 29) hx hb (by omega) (by omega) dX2_wearBy_7 (by decide) (fun c_7 => ?_) (fun c_7 => ?_)
      · refine lv_iload_n hx hb dX2_wearBy_68 rfl (lv_at hl 1 rfl) ?_
        exact z_iret hx hb hr hlk hW () (by rw [show g = 29 by omega]) (by rw [show g = 29 by omega]) (by omega) (by omega) dX2_wearBy_69
      · refine lv_bipush (v := nI 9) hx hb dX2_wearBy_10 (by decide) ?_
        refine lv_istore (lv' := [(4, .int (nI 9)), (3, .int (nI g)), (2, .int ((wbO mo f g).1)), (0, .ref a), (1, .int (nI mo))]) hx hb dX2_wearBy_12 hl (by decide) rfl (fun ls hl => ?_)
        have loop_14 : ∀ (n : Nat) (j : Nat) (x : Int32) (k : Nat → Int32), (j ≤ 10) → (x = (wbI mo g (wbO mo f g) j).1) → (k = (wbI mo g (wbO mo f g) j).2) → (10 - j < n) → ∀ (H : Heap) (locs : List Loc) (ls : Array Slot), zW Z s A [(a, .inr (2, [.ref b])), (b, zI Z 290 k)] H locs → lv_has ls 6 [(4, .int (w9 j)), (3, .int (nI g)), (2, .int x), (0, .ref a), (1, .int (nI mo))] → W p l e rm_X2_wearBy s m ([.ref a, .int (nI mo)] : List Value).toArray below meth c H locs 0 0 (MQ below (zQi Z (po_X2_wearBy Z a b f mo) (wp_X2_wearBy Z a b f mo) A) ([.ref a, .int (nI mo)] : List Value).toArray s 0 0 A) (F0 m 14 ls []) := by
          intro n
          induction n with
          | zero =>
            intro j x k hj hx9 hk9 hm
            exact absurd hm (Nat.not_lt_zero _)
          | succ n ih =>
            intro j x k hj hx9 hk9 hm H locs ls hW hl
            have ih_14 := ih
            rcases Nat.lt_or_ge j 10 with hj10 | hj10
            · rw [w9_lt hj10] at hl
              have hl : lv_has ls 6 [(4, .int (nI (9 - j))), (3, .int (nI g)), (2, .int x), (0, .ref a), (1, .int (nI mo))] := hl
              refine lv_iload hx hb dX2_wearBy_14 (lv_at hl 0 rfl) ?_
              refine zn_if_lt (tgt := 62) (a := (9 - j)) hx hb (by omega) dX2_wearBy_16 (by decide) ?_
              refine lv_aload_n hx hb dX2_wearBy_19 rfl (lv_at hl 3 rfl) ?_
              refine lv_iload_n hx hb dX2_wearBy_20 rfl (lv_at hl 1 rfl) ?_
              refine lv_iload hx hb dX2_wearBy_21 (lv_at hl 0 rfl) ?_
              refine zc_i (va_runV (As := [.int (nI g), .int (nI (9 - j))]) (rest := []) hC (c_X2_empty l Z a b k g (9 - j) (by omega) (by omega) _) (cwV 2 hts gX2_wearBy_X2_empty rfl rfl rfl (by decide +kernel) ⟨Nat.le_of_ble_eq_true rfl, Nat.le_of_ble_eq_true rfl⟩) (zpreV (ci := 2) (q0 := 0) hX hW rfl rfl [0, 1] rfl (by decide)) rfl rfl hl.1 rfl (lv_room (Nat.le_of_ble_eq_true rfl)) dX2_wearBy_23 ⟨Nat.le_of_ble_eq_true rfl, Nat.le_of_ble_eq_true rfl⟩) hX hW [0, 1] rfl (by decide) (fun _ => rfl) (fun r_23 u_23 H locs h_23 hW => ?_)
              have hW : zW Z s A [(a, .inr (2, [.ref b])), (b, zI Z 290 (upd k (g * 10 + (9 - j)) (k (g * 10 + (9 - j)) + -k (g * 10 + (9 - j)))))] _ _ := hW
              subst h_23
              refine lv_istore (lv' := [(5, .int (k (g * 10 + (9 - j)))), (4, .int (nI (9 - j))), (3, .int (nI g)), (2, .int x), (0, .ref a), (1, .int (nI mo))]) hx hb dX2_wearBy_26 hl (by decide) rfl (fun ls hl => ?_)
              refine lv_iload hx hb dX2_wearBy_28 (lv_at hl 1 rfl) ?_
              refine lv_iload_n hx hb dX2_wearBy_30 rfl (lv_at hl 5 rfl) ?_
              refine lv_iadd hx hb dX2_wearBy_31 ?_
              refine zw_topi (nI_add _ _) ?_
              refine lv_bipush (v := nI 10) hx hb dX2_wearBy_32 (by decide) ?_
              refine zn_icmp_ge (tgt := 51) (a := ((9 - j) + mo)) (b := 10) hx hb (by omega) (by omega) dX2_wearBy_34 (by decide) (fun c_34 => ?_) (fun c_34 => ?_)
              · have c_34 : ¬ 9 - j + mo < 10 := by omega
                refine lv_iload_n hx hb dX2_wearBy_51 rfl (lv_at hl 3 rfl) ?_
                refine lv_iload hx hb dX2_wearBy_52 (lv_at hl 0 rfl) ?_
                refine lv_iadd hx hb dX2_wearBy_54 ?_
                refine lv_istore_n (lv' := [(2, .int (x + (k (g * 10 + (9 - j))))), (5, .int (k (g * 10 + (9 - j)))), (4, .int (nI (9 - j))), (3, .int (nI g)), (0, .ref a), (1, .int (nI mo))]) hx hb dX2_wearBy_55 rfl hl (by decide) rfl (fun ls hl => ?_)
                refine lv_iinc (v := w9 (j + 1)) (lv' := [(4, .int (w9 (j + 1))), (2, .int (x + (k (g * 10 + (9 - j))))), (5, .int (k (g * 10 + (9 - j)))), (3, .int (nI g)), (0, .ref a), (1, .int (nI mo))]) hx hb dX2_wearBy_56 hl (k := 2) rfl (w9_s hj10) (by decide) rfl (fun ls hl => ?_)
                refine lv_goto (tgt := 14) hx hb dX2_wearBy_59 (by decide) ?_
                have hl : lv_has ls 6 [(4, .int (w9 (j + 1))), (3, .int (nI g)), (2, .int (x + (k (g * 10 + (9 - j))))), (0, .ref a), (1, .int (nI mo))] := lv_sub hl [0, 3, 1, 4, 5] rfl
                exact ih_14 (j + 1) (x + (k (g * 10 + (9 - j)))) (upd k (g * 10 + (9 - j)) (k (g * 10 + (9 - j)) + -k (g * 10 + (9 - j)))) (by omega) (by subst hx9; subst hk9; first | (rw [wbI_s, wbU_t c_34]; try rfl) | (rw [wbI_s, wbU_f c_34]; try rfl)) (by subst hx9; subst hk9; first | (rw [wbI_s, wbU_t c_34]; try rfl) | (rw [wbI_s, wbU_f c_34]; try rfl)) (by omega) _ _ _ hW hl
              · have c_34 : 9 - j + mo < 10 := by omega
                refine lv_aload_n hx hb dX2_wearBy_37 rfl (lv_at hl 4 rfl) ?_
                refine lv_iload_n hx hb dX2_wearBy_38 rfl (lv_at hl 2 rfl) ?_
                refine lv_iload hx hb dX2_wearBy_39 (lv_at hl 1 rfl) ?_
                refine lv_iload_n hx hb dX2_wearBy_41 rfl (lv_at hl 5 rfl) ?_
                refine lv_iadd hx hb dX2_wearBy_42 ?_
                refine zw_topi (nI_add _ _) ?_
                refine lv_iload hx hb dX2_wearBy_43 (lv_at hl 0 rfl) ?_
                refine zc_v (va_runV (As := [.int (nI g), .int (nI ((9 - j) + mo)), .int (k (g * 10 + (9 - j)))]) (rest := []) hC (c_X2_change l Z a b (upd k (g * 10 + (9 - j)) (k (g * 10 + (9 - j)) + -k (g * 10 + (9 - j)))) g ((9 - j) + mo) (k (g * 10 + (9 - j))) (by omega) (by omega) _) (cwV 3 hts gX2_wearBy_X2_change rfl rfl rfl (by decide +kernel) ⟨Nat.le_of_ble_eq_true rfl, Nat.le_of_ble_eq_true rfl⟩) (zpreV (ci := 2) (q0 := 0) hX hW rfl rfl [0, 1] rfl (by decide)) rfl rfl hl.1 rfl (lv_room (Nat.le_of_ble_eq_true rfl)) dX2_wearBy_45 ⟨Nat.le_of_ble_eq_true rfl, Nat.le_of_ble_eq_true rfl⟩) hX hW [0, 1] rfl (by decide) (fun _ => rfl) (fun u_45 H locs h_45 hW => ?_)
                have hW : zW Z s A [(a, .inr (2, [.ref b])), (b, zI Z 290 (upd (upd k (g * 10 + (9 - j)) (k (g * 10 + (9 - j)) + -k (g * 10 + (9 - j)))) (g * 10 + ((9 - j) + mo)) ((upd k (g * 10 + (9 - j)) (k (g * 10 + (9 - j)) + -k (g * 10 + (9 - j)))) (g * 10 + ((9 - j) + mo)) + (k (g * 10 + (9 - j))))))] _ _ := hW
                refine lv_goto (tgt := 56) hx hb dX2_wearBy_48 (by decide) ?_
                refine lv_iinc (v := w9 (j + 1)) (lv' := [(4, .int (w9 (j + 1))), (5, .int (k (g * 10 + (9 - j)))), (3, .int (nI g)), (2, .int x), (0, .ref a), (1, .int (nI mo))]) hx hb dX2_wearBy_56 hl (k := 1) rfl (w9_s hj10) (by decide) rfl (fun ls hl => ?_)
                refine lv_goto (tgt := 14) hx hb dX2_wearBy_59 (by decide) ?_
                have hl : lv_has ls 6 [(4, .int (w9 (j + 1))), (3, .int (nI g)), (2, .int x), (0, .ref a), (1, .int (nI mo))] := lv_sub hl [0, 2, 3, 4, 5] rfl
                exact ih_14 (j + 1) x (upd (upd k (g * 10 + (9 - j)) (k (g * 10 + (9 - j)) + -k (g * 10 + (9 - j)))) (g * 10 + ((9 - j) + mo)) ((upd k (g * 10 + (9 - j)) (k (g * 10 + (9 - j)) + -k (g * 10 + (9 - j)))) (g * 10 + ((9 - j) + mo)) + (k (g * 10 + (9 - j))))) (by omega) (by subst hx9; subst hk9; first | (rw [wbI_s, wbU_t c_34]; try rfl) | (rw [wbI_s, wbU_f c_34]; try rfl)) (by subst hx9; subst hk9; first | (rw [wbI_s, wbU_t c_34]; try rfl) | (rw [wbI_s, wbU_f c_34]; try rfl)) (by omega) _ _ _ hW hl
            · rw [w9_ge hj10] at hl
              obtain rfl : j = 10 := by omega
              rw [← wbO_s] at hx9 hk9
              subst hx9
              subst hk9
              have hW : zW Z s A [(a, .inr (2, [.ref b])), (b, zI Z 290 ((wbO mo f (g + 1)).2))] H locs := hW
              have hl : lv_has ls 6 [(4, .int (-1)), (3, .int (nI g)), (2, .int ((wbO mo f (g + 1)).1)), (0, .ref a), (1, .int (nI mo))] := hl
              refine lv_iload hx hb dX2_wearBy_14 (lv_at hl 0 rfl) ?_
              refine lv_if_lt (tgt := 62) hx hb dX2_wearBy_16 (by decide) (fun c_16 => ?_) (fun c_16 => absurd (by decide) c_16)
              refine lv_iinc (v := nI (g + 1)) (lv' := [(3, .int (nI (g + 1))), (4, .int (-1)), (2, .int ((wbO mo f (g + 1)).1)), (0, .ref a), (1, .int (nI mo))]) hx hb dX2_wearBy_62 hl (k := 1) rfl (zinc1 _) (by decide) rfl (fun ls hl => ?_)
              refine lv_goto (tgt := 4) hx hb dX2_wearBy_65 (by decide) ?_
              have hl : lv_has ls 6 [(3, .int (nI (g + 1))), (2, .int ((wbO mo f (g + 1)).1)), (0, .ref a), (1, .int (nI mo))] := lv_sub hl [0, 2, 3, 4] rfl
              exact ih_4 (g + 1) (by omega) (by omega) _ _ _ hW hl
        have hl : lv_has ls 6 [(4, .int (w9 0)), (3, .int (nI g)), (2, .int ((wbO mo f g).1)), (0, .ref a), (1, .int (nI mo))] := lv_sub hl [0, 1, 2, 3, 4] rfl
        exact loop_14 _ 0 ((wbO mo f g).1) ((wbO mo f g).2) (by omega) rfl rfl (Nat.lt_succ_self _) _ _ _ hW hl
  have hl : lv_has ls 6 [(3, .int (nI 0)), (2, .int ((wbO mo f 0).1)), (0, .ref a), (1, .int (nI mo))] := lv_sub hl [0, 1, 2, 3] rfl
  have hW : zW Z s A [(a, .inr (2, [.ref b])), (b, zI Z 290 ((wbO mo f 0).2))] _ _ := hW
  exact loop_4 _ 0 (by omega) (Nat.lt_succ_self _) _ _ _ hW hl
