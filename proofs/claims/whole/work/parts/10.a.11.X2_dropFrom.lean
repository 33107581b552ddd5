abbrev wp_X2_dropFrom (Z : zT) (a b : Nat) (f : Nat → Int32) (w : Nat) : Unit → va_W := fun (u : Unit) => [(a, .inr (2, [.ref b])), (b, zI Z 290 (df f w 290))]
abbrev po_X2_dropFrom (Z : zT) (a b : Nat) (f : Nat → Int32) (w : Nat) : Int32 → Unit → Prop := fun (r : Int32) (u : Unit) => r = cf f w 290
abbrev rm_X2_dropFrom : Room := { frames := 2, cells := 0, slots := 0, locals := 46 }
set_option maxHeartbeats 4000000 in
set_option maxRecDepth 100000 in
theorem c_X2_dropFrom (l : Launch) (Z : zT) (a b : Nat) (f : Nat → Int32) (w : Nat) (hw : w < 10) : zMet l yX2_dropFrom wsX2_dropFrom rm_X2_dropFrom [.ref a, .int (nI w)] Z [(a, .inr (2, [.ref b])), (b, zI Z 290 f)] (zQi Z (po_X2_dropFrom Z a b f w) (wp_X2_dropFrom Z a b f w)) 0 0 := by
  refine zstart (cc := cX2_dropFrom) (maxL := 5) (ret := (some .int)) (by decide) rfl (Nat.le_of_ble_eq_true rfl) ?_
  intro p e s m below meth c ls A hx hb hr hC hlk hnm hX hW hl
  have hml := hC.2.2.1
  have hown : s.vm.findClass RX2 = some m.cls := hC.2.2.2.1
  have hts := hC.2.2.2.2
  have hl : lv_has ls 5 [(0, .ref a), (1, .int (nI w))] := hl
  refine lv_iconst (v := nI 0) hx hb dX2_dropFrom_0 (by decide) ?_
  refine lv_istore_n (lv' := [(2, .int (nI 0)), (0, .ref a), (1, .int (nI w))]) hx hb dX2_dropFrom_1 rfl hl (by decide) rfl (fun ls hl => ?_)
  refine lv_iconst (v := nI 0) hx hb dX2_dropFrom_2 (by decide) ?_
  refine lv_istore_n (lv' := [(3, .int (nI 0)), (2, .int (nI 0)), (0, .ref a), (1, .int (nI w))]) hx hb dX2_dropFrom_3 rfl hl (by decide) rfl (fun ls hl => ?_)
  have loop_4 : ∀ (n : Nat) (g : Nat) (y : Int32) (h : Nat → Int32), (g ≤ 29) → (y = cf f w (g * 10)) → (h = df f w (g * 10)) → (29 - g < n) → ∀ (H : Heap) (locs : List Loc) (ls : Array Slot), zW Z s A [(a, .inr (2, [.ref b])), (b, zI Z 290 h)] H locs → lv_has ls 5 [(3, .int (nI g)), (2, .int y), (0, .ref a), (1, .int (nI w))] → W p l e rm_X2_dropFrom s m ([.ref a, .int (nI w)] : List Value).toArray below meth c H locs 0 0 (MQ below (zQi Z (po_X2_dropFrom Z a b f w) (wp_X2_dropFrom Z a b f w) A) ([.ref a, .int (nI w)] : List Value).toArray s 0 0 A) (F0 m 4 ls []) := by
    intro n
    induction n with
    | zero =>
      intro g y h hg hy9 hh9 hm
      exact absurd hm (Nat.not_lt_zero _)
    | succ n ih =>
      intro g y h hg hy9 hh9 hm H locs ls hW hl
      have ih_4 := ih
      refine lv_iload_n hx hb dX2_dropFrom_4 rfl (lv_at hl 0 rfl) ?_
      refine lv_bipush (v := nI 29) hx hb dX2_dropFrom_5 (by decide) ?_
      refine zn_icmp_ge (tgt := 42) (a := g) (b := 29) hx hb (by omega) (by omega) dX2_dropFrom_7 (by decide) (fun c_7 => ?_) (fun c_7 => ?_)
      · refine lv_iload_n hx hb dX2_dropFrom_42 rfl (lv_at hl 1 rfl) ?_
        exact z_iret hx hb hr hlk hW () (by rw [hy9, show g = 29 by omega]) (by rw [hh9, show g = 29 by omega]) (by omega) (by omega) dX2_dropFrom_43
      · refine lv_iload_n hx hb dX2_dropFrom_10 rfl (lv_at hl 3 rfl) ?_
        refine lv_istore (lv' := [(4, .int (nI w)), (3, .int (nI g)), (2, .int y), (0, .ref a), (1, .int (nI w))]) hx hb dX2_dropFrom_11 hl (by decide) rfl (fun ls hl => ?_)
        have loop_13 : ∀ (n : Nat) (j : Nat) (x : Int32) (k : Nat → Int32), (w ≤ j ∧ j ≤ 10) → (x = cf f w (g * 10 + j)) → (k = df f w (g * 10 + j)) → (10 - j < n) → ∀ (H : Heap) (locs : List Loc) (ls : Array Slot), zW Z s A [(a, .inr (2, [.ref b])), (b, zI Z 290 k)] H locs → lv_has ls 5 [(4, .int (nI j)), (3, .int (nI g)), (2, .int x), (0, .ref a), (1, .int (nI w))] → W p l e rm_X2_dropFrom s m ([.ref a, .int (nI w)] : List Value).toArray below meth c H locs 0 0 (MQ below (zQi Z (po_X2_dropFrom Z a b f w) (wp_X2_dropFrom Z a b f w) A) ([.ref a, .int (nI w)] : List Value).toArray s 0 0 A) (F0 m 13 ls []) := by
          intro n
          induction n with
          | zero =>
            intro j x k hj hx9 hk9 hm
            exact absurd hm (Nat.not_lt_zero _)
          | succ n ih =>
            intro j x k hj hx9 hk9 hm H locs ls hW hl
            have ih_13 := ih
            refine lv_iload hx hb dX2_dropFrom_13 (lv_at hl 0 rfl) ?_
            refine lv_bipush (v := nI 10) hx hb dX2_dropFrom_15 (by decide) ?_
            refine zn_icmp_ge (tgt := 36) (a := j) (b := 10) hx hb (by omega) (by omega) dX2_dropFrom_17 (by decide) (fun c_17 => ?_) (fun c_17 => ?_)
            · refine lv_iinc (v := nI (g + 1)) (lv' := [(3, .int (nI (g + 1))), (4, .int (nI j)), (2, .int x), (0, .ref a), (1, .int (nI w))]) hx hb dX2_dropFrom_36 hl (k := 1) rfl (zinc1 _) (by decide) rfl (fun ls hl => ?_)
              refine lv_goto (tgt := 4) hx hb dX2_dropFrom_39 (by decide) ?_
              have hl : lv_has ls 5 [(3, .int (nI (g + 1))), (2, .int x), (0, .ref a), (1, .int (nI w))] := lv_sub hl [0, 2, 3, 4] rfl
              exact ih_4 (g + 1) x k (by omega) (by rw [hx9, show j = 10 by omega, show g * 10 + 10 = (g + 1) * 10 by omega]) (by rw [hk9, show j = 10 by omega, show g * 10 + 10 = (g + 1) * 10 by omega]) (by omega) _ _ _ hW hl
            · refine lv_iload_n hx hb dX2_dropFrom_20 rfl (lv_at hl 2 rfl) ?_
              refine lv_aload_n hx hb dX2_dropFrom_21 rfl (lv_at hl 3 rfl) ?_
              refine lv_iload_n hx hb dX2_dropFrom_22 rfl (lv_at hl 1 rfl) ?_
              refine lv_iload hx hb dX2_dropFrom_23 (lv_at hl 0 rfl) ?_
              refine zc_i (va_runV (As := [.int (nI g), .int (nI j)]) (rest := [.int x]) hC (c_X2_empty l Z a b k g j (by omega) (by omega) _) (cwV 2 hts gX2_dropFrom_X2_empty rfl rfl rfl (by decide +kernel) ⟨Nat.le_of_ble_eq_true rfl, Nat.le_of_ble_eq_true rfl⟩) (zpreV (ci := 2) (q0 := 0) hX hW rfl rfl [0, 1] rfl (by decide)) rfl rfl hl.1 rfl (lv_room (Nat.le_of_ble_eq_true rfl)) dX2_dropFrom_25 ⟨Nat.le_of_ble_eq_true rfl, Nat.le_of_ble_eq_true rfl⟩) hX hW [0, 1] rfl (by decide) (fun _ => rfl) (fun r_25 u_25 H locs h_25 hW => ?_)
              have hW : zW Z s A [(a, .inr (2, [.ref b])), (b, zI Z 290 (upd k (g * 10 + j) (k (g * 10 + j) + -k (g * 10 + j))))] _ _ := hW
              subst h_25
              refine lv_iadd hx hb dX2_dropFrom_28 ?_
              refine lv_istore_n (lv' := [(2, .int (x + (k (g * 10 + j)))), (4, .int (nI j)), (3, .int (nI g)), (0, .ref a), (1, .int (nI w))]) hx hb dX2_dropFrom_29 rfl hl (by decide) rfl (fun ls hl => ?_)
              refine lv_iinc (v := nI (j + 1)) (lv' := [(4, .int (nI (j + 1))), (2, .int (x + (k (g * 10 + j)))), (3, .int (nI g)), (0, .ref a), (1, .int (nI w))]) hx hb dX2_dropFrom_30 hl (k := 1) rfl (zinc1 _) (by decide) rfl (fun ls hl => ?_)
              refine lv_goto (tgt := 13) hx hb dX2_dropFrom_33 (by decide) ?_
              have hl : lv_has ls 5 [(4, .int (nI (j + 1))), (3, .int (nI g)), (2, .int (x + (k (g * 10 + j)))), (0, .ref a), (1, .int (nI w))] := lv_sub hl [0, 2, 1, 3, 4] rfl
              exact ih_13 (j + 1) (x + (k (g * 10 + j))) (upd k (g * 10 + j) (k (g * 10 + j) + -k (g * 10 + j))) (by omega) (by rw [hx9, hk9, df_at]; exact cf_s (by omega) (by omega)) (by subst hk9; exact df_s (by omega) (by omega) _ (zaddneg _)) (by omega) _ _ _ hW hl
        have hl : lv_has ls 5 [(4, .int (nI w)), (3, .int (nI g)), (2, .int y), (0, .ref a), (1, .int (nI w))] := lv_sub hl [0, 1, 2, 3, 4] rfl
        exact loop_13 _ w y h (by omega) (by rw [hy9, cf_skip f w g w (by omega) (by omega)]) (by rw [hh9, df_skip f w g (Nat.le_refl w) (by omega)]) (Nat.lt_succ_self _) _ _ _ hW hl
  have hl : lv_has ls 5 [(3, .int (nI 0)), (2, .int (nI 0)), (0, .ref a), (1, .int (nI w))] := lv_sub hl [0, 1, 2, 3] rfl
  exact loop_4 _ 0 (nI 0) f (by omega) rfl (df_0 f w).symm (Nat.lt_succ_self _) _ _ _ hW hl
