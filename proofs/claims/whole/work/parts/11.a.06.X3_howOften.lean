theorem mw_X3_howOften_0 : Cond.fieldLink RX3 15 "TypeFoundry$Word" "firstPlace" "I" ∈ wsX3_howOften := by decide +kernel
theorem mw_X3_howOften_1 : ∀ w ∈ wsX30, w ∈ wsX3_howOften := by decide +kernel
abbrev wp_X3_howOften (Z : zT) (a b : Nat) (L : Nat → Int32) (k g : Nat) (t : Nat → Nat) : Unit → va_W := fun (u : Unit) => [(a, .inr (3, [.ref b, .int (nI (6 - k))])), (b, zI Z 6 L)]
abbrev po_X3_howOften (Z : zT) (a b : Nat) (L : Nat → Int32) (k g : Nat) (t : Nat → Nat) : Int32 → Unit → Prop := fun (r : Int32) (u : Unit) => r = nI (ho t g k)
abbrev rm_X3_howOften : Room := { frames := 1, cells := 0, slots := 0, locals := 21 }
set_option maxHeartbeats 4000000 in
set_option maxRecDepth 100000 in
theorem c_X3_howOften (l : Launch) (Z : zT) (a b : Nat) (L : Nat → Int32) (k g : Nat) (t : Nat → Nat) (hw9 : wdC k t L) (hg : g < 29) : zMet l yX3_howOften wsX3_howOften rm_X3_howOften [.ref a, .int (nI g)] Z [(a, .inr (3, [.ref b, .int (nI (6 - k))])), (b, zI Z 6 L)] (zQi Z (po_X3_howOften Z a b L k g t) (wp_X3_howOften Z a b L k g t)) 0 0 := by
  refine zstart (cc := cX3_howOften) (maxL := 4) (ret := (some .int)) (by decide) rfl (Nat.le_of_ble_eq_true rfl) ?_
  intro p e s m below meth c ls A hx hb hr hC hlk hnm hX hW hl
  have hml := hC.2.2.1
  have hown : s.vm.findClass RX3 = some m.cls := hC.2.2.2.1
  have hts := hC.2.2.2.2
  have hl : lv_has ls 4 [(0, .ref a), (1, .int (nI g))] := hl
  have hw8 := hw9.2.1
  refine lv_iconst (v := nI 0) hx hb dX3_howOften_0 (by decide) ?_
  refine lv_istore_n (lv' := [(2, .int (nI 0)), (0, .ref a), (1, .int (nI g))]) hx hb dX3_howOften_1 rfl hl (by decide) rfl (fun ls hl => ?_)
  refine lv_aload_n hx hb dX3_howOften_2 rfl (lv_at hl 1 rfl) ?_
  refine z_get (C := RX3) (T := TX3) (N := 2) hx hb hts mw_X3_howOften_1 hown hX hW 0 rfl rfl 1 (by decide) mw_X3_howOften_0 (fun _ h9 => h9) rfl dX3_howOften_3 ?_
  refine lv_istore_n (lv' := [(3, .int (nI (6 - k))), (2, .int (nI 0)), (0, .ref a), (1, .int (nI g))]) hx hb dX3_howOften_6 rfl hl (by decide) rfl (fun ls hl => ?_)
  have loop_7 : ∀ (n : Nat) (i : Nat) (y : Nat), (i ≤ k) → (y = ho t g i) → (k - i < n) → ∀ (H : Heap) (locs : List Loc) (ls : Array Slot), zW Z s A [(a, .inr (3, [.ref b, .int (nI (6 - k))])), (b, zI Z 6 L)] H locs → lv_has ls 4 [(3, .int (nI (6 - k + i))), (2, .int (nI y)), (0, .ref a), (1, .int (nI g))] → W p l e rm_X3_howOften s m ([.ref a, .int (nI g)] : List Value).toArray below meth c H locs 0 0 (MQ below (zQi Z (po_X3_howOften Z a b L k g t) (wp_X3_howOften Z a b L k g t) A) ([.ref a, .int (nI g)] : List Value).toArray s 0 0 A) (F0 m 7 ls []) := by
    intro n
    induction n with
    | zero =>
      intro i y hi hy9 hm
      exact absurd hm (Nat.not_lt_zero _)
    | succ n ih =>
      intro i y hi hy9 hm H locs ls hW hl
      have ih_7 := ih
      refine lv_iload_n hx hb dX3_howOften_7 rfl (lv_at hl 0 rfl) ?_
      refine lv_bipush (v := nI 6) hx hb dX3_howOften_8 (by decide) ?_
      refine zn_icmp_ge (tgt := 31) (a := (6 - k + i)) (b := 6) hx hb (by omega) (by omega) dX3_howOften_10 (by decide) (fun c_10 => ?_) (fun c_10 => ?_)
      · have hzz := 0
        refine lv_iload_n hx hb dX3_howOften_31 rfl (lv_at hl 1 rfl) ?_
        exact z_iret hx hb hr hlk hW () (by rw [hy9, show i = k by omega]) (rfl) (by omega) (by omega) dX3_howOften_32
      · have hti := hw9.2.2.1 i (by omega)
        have hyi : y ≤ i := by rw [hy9]; exact ho_le t g i
        refine lv_aload_n hx hb dX3_howOften_13 rfl (lv_at hl 2 rfl) ?_
        refine lv_iload_n hx hb dX3_howOften_14 rfl (lv_at hl 0 rfl) ?_
        refine zc_i (va_runV (As := [.int (nI (6 - k + i))]) (rest := []) hC (c_X3_letterAt l Z a b L k (6 - k + i) (by omega) _) (cwV 1 hts gX3_howOften_X3_letterAt rfl rfl rfl (by decide +kernel) ⟨Nat.le_of_ble_eq_true rfl, Nat.le_of_ble_eq_true rfl⟩) (zpreV (ci := 3) (q0 := 0) hX hW rfl rfl [0, 1] rfl (by decide)) rfl rfl hl.1 rfl (lv_room (Nat.le_of_ble_eq_true rfl)) dX3_howOften_15 ⟨Nat.le_of_ble_eq_true rfl, Nat.le_of_ble_eq_true rfl⟩) hX hW [0, 1] rfl (by decide) (fun _ => rfl) (fun r_15 u_15 H locs h_15 hW => ?_)
        have hW : zW Z s A [(a, .inr (3, [.ref b, .int (nI (6 - k))])), (b, zI Z 6 L)] _ _ := hW
        subst h_15
        refine zw_topi (y := (nI (t i))) (by rw [if_pos (by omega), hw9.2.2.2 i (by omega)]) ?_
        refine lv_iload_n hx hb dX3_howOften_18 rfl (lv_at hl 3 rfl) ?_
        refine zn_icmp_ne (tgt := 25) (a := (t i)) (b := g) hx hb (by omega) (by omega) dX3_howOften_19 (by decide) (fun c_19 => ?_) (fun c_19 => ?_)
        · refine lv_iinc (v := nI (6 - k + i + 1)) (lv' := [(3, .int (nI (6 - k + i + 1))), (2, .int (nI y)), (0, .ref a), (1, .int (nI g))]) hx hb dX3_howOften_25 hl (k := 0) rfl (zinc1 _) (by decide) rfl (fun ls hl => ?_)
          refine lv_goto (tgt := 7) hx hb dX3_howOften_28 (by decide) ?_
          have hl : lv_has ls 4 [(3, .int (nI (6 - k + (i + 1)))), (2, .int (nI y)), (0, .ref a), (1, .int (nI g))] := lv_sub hl [0, 1, 2, 3] rfl
          exact ih_7 (i + 1) y (by omega) (by subst hy9; first | exact ho_t c_19 | exact ho_f c_19) (by omega) _ _ _ hW hl
        · refine lv_iinc (v := nI (y + 1)) (lv' := [(2, .int (nI (y + 1))), (3, .int (nI (6 - k + i))), (0, .ref a), (1, .int (nI g))]) hx hb dX3_howOften_22 hl (k := 1) rfl (zinc1 _) (by decide) rfl (fun ls hl => ?_)
          refine lv_iinc (v := nI (6 - k + i + 1)) (lv' := [(3, .int (nI (6 - k + i + 1))), (2, .int (nI (y + 1))), (0, .ref a), (1, .int (nI g))]) hx hb dX3_howOften_25 hl (k := 1) rfl (zinc1 _) (by decide) rfl (fun ls hl => ?_)
          refine lv_goto (tgt := 7) hx hb dX3_howOften_28 (by decide) ?_
          have hl : lv_has ls 4 [(3, .int (nI (6 - k + (i + 1)))), (2, .int (nI (y + 1))), (0, .ref a), (1, .int (nI g))] := lv_sub hl [0, 1, 2, 3] rfl
          exact ih_7 (i + 1) (y + 1) (by omega) (by subst hy9; first | exact ho_t c_19 | exact ho_f c_19) (by omega) _ _ _ hW hl
  have hl : lv_has ls 4 [(3, .int (nI (6 - k + 0))), (2, .int (nI 0)), (0, .ref a), (1, .int (nI g))] := lv_sub hl [0, 1, 2, 3] rfl
  exact loop_7 _ 0 0 (by omega) rfl (Nat.lt_succ_self _) _ _ _ hW hl
