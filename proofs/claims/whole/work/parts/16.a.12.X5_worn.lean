theorem mw_X5_worn_0 : Cond.fieldLink RX5 13 "TypeFoundryModel" "store" "[I" ∈ wsX5_worn := by decide +kernel
theorem mw_X5_worn_1 : ∀ w ∈ wsX50, w ∈ wsX5_worn := by decide +kernel
abbrev wp_X5_worn (Z : zT) (o0 o1 o2 o3 o4 o5 o6 o7 o8 np : Nat) (th dy me co ca br ml le : Int32) (f : Nat → Int32) (fr : Nat) : Unit → va_W := fun (u : Unit) => [(o0, .inr (5, [.int th, .int dy, .int me, .int co, .int (nI np), .int ca, .int br, .int ml, .ref o1, .ref o2, .ref o3, .ref o4, .ref o5, .ref o6, .int le, .ref o7, .ref o8])), (o1, zI Z 3770 f)]
abbrev po_X5_worn (Z : zT) (o0 o1 o2 o3 o4 o5 o6 o7 o8 np : Nat) (th dy me co ca br ml le : Int32) (f : Nat → Int32) (fr : Nat) : Int32 → Unit → Prop := fun (r : Int32) (u : Unit) => r = bx_sum (wr (sh f fr)) 290
abbrev rm_X5_worn : Room := { frames := 0, cells := 0, slots := 0, locals := 0 }
set_option maxHeartbeats 4000000 in
set_option maxRecDepth 100000 in
theorem c_X5_worn (l : Launch) (Z : zT) (o0 o1 o2 o3 o4 o5 o6 o7 o8 np : Nat) (th dy me co ca br ml le : Int32) (f : Nat → Int32) (fr : Nat) (hfr : fr + 290 ≤ 3770) : zMet l yX5_worn wsX5_worn rm_X5_worn [.ref o0, .int (nI fr)] Z [(o0, .inr (5, [.int th, .int dy, .int me, .int co, .int (nI np), .int ca, .int br, .int ml, .ref o1, .ref o2, .ref o3, .ref o4, .ref o5, .ref o6, .int le, .ref o7, .ref o8])), (o1, zI Z 3770 f)] (zQi Z (po_X5_worn Z o0 o1 o2 o3 o4 o5 o6 o7 o8 np th dy me co ca br ml le f fr) (wp_X5_worn Z o0 o1 o2 o3 o4 o5 o6 o7 o8 np th dy me co ca br ml le f fr)) 0 0 := by
  refine zstart (cc := cX5_worn) (maxL := 4) (ret := (some .int)) (by decide) rfl (Nat.le_of_ble_eq_true rfl) ?_
  intro p e s m below meth c ls A hx hb hr hC hlk hnm hX hW hl
  have hml := hC.2.2.1
  have hown : s.vm.findClass RX5 = some m.cls := hC.2.2.2.1
  have hts := hC.2.2.2.2
  have hl : lv_has ls 4 [(0, .ref o0), (1, .int (nI fr))] := hl
  refine lv_iconst (v := nI 0) hx hb dX5_worn_0 (by decide) ?_
  refine lv_istore_n (lv' := [(2, .int (nI 0)), (0, .ref o0), (1, .int (nI fr))]) hx hb dX5_worn_1 rfl hl (by decide) rfl (fun ls hl => ?_)
  refine lv_iconst (v := nI 0) hx hb dX5_worn_2 (by decide) ?_
  refine lv_istore_n (lv' := [(3, .int (nI 0)), (2, .int (nI 0)), (0, .ref o0), (1, .int (nI fr))]) hx hb dX5_worn_3 rfl hl (by decide) rfl (fun ls hl => ?_)
  have loop_4 : ∀ (n : Nat) (j : Nat) (x : Int32), (j ≤ 290) → (x = bx_sum (wr (sh f fr)) j) → (290 - j < n) → ∀ (H : Heap) (locs : List Loc) (ls : Array Slot), zW Z s A [(o0, .inr (5, [.int th, .int dy, .int me, .int co, .int (nI np), .int ca, .int br, .int ml, .ref o1, .ref o2, .ref o3, .ref o4, .ref o5, .ref o6, .int le, .ref o7, .ref o8])), (o1, zI Z 3770 f)] H locs → lv_has ls 4 [(3, .int (nI j)), (2, .int x), (0, .ref o0), (1, .int (nI fr))] → W p l e rm_X5_worn s m ([.ref o0, .int (nI fr)] : List Value).toArray below meth c H locs 0 0 (MQ below (zQi Z (po_X5_worn Z o0 o1 o2 o3 o4 o5 o6 o7 o8 np th dy me co ca br ml le f fr) (wp_X5_worn Z o0 o1 o2 o3 o4 o5 o6 o7 o8 np th dy me co ca br ml le f fr) A) ([.ref o0, .int (nI fr)] : List Value).toArray s 0 0 A) (F0 m 4 ls []) := by
    intro n
    induction n with
    | zero =>
      intro j x hj hx9 hm
      exact absurd hm (Nat.not_lt_zero _)
    | succ n ih =>
      intro j x hj hx9 hm H locs ls hW hl
      have ih_4 := ih
      refine lv_iload_n hx hb dX5_worn_4 rfl (lv_at hl 0 rfl) ?_
      refine lv_sipush (v := nI 290) hx hb dX5_worn_5 (by decide) ?_
      refine zn_icmp_ge (tgt := 33) (a := j) (b := 290) hx hb (by omega) (by omega) dX5_worn_8 (by decide) (fun c_8 => ?_) (fun c_8 => ?_)
      · refine lv_iload_n hx hb dX5_worn_33 rfl (lv_at hl 1 rfl) ?_
        exact z_iret hx hb hr hlk hW () (by rw [hx9, show j = 290 by omega]) (rfl) (by omega) (by omega) dX5_worn_34
      · refine lv_iload_n hx hb dX5_worn_11 rfl (lv_at hl 1 rfl) ?_
        refine lv_aload_n hx hb dX5_worn_12 rfl (lv_at hl 2 rfl) ?_
        refine z_get (C := RX5) (T := TX5) (N := 17) hx hb hts mw_X5_worn_1 hown hX hW 0 rfl rfl 8 (by decide) mw_X5_worn_0 (fun _ h9 => h9) rfl dX5_worn_13 ?_
        refine lv_iload_n hx hb dX5_worn_16 rfl (lv_at hl 3 rfl) ?_
        refine lv_iload_n hx hb dX5_worn_17 rfl (lv_at hl 0 rfl) ?_
        refine lv_iadd hx hb dX5_worn_18 ?_
        refine zw_topi (nI_add _ _) ?_
        refine z_iald hx hb hX hW 1 rfl (k := (fr + j)) (by omega) (by omega) dX5_worn_19 ?_
        refine lv_iload_n hx hb dX5_worn_20 rfl (lv_at hl 0 rfl) ?_
        refine lv_bipush (v := nI 10) hx hb dX5_worn_21 (by decide) ?_
        refine lv_irem hx hb dX5_worn_23 (by decide) ?_
        refine zw_topi (pk_rem (by omega) (by omega) (by omega)) ?_
        refine lv_imul hx hb dX5_worn_24 ?_
        refine lv_iadd hx hb dX5_worn_25 ?_
        refine lv_istore_n (lv' := [(2, .int (x + ((f (fr + j)) * (nI (j % 10))))), (3, .int (nI j)), (0, .ref o0), (1, .int (nI fr))]) hx hb dX5_worn_26 rfl hl (by decide) rfl (fun ls hl => ?_)
        refine lv_iinc (v := nI (j + 1)) (lv' := [(3, .int (nI (j + 1))), (2, .int (x + ((f (fr + j)) * (nI (j % 10))))), (0, .ref o0), (1, .int (nI fr))]) hx hb dX5_worn_27 hl (k := 1) rfl (zinc1 _) (by decide) rfl (fun ls hl => ?_)
        refine lv_goto (tgt := 4) hx hb dX5_worn_30 (by decide) ?_
        have hl : lv_has ls 4 [(3, .int (nI (j + 1))), (2, .int (x + ((f (fr + j)) * (nI (j % 10))))), (0, .ref o0), (1, .int (nI fr))] := lv_sub hl [0, 1, 2, 3] rfl
        exact ih_4 (j + 1) (x + ((f (fr + j)) * (nI (j % 10)))) (by omega) (by rw [hx9, sh_at (f := f) (fr := fr) (j := j) (by omega)]; rfl) (by omega) _ _ _ hW hl
  have hl : lv_has ls 4 [(3, .int (nI 0)), (2, .int (nI 0)), (0, .ref o0), (1, .int (nI fr))] := lv_sub hl [0, 1, 2, 3] rfl
  exact loop_4 _ 0 (nI 0) (by omega) rfl (Nat.lt_succ_self _) _ _ _ hW hl
