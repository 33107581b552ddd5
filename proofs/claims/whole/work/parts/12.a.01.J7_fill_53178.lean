abbrev wp_J7_fill_53178 (Z : zT) (b : Nat) (f : Nat → Int32) (v : Int32) : Unit → va_W := fun (u : Unit) => [(b, zI Z 29 (fun _ => v))]
abbrev po_J7_fill_53178 (Z : zT) (b : Nat) (f : Nat → Int32) (v : Int32) : Unit → Prop := fun (u : Unit) => True
abbrev rm_J7_fill_53178 : Room := { frames := 0, cells := 0, slots := 0, locals := 0 }
set_option maxHeartbeats 4000000 in
set_option maxRecDepth 100000 in
theorem c_J7_fill_53178 (l : Launch) (Z : zT) (b : Nat) (f : Nat → Int32) (v : Int32)  : zMet l yJ7_fill_53178 wsJ7_fill_53178 rm_J7_fill_53178 [.ref b, .int v] Z [(b, zI Z 29 f)] (zQv Z (po_J7_fill_53178 Z b f v) (wp_J7_fill_53178 Z b f v)) 0 0 := by
  refine zstart (cc := cJ7_fill_53178) (maxL := 4) (ret := none) (by decide) rfl (Nat.le_of_ble_eq_true rfl) ?_
  intro p e s m below meth c ls A hx hb hr hC hlk hnm hX hW hl
  have hml := hC.2.2.1
  have hown : s.vm.findClass RJ7 = some m.cls := hC.2.2.2.1
  have hts := hC.2.2.2.2
  have hl : lv_has ls 4 [(0, .ref b), (1, .int v)] := hl
  refine lv_iconst (v := nI 0) hx hb dJ7_fill_53178_0 (by decide) ?_
  refine lv_istore_n (lv' := [(2, .int (nI 0)), (0, .ref b), (1, .int v)]) hx hb dJ7_fill_53178_1 rfl hl (by decide) rfl (fun ls hl => ?_)
  refine lv_aload_n hx hb dJ7_fill_53178_2 rfl (lv_at hl 1 rfl) ?_
  refine z_alen hx hb hX hW 0 rfl dJ7_fill_53178_3 ?_
  refine lv_istore_n (lv' := [(3, .int (nI 29)), (2, .int (nI 0)), (0, .ref b), (1, .int v)]) hx hb dJ7_fill_53178_4 rfl hl (by decide) rfl (fun ls hl => ?_)
  have loop_5 : ∀ (n : Nat) (j : Nat) (k : Nat → Int32), (j ≤ 29) → (k = fil (fun _ => v) f j) → (29 - j < n) → ∀ (H : Heap) (locs : List Loc) (ls : Array Slot), zW Z s A [(b, zI Z 29 k)] H locs → lv_has ls 4 [(3, .int (nI 29)), (2, .int (nI j)), (0, .ref b), (1, .int v)] → W p l e rm_J7_fill_53178 s m ([.ref b, .int v] : List Value).toArray below meth c H locs 0 0 (MQ below (zQv Z (po_J7_fill_53178 Z b f v) (wp_J7_fill_53178 Z b f v) A) ([.ref b, .int v] : List Value).toArray s 0 0 A) (F0 m 5 ls []) := by
    intro n
    induction n with
    | zero =>
      intro j k hj hk9 hm
      exact absurd hm (Nat.not_lt_zero _)
    | succ n ih =>
      intro j k hj hk9 hm H locs ls hW hl
      have ih_5 := ih
      refine lv_iload_n hx hb dJ7_fill_53178_5 rfl (lv_at hl 1 rfl) ?_
      refine lv_iload_n hx hb dJ7_fill_53178_6 rfl (lv_at hl 0 rfl) ?_
      refine zn_icmp_ge (tgt := 20) (a := j) (b := 29) hx hb (by omega) (by omega) dJ7_fill_53178_7 (by decide) (fun c_7 => ?_) (fun c_7 => ?_)
      · have hW := z_cong hW 0 rfl (f' := fun _ => v) (by rw [hk9, show j = 29 by omega]; exact fil_end)
        have hW : zW Z s A [(b, zI Z 29 (fun _ => v))] _ _ := hW
        exact z_vret hx hb hr hlk hW () (trivial) (rfl) (by omega) (by omega) dJ7_fill_53178_20
      · refine lv_aload_n hx hb dJ7_fill_53178_10 rfl (lv_at hl 2 rfl) ?_
        refine lv_iload_n hx hb dJ7_fill_53178_11 rfl (lv_at hl 1 rfl) ?_
        refine lv_iload_n hx hb dJ7_fill_53178_12 rfl (lv_at hl 3 rfl) ?_
        refine z_iast hx hb hX hW 0 rfl (k := j) (by omega) (by omega) dJ7_fill_53178_13 (fun H locs hW => ?_)
        have hW : zW Z s A [(b, zI Z 29 (upd k j v))] _ _ := hW
        refine lv_iinc (v := nI (j + 1)) (lv' := [(2, .int (nI (j + 1))), (3, .int (nI 29)), (0, .ref b), (1, .int v)]) hx hb dJ7_fill_53178_14 hl (k := 1) rfl (zinc1 _) (by decide) rfl (fun ls hl => ?_)
        refine lv_goto (tgt := 5) hx hb dJ7_fill_53178_17 (by decide) ?_
        have hl : lv_has ls 4 [(3, .int (nI 29)), (2, .int (nI (j + 1))), (0, .ref b), (1, .int v)] := lv_sub hl [1, 0, 2, 3] rfl
        exact ih_5 (j + 1) (upd k j v) (by omega) (by rw [hk9]; exact fil_s (fun _ => v) f j) (by omega) _ _ _ hW hl
  have hl : lv_has ls 4 [(3, .int (nI 29)), (2, .int (nI 0)), (0, .ref b), (1, .int v)] := lv_sub hl [0, 1, 2, 3] rfl
  exact loop_5 _ 0 f (by omega) (fil_0 _ _) (Nat.lt_succ_self _) _ _ _ hW hl
