theorem mw_X0_digestOnto_0 : Cond.constantLong RX0 41 (31) ∈ wsX0_digestOnto := by decide +kernel
abbrev wp_X0_digestOnto (Z : zT) (a0 a1 a2 a3 a4 : Nat) (f g : Nat → Int32) (c0 c1 c2 c3 : Int32) (d : Int64) : Unit → va_W := fun (u : Unit) => [(a0, .inr (0, [.ref a1, .ref a3, .int c0, .int c1, .int c2, .int c3])), (a1, .inr (2, [.ref a2])), (a2, zI Z 290 f), (a3, .inr (2, [.ref a4])), (a4, zI Z 290 g)]
abbrev po_X0_digestOnto (Z : zT) (a0 a1 a2 a3 a4 : Nat) (f g : Nat → Int32) (c0 c1 c2 c3 : Int32) (d : Int64) : Int64 → Unit → Prop := fun (r : Int64) (u : Unit) => r = pdg d f g (q4 c0 c1 c2 c3) 7
abbrev rm_X0_digestOnto : Room := { frames := 2, cells := 0, slots := 0, locals := 43 }
set_option maxHeartbeats 4000000 in
set_option maxRecDepth 100000 in
theorem c_X0_digestOnto (l : Launch) (Z : zT) (a0 a1 a2 a3 a4 : Nat) (f g : Nat → Int32) (c0 c1 c2 c3 : Int32) (d : Int64)  : zMet l yX0_digestOnto wsX0_digestOnto rm_X0_digestOnto [.ref a0, .long d] Z [(a0, .inr (0, [.ref a1, .ref a3, .int c0, .int c1, .int c2, .int c3])), (a1, .inr (2, [.ref a2])), (a2, zI Z 290 f), (a3, .inr (2, [.ref a4])), (a4, zI Z 290 g)] (zQl Z (po_X0_digestOnto Z a0 a1 a2 a3 a4 f g c0 c1 c2 c3 d) (wp_X0_digestOnto Z a0 a1 a2 a3 a4 f g c0 c1 c2 c3 d)) 0 0 := by
  refine zstart (cc := cX0_digestOnto) (maxL := 6) (ret := (some .long)) (by decide) rfl (Nat.le_of_ble_eq_true rfl) ?_
  intro p e s m below meth c ls A hx hb hr hC hlk hnm hX hW hl
  have hml := hC.2.2.1
  have hown : s.vm.findClass RX0 = some m.cls := hC.2.2.2.1
  have hts := hC.2.2.2.2
  have hl : lv_has ls 6 [(0, .ref a0), (1, .long d)] := hl
  refine lv_lload_n hx hb dX0_digestOnto_0 rfl (lv_at hl 1 rfl) ?_
  refine lv_lstore_n (lv' := [(3, .long d), (0, .ref a0), (1, .long d)]) hx hb dX0_digestOnto_1 rfl hl (by decide) rfl (fun ls hl => ?_)
  refine lv_iconst (v := nI 0) hx hb dX0_digestOnto_2 (by decide) ?_
  refine lv_istore (lv' := [(5, .int (nI 0)), (3, .long d), (0, .ref a0), (1, .long d)]) hx hb dX0_digestOnto_3 hl (by decide) rfl (fun ls hl => ?_)
  have loop_5 : ∀ (n : Nat) (j : Nat), (j ≤ 7) → (7 - j < n) → ∀ (H : Heap) (locs : List Loc) (ls : Array Slot), zW Z s A [(a0, .inr (0, [.ref a1, .ref a3, .int c0, .int c1, .int c2, .int c3])), (a1, .inr (2, [.ref a2])), (a2, zI Z 290 f), (a3, .inr (2, [.ref a4])), (a4, zI Z 290 g)] H locs → lv_has ls 6 [(5, .int (nI j)), (3, .long (pdg d f g (q4 c0 c1 c2 c3) j)), (0, .ref a0), (1, .long d)] → W p l e rm_X0_digestOnto s m ([.ref a0, .long d] : List Value).toArray below meth c H locs 0 0 (MQ below (zQl Z (po_X0_digestOnto Z a0 a1 a2 a3 a4 f g c0 c1 c2 c3 d) (wp_X0_digestOnto Z a0 a1 a2 a3 a4 f g c0 c1 c2 c3 d) A) ([.ref a0, .long d] : List Value).toArray s 0 0 A) (F0 m 5 ls []) := by
    intro n
    induction n with
    | zero =>
      intro j hj hm
      exact absurd hm (Nat.not_lt_zero _)
    | succ n ih =>
      intro j hj hm H locs ls hW hl
      have ih_5 := ih
      refine lv_iload hx hb dX0_digestOnto_5 (lv_at hl 0 rfl) ?_
      refine lv_bipush (v := nI 7) hx hb dX0_digestOnto_7 (by decide) ?_
      refine zn_icmp_ge (tgt := 32) (a := j) (b := 7) hx hb (by omega) (by omega) dX0_digestOnto_9 (by decide) (fun c_9 => ?_) (fun c_9 => ?_)
      · refine lv_lload_n hx hb dX0_digestOnto_32 rfl (lv_at hl 1 rfl) ?_
        exact z_lret hx hb hr hlk hW () (by rw [show j = 7 by omega]) (rfl) (by omega) (by omega) dX0_digestOnto_33
      · refine lv_lload_n hx hb dX0_digestOnto_12 rfl (lv_at hl 1 rfl) ?_
        refine lv_ldc2 (own := RX0) (v := 31) hx hb hown (hts _ mw_X0_digestOnto_0) dX0_digestOnto_13 ?_
        refine lv_lmul hx hb dX0_digestOnto_16 ?_
        refine lv_aload_n hx hb dX0_digestOnto_17 rfl (lv_at hl 2 rfl) ?_
        refine lv_iload hx hb dX0_digestOnto_18 (lv_at hl 0 rfl) ?_
        refine zc_i (va_runV (As := [.int (nI j)]) (rest := [.long ((pdg d f g (q4 c0 c1 c2 c3) j) * 31)]) hC (c_X0_number l Z a0 a1 a2 a3 a4 f g c0 c1 c2 c3 j (by omega) _) (cwV 1 hts gX0_digestOnto_X0_number rfl rfl rfl (by decide +kernel) ⟨Nat.le_of_ble_eq_true rfl, Nat.le_of_ble_eq_true rfl⟩) (zpreV (ci := 0) (q0 := 0) hX hW rfl rfl [0, 1, 2, 3, 4] rfl (by decide)) rfl rfl hl.1 rfl (lv_room (Nat.le_of_ble_eq_true rfl)) dX0_digestOnto_20 ⟨Nat.le_of_ble_eq_true rfl, Nat.le_of_ble_eq_true rfl⟩) hX hW [0, 1, 2, 3, 4] rfl (by decide) (fun _ => rfl) (fun r_20 u_20 H locs h_20 hW => ?_)
        have hW : zW Z s A [(a0, .inr (0, [.ref a1, .ref a3, .int c0, .int c1, .int c2, .int c3])), (a1, .inr (2, [.ref a2])), (a2, zI Z 290 f), (a3, .inr (2, [.ref a4])), (a4, zI Z 290 g)] _ _ := hW
        subst h_20
        refine lv_i2l (v := (nmb f g (q4 c0 c1 c2 c3) j).toInt64) hx hb dX0_digestOnto_23 rfl ?_
        refine lv_ladd hx hb dX0_digestOnto_24 ?_
        refine lv_lstore_n (lv' := [(3, .long (((pdg d f g (q4 c0 c1 c2 c3) j) * 31) + ((nmb f g (q4 c0 c1 c2 c3) j).toInt64))), (5, .int (nI j)), (0, .ref a0), (1, .long d)]) hx hb dX0_digestOnto_25 rfl hl (by decide) rfl (fun ls hl => ?_)
        refine lv_iinc (v := nI (j + 1)) (lv' := [(5, .int (nI (j + 1))), (3, .long (((pdg d f g (q4 c0 c1 c2 c3) j) * 31) + ((nmb f g (q4 c0 c1 c2 c3) j).toInt64))), (0, .ref a0), (1, .long d)]) hx hb dX0_digestOnto_26 hl (k := 1) rfl (zinc1 _) (by decide) rfl (fun ls hl => ?_)
        refine lv_goto (tgt := 5) hx hb dX0_digestOnto_29 (by decide) ?_
        have hl : lv_has ls 6 [(5, .int (nI (j + 1))), (3, .long (pdg d f g (q4 c0 c1 c2 c3) (j + 1))), (0, .ref a0), (1, .long d)] := lv_sub hl [0, 1, 2, 3] rfl
        exact ih_5 (j + 1) (by omega) (by omega) _ _ _ hW hl
  have hl : lv_has ls 6 [(5, .int (nI 0)), (3, .long (pdg d f g (q4 c0 c1 c2 c3) 0)), (0, .ref a0), (1, .long d)] := lv_sub hl [0, 1, 2, 3] rfl
  exact loop_5 _ 0 (by omega) (Nat.lt_succ_self _) _ _ _ hW hl
