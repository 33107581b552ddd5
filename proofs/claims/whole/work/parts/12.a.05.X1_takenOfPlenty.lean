theorem mw_X1_takenOfPlenty_0 : Cond.fieldLink RX1 9 "TypeFoundry$Setting" "left" "[I" ∈ wsX1_takenOfPlenty := by decide +kernel
theorem mw_X1_takenOfPlenty_1 : ∀ w ∈ wsX10, w ∈ wsX1_takenOfPlenty := by decide +kernel
abbrev wp_X1_takenOfPlenty (Z : zT) (z zl zt : Nat) (lf tk : Nat → Int32) (g : Nat) : Unit → va_W := fun (u : Unit) => [(z, .inr (1, [.ref zl, .ref zt])), (zl, zI Z 29 lf), (zt, zI Z 29 tk)]
abbrev po_X1_takenOfPlenty (Z : zT) (z zl zt : Nat) (lf tk : Nat → Int32) (g : Nat) : Int32 → Unit → Prop := fun (r : Int32) (u : Unit) => r = nI 100 - lf g
abbrev rm_X1_takenOfPlenty : Room := { frames := 0, cells := 0, slots := 0, locals := 0 }
set_option maxHeartbeats 4000000 in
set_option maxRecDepth 100000 in
theorem c_X1_takenOfPlenty (l : Launch) (Z : zT) (z zl zt : Nat) (lf tk : Nat → Int32) (g : Nat) (hg : g < 29) : zMet l yX1_takenOfPlenty wsX1_takenOfPlenty rm_X1_takenOfPlenty [.ref z, .int (nI g)] Z [(z, .inr (1, [.ref zl, .ref zt])), (zl, zI Z 29 lf), (zt, zI Z 29 tk)] (zQi Z (po_X1_takenOfPlenty Z z zl zt lf tk g) (wp_X1_takenOfPlenty Z z zl zt lf tk g)) 0 0 := by
  refine zstart (cc := cX1_takenOfPlenty) (maxL := 2) (ret := (some .int)) (by decide) rfl (Nat.le_of_ble_eq_true rfl) ?_
  intro p e s m below meth c ls A hx hb hr hC hlk hnm hX hW hl
  have hml := hC.2.2.1
  have hown : s.vm.findClass RX1 = some m.cls := hC.2.2.2.1
  have hts := hC.2.2.2.2
  have hl : lv_has ls 2 [(0, .ref z), (1, .int (nI g))] := hl
  refine lv_iload_n hx hb dX1_takenOfPlenty_0 rfl (lv_at hl 1 rfl) ?_
  refine zn_if_lt (tgt := 10) (a := g) hx hb (by omega) dX1_takenOfPlenty_1 (by decide) ?_
  refine lv_iload_n hx hb dX1_takenOfPlenty_4 rfl (lv_at hl 1 rfl) ?_
  refine lv_bipush (v := nI 29) hx hb dX1_takenOfPlenty_5 (by decide) ?_
  refine zn_icmp_lt (tgt := 14) (a := g) (b := 29) hx hb (by omega) (by omega) dX1_takenOfPlenty_7 (by decide) (fun c_7 => ?_) (fun c_7 => absurd (by omega) c_7)
  refine lv_bipush (v := nI 100) hx hb dX1_takenOfPlenty_14 (by decide) ?_
  refine lv_aload_n hx hb dX1_takenOfPlenty_16 rfl (lv_at hl 0 rfl) ?_
  refine z_get (C := RX1) (T := TX1) (N := 2) hx hb hts mw_X1_takenOfPlenty_1 hown hX hW 0 rfl rfl 0 (by decide) mw_X1_takenOfPlenty_0 (fun _ h9 => h9) rfl dX1_takenOfPlenty_17 ?_
  refine lv_iload_n hx hb dX1_takenOfPlenty_20 rfl (lv_at hl 1 rfl) ?_
  refine z_iald hx hb hX hW 1 rfl (k := g) (by omega) (by omega) dX1_takenOfPlenty_21 ?_
  refine lv_isub hx hb dX1_takenOfPlenty_22 ?_
  exact z_iret hx hb hr hlk hW () (rfl) (rfl) (by omega) (by omega) dX1_takenOfPlenty_23
