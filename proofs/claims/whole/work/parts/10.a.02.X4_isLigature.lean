abbrev wp_X4_isLigature (Z : zT) (g : Nat) : Unit → va_W := fun (u : Unit) => []
abbrev po_X4_isLigature (Z : zT) (g : Nat) : Int32 → Unit → Prop := fun (r : Int32) (u : Unit) => r = if 26 ≤ g then (1 : Int32) else 0
abbrev rm_X4_isLigature : Room := { frames := 0, cells := 0, slots := 0, locals := 0 }
set_option maxHeartbeats 4000000 in
set_option maxRecDepth 100000 in
theorem c_X4_isLigature (l : Launch) (Z : zT) (g : Nat) (hg : g < 29) : zMet l yX4_isLigature wsX4_isLigature rm_X4_isLigature [.int (nI g)] Z [] (zQi Z (po_X4_isLigature Z g) (wp_X4_isLigature Z g)) 0 0 := by
  refine zstart (cc := cX4_isLigature) (maxL := 1) (ret := (some .boolean)) (by decide) rfl (Nat.le_of_ble_eq_true rfl) ?_
  intro p e s m below meth c ls A hx hb hr hC hlk hnm hX hW hl
  have hml := hC.2.2.1
  have hown : s.vm.findClass RX4 = some m.cls := hC.2.2.2.1
  have hts := hC.2.2.2.2
  have hl : lv_has ls 1 [(0, .int (nI g))] := hl
  refine lv_iload_n hx hb dX4_isLigature_0 rfl (lv_at hl 0 rfl) ?_
  refine lv_bipush (v := nI 26) hx hb dX4_isLigature_1 (by decide) ?_
  refine zn_icmp_lt (tgt := 10) (a := g) (b := 26) hx hb (by omega) (by omega) dX4_isLigature_3 (by decide) (fun c_3 => ?_) (fun c_3 => ?_)
  · refine lv_iconst (v := nI 0) hx hb dX4_isLigature_10 (by decide) ?_
    exact z_zret hx hb hr hlk (rfl) hW () (by first | exact (if_neg (by omega)).symm | exact (if_pos (by omega)).symm) (rfl) (by omega) (by omega) dX4_isLigature_11
  · refine lv_iconst (v := nI 1) hx hb dX4_isLigature_6 (by decide) ?_
    refine lv_goto (tgt := 11) hx hb dX4_isLigature_7 (by decide) ?_
    exact z_zret hx hb hr hlk (rfl) hW () (by first | exact (if_neg (by omega)).symm | exact (if_pos (by omega)).symm) (rfl) (by omega) (by omega) dX4_isLigature_11
