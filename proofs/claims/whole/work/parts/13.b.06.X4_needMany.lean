theorem mw_X4_needMany_0 : Cond.classLink RX4 71 (zEx 2) ∈ wsX4_needMany := by decide +kernel
theorem mw_X4_needMany_1 : Cond.initialized (zEx 2) ∈ wsX4_needMany := by decide +kernel
theorem mw_X4_needMany_2 : ∀ w ∈ (vx_atS RX4 75 (zEx 2) zEs).filter goodWord, w ∈ wsX4_needMany := by decide +kernel
abbrev wp_X4_needMany (Z : zT) (v : Int32) : Unit → va_W := fun (u : Unit) => []
abbrev po_X4_needMany (Z : zT) (v : Int32) : Unit → Prop := fun (u : Unit) => isM v
abbrev wx_X4_needMany (Z : zT) (v : Int32) : Unit → va_W := fun (u : Unit) => []
abbrev px_X4_needMany (Z : zT) (v : Int32) : Nat → Unit → Prop := fun (k : Nat) (u : Unit) => k = 2 ∧ ¬ isM v
abbrev rm_X4_needMany : Room := { frames := 6, cells := 1, slots := 6, locals := 82 }
set_option maxHeartbeats 4000000 in
set_option maxRecDepth 100000 in
theorem c_X4_needMany (l : Launch) (Z : zT) (v : Int32) (hfl : l.stackTraces = false)  : zTet l yX4_needMany wsX4_needMany rm_X4_needMany [.int v] Z [] (zQv Z (po_X4_needMany Z v) (wp_X4_needMany Z v)) (zXC Z (px_X4_needMany Z v) (wx_X4_needMany Z v)) 1 6 := by
  refine ztstart (cc := cX4_needMany) (maxL := 1) (ret := none) (by decide) rfl (Nat.le_of_ble_eq_true rfl) ?_
  intro p e s m below meth c ls A hx hb hr hC hlk hno hX hW hl
  have hml := hC.2.2.1
  have hown : s.vm.findClass RX4 = some m.cls := hC.2.2.2.1
  have hts := hC.2.2.2.2
  have hl : lv_has ls 1 [(0, .int v)] := hl
  refine lv_iload_n hx hb dX4_needMany_0 rfl (lv_at hl 0 rfl) ?_
  refine lv_iconst (v := nI 1) hx hb dX4_needMany_1 (by decide) ?_
  refine lv_icmp_lt (tgt := 12) hx hb dX4_needMany_2 (by decide) (fun c_2 => ?_) (fun c_2 => ?_)
  · exact z_throw hx hb hfl hC 2 zfit2 mw_X4_needMany_0 mw_X4_needMany_1 mw_X4_needMany_2 zng2 zgd2 (is := 224) (text := "many is not 1 to 200") (by decide +kernel) hX hW hl.1 dX4_needMany_12 dX4_needMany_15 dX4_needMany_16 dX4_needMany_18 dX4_needMany_21 hno hlk (Nat.le_of_ble_eq_true rfl) (Nat.le_of_ble_eq_true rfl) (Nat.le_of_ble_eq_true rfl) (Nat.le_of_ble_eq_true rfl) () (⟨rfl, by first | exact inR_lo c_2 | exact inR_hi c_9⟩) (rfl) (Nat.le_of_ble_eq_true rfl) (Nat.le_of_ble_eq_true rfl)
  · refine lv_iload_n hx hb dX4_needMany_5 rfl (lv_at hl 0 rfl) ?_
    refine lv_sipush (v := nI 200) hx hb dX4_needMany_6 (by decide) ?_
    refine lv_icmp_le (tgt := 22) hx hb dX4_needMany_9 (by decide) (fun c_9 => ?_) (fun c_9 => ?_)
    · refine vx_ret ?_
      exact z_vret hx hb hr hlk hW () (inR_of c_2 c_9) (rfl) (by omega) (by omega) dX4_needMany_22
    · exact z_throw hx hb hfl hC 2 zfit2 mw_X4_needMany_0 mw_X4_needMany_1 mw_X4_needMany_2 zng2 zgd2 (is := 224) (text := "many is not 1 to 200") (by decide +kernel) hX hW hl.1 dX4_needMany_12 dX4_needMany_15 dX4_needMany_16 dX4_needMany_18 dX4_needMany_21 hno hlk (Nat.le_of_ble_eq_true rfl) (Nat.le_of_ble_eq_true rfl) (Nat.le_of_ble_eq_true rfl) (Nat.le_of_ble_eq_true rfl) () (⟨rfl, by first | exact inR_lo c_2 | exact inR_hi c_9⟩) (rfl) (Nat.le_of_ble_eq_true rfl) (Nat.le_of_ble_eq_true rfl)
