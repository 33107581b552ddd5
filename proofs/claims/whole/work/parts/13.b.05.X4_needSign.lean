theorem mw_X4_needSign_0 : Cond.classLink RX4 179 (zEx 1) ∈ wsX4_needSign := by decide +kernel
theorem mw_X4_needSign_1 : Cond.initialized (zEx 1) ∈ wsX4_needSign := by decide +kernel
theorem mw_X4_needSign_2 : ∀ w ∈ (vx_atS RX4 183 (zEx 1) zEs).filter goodWord, w ∈ wsX4_needSign := by decide +kernel
abbrev wp_X4_needSign (Z : zT) (v : Int32) : Unit → va_W := fun (u : Unit) => []
abbrev po_X4_needSign (Z : zT) (v : Int32) : Unit → Prop := fun (u : Unit) => isS v
abbrev wx_X4_needSign (Z : zT) (v : Int32) : Unit → va_W := fun (u : Unit) => []
abbrev px_X4_needSign (Z : zT) (v : Int32) : Nat → Unit → Prop := fun (k : Nat) (u : Unit) => k = 1 ∧ ¬ isS v
abbrev rm_X4_needSign : Room := { frames := 6, cells := 1, slots := 6, locals := 82 }
set_option maxHeartbeats 4000000 in
set_option maxRecDepth 100000 in
theorem c_X4_needSign (l : Launch) (Z : zT) (v : Int32) (hfl : l.stackTraces = false)  : zTet l yX4_needSign wsX4_needSign rm_X4_needSign [.int v] Z [] (zQv Z (po_X4_needSign Z v) (wp_X4_needSign Z v)) (zXC Z (px_X4_needSign Z v) (wx_X4_needSign Z v)) 1 6 := by
  refine ztstart (cc := cX4_needSign) (maxL := 1) (ret := none) (by decide) rfl (Nat.le_of_ble_eq_true rfl) ?_
  intro p e s m below meth c ls A hx hb hr hC hlk hno hX hW hl
  have hml := hC.2.2.1
  have hown : s.vm.findClass RX4 = some m.cls := hC.2.2.2.1
  have hts := hC.2.2.2.2
  have hl : lv_has ls 1 [(0, .int v)] := hl
  refine lv_iload_n hx hb dX4_needSign_0 rfl (lv_at hl 0 rfl) ?_
  refine lv_if_lt (tgt := 10) hx hb dX4_needSign_1 (by decide) (fun c_1 => ?_) (fun c_1 => ?_)
  · exact z_throw hx hb hfl hC 1 zfit1 mw_X4_needSign_0 mw_X4_needSign_1 mw_X4_needSign_2 zng1 zgd1 (is := 222) (text := "sign is not 0 to 28") (by decide +kernel) hX hW hl.1 dX4_needSign_10 dX4_needSign_13 dX4_needSign_14 dX4_needSign_16 dX4_needSign_19 hno hlk (Nat.le_of_ble_eq_true rfl) (Nat.le_of_ble_eq_true rfl) (Nat.le_of_ble_eq_true rfl) (Nat.le_of_ble_eq_true rfl) () (⟨rfl, znot (by omega) (by first | exact Or.inl c_1 | exact Or.inr (Int32.not_lt.mp c_7))⟩) (rfl) (Nat.le_of_ble_eq_true rfl) (Nat.le_of_ble_eq_true rfl)
  · refine lv_iload_n hx hb dX4_needSign_4 rfl (lv_at hl 0 rfl) ?_
    refine lv_bipush (v := nI 29) hx hb dX4_needSign_5 (by decide) ?_
    refine lv_icmp_lt (tgt := 20) hx hb dX4_needSign_7 (by decide) (fun c_7 => ?_) (fun c_7 => ?_)
    · refine vx_ret ?_
      exact z_vret hx hb hr hlk hW () (zof (by omega) c_1 c_7) (rfl) (by omega) (by omega) dX4_needSign_20
    · exact z_throw hx hb hfl hC 1 zfit1 mw_X4_needSign_0 mw_X4_needSign_1 mw_X4_needSign_2 zng1 zgd1 (is := 222) (text := "sign is not 0 to 28") (by decide +kernel) hX hW hl.1 dX4_needSign_10 dX4_needSign_13 dX4_needSign_14 dX4_needSign_16 dX4_needSign_19 hno hlk (Nat.le_of_ble_eq_true rfl) (Nat.le_of_ble_eq_true rfl) (Nat.le_of_ble_eq_true rfl) (Nat.le_of_ble_eq_true rfl) () (⟨rfl, znot (by omega) (by first | exact Or.inl c_1 | exact Or.inr (Int32.not_lt.mp c_7))⟩) (rfl) (Nat.le_of_ble_eq_true rfl) (Nat.le_of_ble_eq_true rfl)
