abbrev wp_X5_isIn (Z : zT) (v lo hi : Int32) : Unit → va_W := fun (u : Unit) => []
abbrev po_X5_isIn (Z : zT) (v lo hi : Int32) : Int32 → Unit → Prop := fun (r : Int32) (u : Unit) => r = bI (lo ≤ v ∧ v ≤ hi)
abbrev rm_X5_isIn : Room := { frames := 0, cells := 0, slots := 0, locals := 0 }
set_option maxHeartbeats 4000000 in
set_option maxRecDepth 100000 in
theorem c_X5_isIn (l : Launch) (Z : zT) (v lo hi : Int32)  : zMet l yX5_isIn wsX5_isIn rm_X5_isIn [.int v, .int lo, .int hi] Z [] (zQi Z (po_X5_isIn Z v lo hi) (wp_X5_isIn Z v lo hi)) 0 0 := by
  refine zstart (cc := cX5_isIn) (maxL := 3) (ret := (some .boolean)) (by decide) rfl (Nat.le_of_ble_eq_true rfl) ?_
  intro p e s m below meth c ls A hx hb hr hC hlk hnm hX hW hl
  have hml := hC.2.2.1
  have hown : s.vm.findClass RX5 = some m.cls := hC.2.2.2.1
  have hts := hC.2.2.2.2
  have hl : lv_has ls 3 [(0, .int v), (1, .int lo), (2, .int hi)] := hl
  refine lv_iload_n hx hb dX5_isIn_0 rfl (lv_at hl 0 rfl) ?_
  refine lv_iload_n hx hb dX5_isIn_1 rfl (lv_at hl 1 rfl) ?_
  refine lv_icmp_lt (tgt := 14) hx hb dX5_isIn_2 (by decide) (fun c_2 => ?_) (fun c_2 => ?_)
  · refine lv_iconst (v := nI 0) hx hb dX5_isIn_14 (by decide) ?_
    exact z_zret hx hb hr hlk (rfl) hW () (by unfold po_X5_isIn; first | exact bI_t ⟨Int32.not_lt.mp c_2, Int32.not_lt.mp c_7⟩ | exact bI_t ⟨Int32.not_lt.mp c_2, c_7⟩ | exact bI_f (fun h9 => absurd c_2 (Int32.not_lt.mpr h9.1)) | exact bI_f (fun h9 => absurd c_7 (Int32.not_lt.mpr h9.2))) (rfl) (by omega) (by omega) dX5_isIn_15
  · refine lv_iload_n hx hb dX5_isIn_5 rfl (lv_at hl 0 rfl) ?_
    refine lv_iload_n hx hb dX5_isIn_6 rfl (lv_at hl 2 rfl) ?_
    refine lv_icmp_gt (tgt := 14) hx hb dX5_isIn_7 (by decide) (fun c_7 => ?_) (fun c_7 => ?_)
    · refine lv_iconst (v := nI 0) hx hb dX5_isIn_14 (by decide) ?_
      exact z_zret hx hb hr hlk (rfl) hW () (by unfold po_X5_isIn; first | exact bI_t ⟨Int32.not_lt.mp c_2, Int32.not_lt.mp c_7⟩ | exact bI_t ⟨Int32.not_lt.mp c_2, c_7⟩ | exact bI_f (fun h9 => absurd c_2 (Int32.not_lt.mpr h9.1)) | exact bI_f (fun h9 => absurd c_7 (Int32.not_lt.mpr h9.2))) (rfl) (by omega) (by omega) dX5_isIn_15
    · refine lv_iconst (v := nI 1) hx hb dX5_isIn_10 (by decide) ?_
      refine lv_goto (tgt := 15) hx hb dX5_isIn_11 (by decide) ?_
      exact z_zret hx hb hr hlk (rfl) hW () (by unfold po_X5_isIn; first | exact bI_t ⟨Int32.not_lt.mp c_2, Int32.not_lt.mp c_7⟩ | exact bI_t ⟨Int32.not_lt.mp c_2, c_7⟩ | exact bI_f (fun h9 => absurd c_2 (Int32.not_lt.mpr h9.1)) | exact bI_f (fun h9 => absurd c_7 (Int32.not_lt.mpr h9.2))) (rfl) (by omega) (by omega) dX5_isIn_15
