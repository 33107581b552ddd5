/-! ===== the law ===== -/
def LI (Z : zT) (s : State) (A : Nat → Prop) (nc : Nat) (o0 o1 o2 o3 o4 o5 o6 o7 o8 x st sb pa sp spb se sl sk ou : Nat) (H : Heap) (locs : List Loc) : Prop :=
  ∃ (th : Int32) (dy : Int32) (me : Int32) (co : Int32) (ca : Int32) (br : Int32) (ml : Int32) (le : Int32) (fp : Int32) (np : Nat) (S : Nat → Int32) (E : Nat → Int32) (Tk : Nat → Int32) (Lf : Nat → Int32) (L : Nat → Int32) (lf : Nat → Int32) (tk : Nat → Int32) (F : Nat → Nat → Int32) (G : Nat → Nat → Int32) (pn : Nat → Nat → Int32) (ad : Nat → Nat → Nat) (ov : Nat → Int64), np ≤ 6 ∧ GI nc S F G np pn ∧ zW Z s A ((o0, .inr (5, [.int th, .int dy, .int me, .int co, .int (nI np), .int ca, .int br, .int ml, .ref o1, .ref o2, .ref o3, .ref o4, .ref o5, .ref o6, .int le, .ref o7, .ref o8])) :: (o1, zI Z 3770 (stF S F G)) :: (o2, zI Z 6 (qF pn 0)) :: (o3, zI Z 6 (qF pn 1)) :: (o4, zI Z 6 (qF pn 2)) :: (o5, zI Z 6 (qF pn 3)) :: (o6, zI Z 6 E) :: (o7, zI Z 29 Tk) :: (o8, zI Z 29 Lf) :: (ou, zL Z 1 ov) :: (x, .inr (4, [.ref st, .ref pa, .int (nI np), .int dy, .int me, .int co, .int ca, .int br, .int ml, .ref sp, .ref se])) :: (st, .inr (2, [.ref sb])) :: (sb, zI Z 290 S) :: (pa, zQ Z 6 (pav ad np)) :: (sp, .inr (3, [.ref spb, .int fp])) :: (spb, zI Z 6 L) :: (se, .inr (1, [.ref sl, .ref sk])) :: (sl, zI Z 29 lf) :: (sk, zI Z 29 tk) :: zpool np (pcs Z ad F G pn)) H locs
theorem lg_self (x : Int64) : lg_cmp x x = nI 0 := by
  unfold lg_cmp
  simp
  try rfl
section ZLAW
variable {p : Program} {l : Launch} {e : Env} {R : Room} {s : State} {m : MethodId} {args : Array Value} {below : List Frame} {meth : Method} {c : Code} {H : Heap} {locs : List Loc} {cells slots : Nat} {Q : State → Prop}
variable {cc : ByteArray} {pc : Nat} {ls : Array Slot} {rest : List Value} {Z : zT} {A : Nat → Prop} {ws : va_W}
/-- a number of the script -/
theorem z_sld (hx : p.tables.exec = Jvm.exec) (hb : c.code = cc) {b LL : Nat} {xs : Nat → Int32} (hsc : va_X b LL xs s s.heap) (hbl : b < s.heap.size) (hbA : ¬ A b) (hLL : LL ≤ 2048) (h : zW Z s A ws H locs) {k : Nat} (hk : k < LL) (hdg : decode cc pc = .ok (.iaload, 1))
    (kk : W p l e R s m args below meth c H locs cells slots Q (F0 m (pc + 1) ls (.int (xs k) :: rest))) : W p l e R s m args below meth c H locs cells slots Q (F0 m pc ls (.int (nI k) :: .ref b :: rest)) :=
  va_sld hx hb hsc hbl hbA h.2.2 (nI_in hk (by omega)) hdg (by rw [nI_clamp (by omega)]; exact kk)
theorem z_slen (hx : p.tables.exec = Jvm.exec) (hb : c.code = cc) {b LL : Nat} {xs : Nat → Int32} (hsc : va_X b LL xs s s.heap) (hbl : b < s.heap.size) (hbA : ¬ A b) (h : zW Z s A ws H locs) (hdg : decode cc pc = .ok (.arraylength, 1))
    (kk : W p l e R s m args below meth c H locs cells slots Q (F0 m (pc + 1) ls (.int (nI LL) :: rest))) : W p l e R s m args below meth c H locs cells slots Q (F0 m pc ls (.ref b :: rest)) :=
  va_slen hx hb hsc hbl hbA h.2.2 hdg kk
end ZLAW
