/-! ===== worlds in another order; printers in any number ===== -/
theorem znd_iff (ws : va_W) : (∀ (i j : Nat) (p q : Nat × va_E), ws[i]? = some p → ws[j]? = some q → p.1 = q.1 → i = j) ↔ (ws.map (fun q => q.1)).Nodup := by
  rw [List.Nodup, List.pairwise_iff_getElem]
  constructor
  · intro h i j hi hj hij he
    simp only [List.length_map] at hi hj
    simp only [List.getElem_map] at he
    have := h i j _ _ (List.getElem?_eq_getElem hi) (List.getElem?_eq_getElem hj) he
    omega
  · intro h i j p q hi hj he
    obtain ⟨hi1, hi2⟩ := List.getElem?_eq_some_iff.mp hi
    obtain ⟨hj1, hj2⟩ := List.getElem?_eq_some_iff.mp hj
    rcases Nat.lt_trichotomy i j with q9 | q9 | q9
    · exact (h i j (by simpa using hi1) (by simpa using hj1) q9 (by rw [List.getElem_map, List.getElem_map, hi2, hj2]; exact he)).elim
    · exact q9
    · exact (h j i (by simpa using hj1) (by simpa using hi1) q9 (by rw [List.getElem_map, List.getElem_map, hi2, hj2]; exact he.symm)).elim
theorem zP_perm {D : va_G} {cl : List vw_C} {ws ws' : va_W} {H : Heap} (h : va_P D cl ws H) (hp : ws.Perm ws') : va_P D cl ws' H := fun k q hk => by
  obtain ⟨j, hj⟩ := List.getElem?_of_mem (hp.mem_iff.mpr (List.mem_of_getElem? hk))
  exact h j q hj
theorem zD_perm {A : Nat → Prop} {ws ws' : va_W} (h : va_D A ws) (hp : ws.Perm ws') : va_D A ws' := by
  refine ⟨(znd_iff ws').mpr ((hp.map (fun q => q.1)).nodup_iff.mp ((znd_iff ws).mp h.1)), fun k q hk => ?_⟩
  obtain ⟨j, hj⟩ := List.getElem?_of_mem (hp.mem_iff.mpr (List.mem_of_getElem? hk))
  exact h.2 j q hj
theorem zW_perm {Z : zT} {s : State} {A : Nat → Prop} {ws ws' : va_W} {H : Heap} {locs : List Loc} (h : zW Z s A ws H locs) (hp : ws.Perm ws') : zW Z s A ws' H locs := ⟨zP_perm h.1 hp, zD_perm h.2.1 hp, h.2.2⟩
/-- the cells of n things of a kind -/
def zpool (n : Nat) (f : Nat → va_W) : va_W := (List.range n).flatMap f
/-- those of all but the k-th -/
def zrest (k n : Nat) (f : Nat → va_W) : va_W := ((List.range n).filter (fun i => decide (i ≠ k))).flatMap f
theorem zflat_out (f : Nat → va_W) (k : Nat) : ∀ l : List Nat, l.Nodup → k ∈ l → (l.flatMap f).Perm (f k ++ (l.filter (fun i => decide (i ≠ k))).flatMap f) := by
  intro l
  induction l with
  | nil => intro _ h; cases h
  | cons a l ih =>
    intro hn hk
    obtain ⟨h1, h2⟩ := List.nodup_cons.mp hn
    by_cases ha : a = k
    · subst ha
      have e : l.filter (fun i => decide (i ≠ a)) = l := by
        refine List.filter_eq_self.mpr fun i hi => ?_
        exact decide_eq_true (fun q => h1 (q ▸ hi))
      rw [List.flatMap_cons, List.filter_cons, if_neg (by simp), e]
    · have hk2 : k ∈ l := (List.mem_cons.mp hk).elim (fun q => absurd q.symm ha) id
      rw [List.flatMap_cons, List.filter_cons, if_pos (by simpa using ha), List.flatMap_cons]
      refine ((ih h2 hk2).append_left (f a)).trans ?_
      rw [← List.append_assoc, ← List.append_assoc]
      exact List.perm_append_comm.append_right _
theorem zpool_out {k n : Nat} (f : Nat → va_W) (hk : k < n) : (zpool n f).Perm (f k ++ zrest k n f) := zflat_out f k _ List.nodup_range (List.mem_range.mpr hk)
theorem zrest_cong {k n : Nat} {f f' : Nat → va_W} (h : ∀ i, i < n → i ≠ k → f' i = f i) : zrest k n f' = zrest k n f := by
  unfold zrest
  have : ∀ l : List Nat, (∀ i ∈ l, i < n ∧ i ≠ k) → l.flatMap f' = l.flatMap f := by
    intro l
    induction l with
    | nil => intro _; rfl
    | cons a l ih =>
      intro hl
      rw [List.flatMap_cons, List.flatMap_cons, ih (fun i hi => hl i (List.mem_cons_of_mem _ hi)), h a (hl a List.mem_cons_self).1 (hl a List.mem_cons_self).2]
  refine this _ fun i hi => ?_
  have := List.mem_filter.mp hi
  exact ⟨List.mem_range.mp this.1, by simpa using this.2⟩
theorem zpool_cong {n : Nat} {f f' : Nat → va_W} (h : ∀ i, i < n → f' i = f i) : zpool n f' = zpool n f := by
  unfold zpool
  have : ∀ l : List Nat, (∀ i ∈ l, i < n) → l.flatMap f' = l.flatMap f := by
    intro l
    induction l with
    | nil => intro _; rfl
    | cons a l ih =>
      intro hl
      rw [List.flatMap_cons, List.flatMap_cons, ih (fun i hi => hl i (List.mem_cons_of_mem _ hi)), h a (hl a List.mem_cons_self)]
  exact this _ fun i hi => List.mem_range.mp hi
theorem zpool_in {k n : Nat} {f f' : Nat → va_W} {c : va_W} (hk : k < n) (hc : c = f' k) (h : ∀ i, i < n → i ≠ k → f' i = f i) : (c ++ zrest k n f).Perm (zpool n f') := by
  rw [hc, ← zrest_cong h]
  exact (zpool_out f' hk).symm
theorem zpool_s (n : Nat) (f : Nat → va_W) : zpool (n + 1) f = zpool n f ++ f n := by
  unfold zpool
  rw [List.range_succ, List.flatMap_append, List.flatMap_cons, List.flatMap_nil, List.append_nil]
def up {α : Type} (f : Nat → α) (k : Nat) (v : α) : Nat → α := fun i => if i = k then v else f i
theorem up_s {α : Type} (f : Nat → α) (k : Nat) (v : α) : up f k v k = v := if_pos rfl
theorem up_n {α : Type} (f : Nat → α) (k : Nat) (v : α) {i : Nat} (h : i ≠ k) : up f k v i = f i := if_neg h
/-- a printer's five cells -/
def pcs (Z : zT) (ad : Nat → Nat → Nat) (F G : Nat → Nat → Int32) (pn : Nat → Nat → Int32) (k : Nat) : va_W :=
  [(ad k 0, .inr (0, [.ref (ad k 1), .ref (ad k 3), .int (pn k 0), .int (pn k 1), .int (pn k 2), .int (pn k 3)])), (ad k 1, .inr (2, [.ref (ad k 2)])), (ad k 2, zI Z 290 (F k)), (ad k 3, .inr (2, [.ref (ad k 4)])), (ad k 4, zI Z 290 (G k))]
def pav (ad : Nat → Nat → Nat) (n : Nat) : Nat → Option Nat := fun i => if i < n then some (ad i 0) else none
theorem pav_s {ad : Nat → Nat → Nat} {n i : Nat} (h : i < n) : pav ad n i = some (ad i 0) := if_pos h
theorem pav_n {ad : Nat → Nat → Nat} {n i : Nat} (h : ¬ i < n) : pav ad n i = none := if_neg h
/-- four numbers of a printer -/
def q4 (a b c d : Int32) : Nat → Int32 := fun j => match j with
  | 0 => a
  | 1 => b
  | 2 => c
  | _ => d
/-- out of the pool, behind nine cells -/
theorem zp_out {Z : zT} {k n : Nat} {ad : Nat → Nat → Nat} {F G pn : Nat → Nat → Int32} (X : va_W) (hk : k < n) : (X ++ zpool n (pcs Z ad F G pn)).Perm (X ++ (pcs Z ad F G pn k ++ zrest k n (pcs Z ad F G pn))) := (zpool_out _ hk).append_left X
/-- back into it, as it is now -/
theorem zp_in {Z : zT} {k n : Nat} {ad : Nat → Nat → Nat} {F G pn : Nat → Nat → Int32} (X : va_W) (f g : Nat → Int32) (a b c d : Int32) (hk : k < n) :
    (X ++ ([(ad k 0, .inr (0, [.ref (ad k 1), .ref (ad k 3), .int a, .int b, .int c, .int d])), (ad k 1, .inr (2, [.ref (ad k 2)])), (ad k 2, zI Z 290 f), (ad k 3, .inr (2, [.ref (ad k 4)])), (ad k 4, zI Z 290 g)] ++ zrest k n (pcs Z ad F G pn))).Perm (X ++ zpool n (pcs Z ad (up F k f) (up G k g) (up pn k (q4 a b c d)))) := by
  refine (zpool_in hk ?_ fun i _ hi => ?_).append_left X
  · unfold pcs
    rw [up_s, up_s, up_s]
    rfl
  · unfold pcs
    rw [up_n _ _ _ hi, up_n _ _ _ hi, up_n _ _ _ hi]
/-- back into it, unchanged -/
theorem zp_same {Z : zT} {k n : Nat} {ad : Nat → Nat → Nat} {F G pn : Nat → Nat → Int32} (X : va_W) (hk : k < n) : (X ++ (pcs Z ad F G pn k ++ zrest k n (pcs Z ad F G pn))).Perm (X ++ zpool n (pcs Z ad F G pn)) := (zp_out X hk).symm
section ZQ
variable {p : Program} {l : Launch} {e : Env} {R : Room} {s : State} {m : MethodId} {args : Array Value} {below : List Frame} {meth : Method} {c : Code} {H : Heap} {locs : List Loc} {cells slots : Nat} {Q : State → Prop}
variable {cc : ByteArray} {pc : Nat} {ls : Array Slot} {rest st0 : List Value} {Z : zT} {A : Nat → Prop} {ws wc : va_W} {a : Array Value} {mc ms : Nat} {Qc : Array Value → State → Outcome → State → Prop}
theorem zw_topq {r : Option Nat} {x : Nat} (h : r = some x) (k : W p l e R s m args below meth c H locs cells slots Q (F0 m pc ls (.ref x :: rest))) : W p l e R s m args below meth c H locs cells slots Q (F0 m pc ls (va_rf r :: rest)) := by rw [h]; exact k
theorem zw_topn {r : Option Nat} (h : r = none) (k : W p l e R s m args below meth c H locs cells slots Q (F0 m pc ls (.null :: rest))) : W p l e R s m args below meth c H locs cells slots Q (F0 m pc ls (va_rf r :: rest)) := by rw [h]; exact k
theorem zthrownP {SX S0 : Type} {px : Nat → SX → Prop} {WX : SX → va_W} {px0 : Nat → S0 → Prop} {WX0 : S0 → va_W} {mc0 ms0 : Nat} (X : zX Z s A) (h : zW Z s A ws H locs) (is : List Nat) (hC : is.map (fun i => ws[i]?) = wc.map some) (hn : va_nd is = true) (hno : ∀ x ∈ c.exceptionTable.toList, False) (hlocks : meth.locks = false) (hlx : ∀ u, (WX u).length = is.length) (kx : ∀ k u, px k u → ∃ u0, px0 k u0 ∧ (zput ws is (WX u)).Perm (WX0 u0)) (hcm : cells + mc ≤ mc0) (hsm : slots + ms ≤ ms0)
    (E : String) (ce : Cell) (q9 : Addr) (u : Nat × SX) (t : State) (H1 : Heap) (locs1 : List Loc) (ht : t.heap = H1) (hp : px u.1 u.2) (hB : E = zEx u.1 ∧ zB Z (WX u.2) (va_A wc H.size) t) (hk : ∀ q : Nat, q < H.size → ¬ va_A wc H.size q → H1[q]? = H[q]?) (hS : va_S A s.heap H1 locs1) (hce : H1[q9]? = some ce) (hcv : ce.vm = .none) (hcl : s.vm.findClass E = some ce.cls) :
    vx_W p l e R s m args below meth c H1 locs1 (cells + mc) (slots + ms) (vx_MQ below Qc (zXC Z px0 WX0 A) args s mc0 ms0 A) (F0 m pc ls rest) q9 := by
  obtain ⟨hE, hB⟩ := hB
  have hW1 := zafter X h is hC hn (hlx u.2) ht hB hk hS
  obtain ⟨u0, hp0, hw0⟩ := kx u.1 u.2 hp
  have hW1 := zW_perm hW1 hw0
  refine vx_out (fun x hx => (hno x hx).elim) hlocks hce hcv hcl (fun t2 ht2 hvm => ⟨(u.1, u0), hp0, ⟨hE, by rw [ht2]; exact hW1.1, hW1.2.1⟩, hW1.2.2.F ht2⟩) hW1.2.2.2.2 hcm hsm
theorem zt_iP {S SX S0 : Type} {post : Int32 → S → Prop} {W' : S → va_W} {px : Nat → SX → Prop} {WX : SX → va_W} {px0 : Nat → S0 → Prop} {WX0 : S0 → va_W} {mc0 ms0 : Nat} (hr : vx_Run p l e R s m args below meth c H locs cells slots mc ms (F0 m pc ls st0) rest (zQi Z post W' (va_A wc H.size) a) (zXC Z px WX (va_A wc H.size)) (va_A wc H.size)) (X : zX Z s A) (h : zW Z s A ws H locs) (is : List Nat) (hC : is.map (fun i => ws[i]?) = wc.map some) (hn : va_nd is = true) (hl : ∀ u, (W' u).length = is.length)
    (hno : ∀ x ∈ c.exceptionTable.toList, False) (hlocks : meth.locks = false) (hlx : ∀ u, (WX u).length = is.length) (kx : ∀ k u, px k u → ∃ u0, px0 k u0 ∧ (zput ws is (WX u)).Perm (WX0 u0)) (hcm : cells + mc ≤ mc0) (hsm : slots + ms ≤ ms0)
    (kk : ∀ (r : Int32) (u : S) (H1 : Heap) (locs1 : List Loc), post r u → zW Z s A (zput ws is (W' u)) H1 locs1 → W p l e R s m args below meth c H1 locs1 (cells + mc) (slots + ms) (vx_MQ below Qc (zXC Z px0 WX0 A) args s mc0 ms0 A) (F0 m (pc + 3) ls (.int r :: rest))) : W p l e R s m args below meth c H locs cells slots (vx_MQ below Qc (zXC Z px0 WX0 A) args s mc0 ms0 A) (F0 m pc ls st0) :=
  vx_calli hr h.2.2 (fun q _ z => va_free h.2.1 h.2.2 X.2.2.2.1 is hC q z) (va_free h.2.1 h.2.2 X.2.2.2.1 is hC) (fun q _ z => va_free h.2.1 h.2.2 X.2.2.2.1 is hC q z)
    (fun E ce q9 u t H1 locs1 ht hvm hp hB hz hk hS hce hcv hcl => zthrownP X h is hC hn hno hlocks hlx kx hcm hsm E ce q9 u t H1 locs1 ht hp hB hk hS hce hcv hcl)
    (fun r u t H1 locs1 ht hvm hp hB hz hk hS => kk r u H1 locs1 hp (zafter X h is hC hn (hl u) ht hB hk hS))
theorem zt_vP {S SX S0 : Type} {post : S → Prop} {W' : S → va_W} {px : Nat → SX → Prop} {WX : SX → va_W} {px0 : Nat → S0 → Prop} {WX0 : S0 → va_W} {mc0 ms0 : Nat} (hr : vx_Run p l e R s m args below meth c H locs cells slots mc ms (F0 m pc ls st0) rest (zQv Z post W' (va_A wc H.size) a) (zXC Z px WX (va_A wc H.size)) (va_A wc H.size)) (X : zX Z s A) (h : zW Z s A ws H locs) (is : List Nat) (hC : is.map (fun i => ws[i]?) = wc.map some) (hn : va_nd is = true) (hl : ∀ u, (W' u).length = is.length)
    (hno : ∀ x ∈ c.exceptionTable.toList, False) (hlocks : meth.locks = false) (hlx : ∀ u, (WX u).length = is.length) (kx : ∀ k u, px k u → ∃ u0, px0 k u0 ∧ (zput ws is (WX u)).Perm (WX0 u0)) (hcm : cells + mc ≤ mc0) (hsm : slots + ms ≤ ms0)
    (kk : ∀ (u : S) (H1 : Heap) (locs1 : List Loc), post u → zW Z s A (zput ws is (W' u)) H1 locs1 → W p l e R s m args below meth c H1 locs1 (cells + mc) (slots + ms) (vx_MQ below Qc (zXC Z px0 WX0 A) args s mc0 ms0 A) (F0 m (pc + 3) ls rest)) : W p l e R s m args below meth c H locs cells slots (vx_MQ below Qc (zXC Z px0 WX0 A) args s mc0 ms0 A) (F0 m pc ls st0) :=
  vx_callv hr h.2.2 (fun q _ z => va_free h.2.1 h.2.2 X.2.2.2.1 is hC q z) (va_free h.2.1 h.2.2 X.2.2.2.1 is hC) (fun q _ z => va_free h.2.1 h.2.2 X.2.2.2.1 is hC q z)
    (fun E ce q9 u t H1 locs1 ht hvm hp hB hz hk hS hce hcv hcl => zthrownP X h is hC hn hno hlocks hlx kx hcm hsm E ce q9 u t H1 locs1 ht hp hB hk hS hce hcv hcl)
    (fun u t H1 locs1 ht hvm hp hB hz hk hS => kk u H1 locs1 hp (zafter X h is hC hn (hl u) ht hB hk hS))
theorem zt_rP {S SX S0 : Type} {post : S → Prop} {ra : S → Nat} {W' : S → va_W} {px : Nat → SX → Prop} {WX : SX → va_W} {px0 : Nat → S0 → Prop} {WX0 : S0 → va_W} {mc0 ms0 : Nat} (hr : vx_Run p l e R s m args below meth c H locs cells slots mc ms (F0 m pc ls st0) rest (zQr Z post ra W' (va_A wc H.size) a) (zXC Z px WX (va_A wc H.size)) (va_A wc H.size)) (X : zX Z s A) (h : zW Z s A ws H locs) (is : List Nat) (hC : is.map (fun i => ws[i]?) = wc.map some) (hn : va_nd is = true) (hl : ∀ u, (W' u).length = is.length)
    (hno : ∀ x ∈ c.exceptionTable.toList, False) (hlocks : meth.locks = false) (hlx : ∀ u, (WX u).length = is.length) (kx : ∀ k u, px k u → ∃ u0, px0 k u0 ∧ (zput ws is (WX u)).Perm (WX0 u0)) (hcm : cells + mc ≤ mc0) (hsm : slots + ms ≤ ms0)
    (kk : ∀ (u : S) (H1 : Heap) (locs1 : List Loc), post u → zW Z s A (zput ws is (W' u)) H1 locs1 → W p l e R s m args below meth c H1 locs1 (cells + mc) (slots + ms) (vx_MQ below Qc (zXC Z px0 WX0 A) args s mc0 ms0 A) (F0 m (pc + 3) ls (.ref (ra u) :: rest))) : W p l e R s m args below meth c H locs cells slots (vx_MQ below Qc (zXC Z px0 WX0 A) args s mc0 ms0 A) (F0 m pc ls st0) := by
  intro T hT X9
  rcases hr T hT X9 with ⟨v, st₀, t, T', L, h0, X', hL, e1, e2, ⟨⟨u, ra9, hv, hp, hra, hB⟩, hF⟩, st⟩ | ⟨q, st₀, t, T', L, E, ce, h0, X', hL, e1, e2, ⟨u, hp, hB, hF⟩, hce, hcv, hcl, st⟩
  · cases hv
    subst hra
    obtain ⟨k1, k2, k3⟩ := vx_keep h0 e1 h.2.2 (fun q _ z => va_free h.2.1 h.2.2 X.2.2.2.1 is hC q z) (va_free h.2.1 h.2.2 X.2.2.2.1 is hC) hL hF
    obtain ⟨t2, a1, b1⟩ := kk u T'.heap (locs ++ L) hp (zafter X h is hC hn (hl u) e1.symm hB k2 k3) T' rfl X'
    exact ⟨t2, st t2 a1, b1⟩
  · obtain ⟨k1, k2, k3⟩ := vx_keep h0 e1 h.2.2 (fun q _ z => va_free h.2.1 h.2.2 X.2.2.2.1 is hC q z) (va_free h.2.1 h.2.2 X.2.2.2.1 is hC) hL hF
    obtain ⟨t2, a1, b1⟩ := zthrownP (pc := pc) (ls := ls) (rest := rest) X h is hC hn hno hlocks hlx kx hcm hsm E ce q u t T'.heap (locs ++ L) e1.symm hp hB k2 k3 (by rw [e1]; exact hce) hcv hcl T' rfl X'
    exact ⟨t2, st.trans a1, b1⟩
end ZQ
/-! ===== what is asked of numbers ===== -/
def sn (x : Int32) : Nat := x.toNatClampNeg
theorem sn_nI {j : Nat} (h : j < 2 ^ 31) : sn (nI j) = j := nI_clamp h
def isS (x : Int32) : Prop := sn x < 29 ∧ x = nI (sn x)
def isP (x : Int32) (n : Nat) : Prop := sn x < n ∧ x = nI (sn x)
def isM (x : Int32) : Prop := nI 1 ≤ x ∧ x ≤ nI 200
theorem zsn {x : Int32} (h : 0 ≤ x.toInt) : x = nI (sn x) ∧ (sn x : Int) = x.toInt := by
  have h1 : (sn x : Int) = x.toInt := by
    show ((x.toInt.toNat : Nat) : Int) = x.toInt
    omega
  refine ⟨?_, h1⟩
  apply Int32.toInt_inj.mp
  rw [nI_toInt (by have := x.toInt_lt; omega)]
  exact h1.symm
theorem zof {x : Int32} {n : Nat} (hn : n < 2 ^ 31) (h1 : ¬ x < 0) (h2 : x < nI n) : sn x < n ∧ x = nI (sn x) := by
  have h3 : ¬ x.toInt < 0 := fun q => h1 (Int32.lt_iff_toInt_lt.mpr q)
  obtain ⟨e1, e2⟩ := zsn (x := x) (by omega)
  have h4 := Int32.lt_iff_toInt_lt.mp h2
  rw [nI_toInt hn] at h4
  exact ⟨by omega, e1⟩
theorem znot {x : Int32} {n : Nat} (hn : n < 2 ^ 31) (h : x < 0 ∨ nI n ≤ x) : ¬ (sn x < n ∧ x = nI (sn x)) := by
  rintro ⟨h1, h2⟩
  rcases h with h | h
  · rw [h2] at h; exact nI_pos (by omega) h
  · rw [h2] at h; exact absurd ((nI_leI hn (by omega)).mp h) (by omega)
/-- which throw it is: the first that applies -/
noncomputable def cdx (g1 g2 g3 : Prop) : Nat := @ite Nat g1 (Classical.propDecidable g1) 1 (@ite Nat g2 (Classical.propDecidable g2) 2 (@ite Nat g3 (Classical.propDecidable g3) 3 0))
theorem cdx_1 {g1 g2 g3 : Prop} (h : g1) : 1 = cdx g1 g2 g3 := by unfold cdx; rw [if_pos h]
theorem cdx_2 {g1 g2 g3 : Prop} (h1 : ¬ g1) (h : g2) : 2 = cdx g1 g2 g3 := by unfold cdx; rw [if_neg h1, if_pos h]
theorem cdx_3 {g1 g2 g3 : Prop} (h1 : ¬ g1) (h2 : ¬ g2) (h : g3) : 3 = cdx g1 g2 g3 := by unfold cdx; rw [if_neg h1, if_neg h2, if_pos h]
theorem cdx_0 {g1 g2 g3 : Prop} (h1 : ¬ g1) (h2 : ¬ g2) (h3 : ¬ g3) : 0 = cdx g1 g2 g3 := by unfold cdx; rw [if_neg h1, if_neg h2, if_neg h3]
