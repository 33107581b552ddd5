section ZCL
variable {p : Program} {l : Launch} {e : Env} {R : Room} {s : State} {m : MethodId} {args : Array Value} {below : List Frame} {meth : Method} {c : Code} {H : Heap} {locs : List Loc} {cells slots : Nat} {Q : State → Prop}
variable {cc : ByteArray} {pc : Nat} {ls : Array Slot} {rest st0 : List Value} {Z : zT} {A : Nat → Prop} {ws wc : va_W} {a : Array Value} {mc ms : Nat}
/-! ===== what a call leaves ===== -/
theorem zafter {S : Type} {W' : S → va_W} {u : S} {t : State} {H1 : Heap} {locs1 : List Loc} (X : zX Z s A) (h : zW Z s A ws H locs) (is : List Nat) (hC : is.map (fun i => ws[i]?) = wc.map some) (hn : va_nd is = true) (hl : (W' u).length = is.length) (ht : t.heap = H1) (hB : zB Z (W' u) (va_A wc H.size) t) (hk : ∀ q : Nat, q < H.size → ¬ va_A wc H.size q → H1[q]? = H[q]?) (hS : va_S A s.heap H1 locs1) : zW Z s A (zput ws is (W' u)) H1 locs1 := by
  obtain ⟨hP1, hD1⟩ := hB
  rw [ht] at hP1
  have g := zjoin (wb := []) h.1 h.2.1 is hC hn hl hk (va_free h.2.1 h.2.2 X.2.2.2.1 is hC) (by rw [List.append_nil]; exact hP1) (by rw [List.append_nil]; exact hD1)
  rw [List.append_nil] at g
  exact ⟨g.1, g.2, hS⟩
theorem zafterN {S : Type} {W' : S → va_W} {wa wb : va_W} {u : S} {t : State} {H1 : Heap} {locs1 : List Loc} (X : zX Z s A) (h : zW Z s A ws H locs) (is : List Nat) (hC : is.map (fun i => ws[i]?) = wc.map some) (hn : va_nd is = true) (hw : W' u = wa ++ wb) (hl : wa.length = is.length) (ht : t.heap = H1) (hB : zB Z (W' u) (va_A wc H.size) t) (hk : ∀ q : Nat, q < H.size → ¬ va_A wc H.size q → H1[q]? = H[q]?) (hS : va_S A s.heap H1 locs1) : zW Z s A (zput ws is wa ++ wb) H1 locs1 := by
  obtain ⟨hP1, hD1⟩ := hB
  rw [ht] at hP1
  rw [hw] at hP1 hD1
  have g := zjoin h.1 h.2.1 is hC hn hl hk (va_free h.2.1 h.2.2 X.2.2.2.1 is hC) hP1 hD1
  exact ⟨g.1, g.2, hS⟩
theorem zc_i {S : Type} {post : Int32 → S → Prop} {W' : S → va_W} (hr : va_Run p l e R s m args below meth c H locs cells slots mc ms (F0 m pc ls st0) rest (zQi Z post W' (va_A wc H.size) a) (va_A wc H.size)) (X : zX Z s A) (h : zW Z s A ws H locs) (is : List Nat) (hC : is.map (fun i => ws[i]?) = wc.map some) (hn : va_nd is = true) (hl : ∀ u, (W' u).length = is.length)
    (kk : ∀ (r : Int32) (u : S) (H1 : Heap) (locs1 : List Loc), post r u → zW Z s A (zput ws is (W' u)) H1 locs1 → W p l e R s m args below meth c H1 locs1 (cells + mc) (slots + ms) Q (F0 m (pc + 3) ls (.int r :: rest))) : W p l e R s m args below meth c H locs cells slots Q (F0 m pc ls st0) :=
  va_calli hr h.2.2 (fun q _ z => va_free h.2.1 h.2.2 X.2.2.2.1 is hC q z) (va_free h.2.1 h.2.2 X.2.2.2.1 is hC) (fun r u t H1 locs1 ht hvm hp hB hz hk hS => kk r u H1 locs1 hp (zafter X h is hC hn (hl u) ht hB hk hS))
theorem zc_l {S : Type} {post : Int64 → S → Prop} {W' : S → va_W} (hr : va_Run p l e R s m args below meth c H locs cells slots mc ms (F0 m pc ls st0) rest (zQl Z post W' (va_A wc H.size) a) (va_A wc H.size)) (X : zX Z s A) (h : zW Z s A ws H locs) (is : List Nat) (hC : is.map (fun i => ws[i]?) = wc.map some) (hn : va_nd is = true) (hl : ∀ u, (W' u).length = is.length)
    (kk : ∀ (r : Int64) (u : S) (H1 : Heap) (locs1 : List Loc), post r u → zW Z s A (zput ws is (W' u)) H1 locs1 → W p l e R s m args below meth c H1 locs1 (cells + mc) (slots + ms) Q (F0 m (pc + 3) ls (.long r :: rest))) : W p l e R s m args below meth c H locs cells slots Q (F0 m pc ls st0) :=
  va_calll hr h.2.2 (fun q _ z => va_free h.2.1 h.2.2 X.2.2.2.1 is hC q z) (va_free h.2.1 h.2.2 X.2.2.2.1 is hC) (fun r u t H1 locs1 ht hvm hp hB hz hk hS => kk r u H1 locs1 hp (zafter X h is hC hn (hl u) ht hB hk hS))
theorem zc_d {S : Type} {post : UInt64 → S → Prop} {W' : S → va_W} (hr : va_Run p l e R s m args below meth c H locs cells slots mc ms (F0 m pc ls st0) rest (zQd Z post W' (va_A wc H.size) a) (va_A wc H.size)) (X : zX Z s A) (h : zW Z s A ws H locs) (is : List Nat) (hC : is.map (fun i => ws[i]?) = wc.map some) (hn : va_nd is = true) (hl : ∀ u, (W' u).length = is.length)
    (kk : ∀ (r : UInt64) (u : S) (H1 : Heap) (locs1 : List Loc), post r u → zW Z s A (zput ws is (W' u)) H1 locs1 → W p l e R s m args below meth c H1 locs1 (cells + mc) (slots + ms) Q (F0 m (pc + 3) ls (.double r :: rest))) : W p l e R s m args below meth c H locs cells slots Q (F0 m pc ls st0) :=
  va_calld hr h.2.2 (fun q _ z => va_free h.2.1 h.2.2 X.2.2.2.1 is hC q z) (va_free h.2.1 h.2.2 X.2.2.2.1 is hC) (fun r u t H1 locs1 ht hvm hp hB hz hk hS => kk r u H1 locs1 hp (zafter X h is hC hn (hl u) ht hB hk hS))
theorem zc_v {S : Type} {post : S → Prop} {W' : S → va_W} (hr : va_Run p l e R s m args below meth c H locs cells slots mc ms (F0 m pc ls st0) rest (zQv Z post W' (va_A wc H.size) a) (va_A wc H.size)) (X : zX Z s A) (h : zW Z s A ws H locs) (is : List Nat) (hC : is.map (fun i => ws[i]?) = wc.map some) (hn : va_nd is = true) (hl : ∀ u, (W' u).length = is.length)
    (kk : ∀ (u : S) (H1 : Heap) (locs1 : List Loc), post u → zW Z s A (zput ws is (W' u)) H1 locs1 → W p l e R s m args below meth c H1 locs1 (cells + mc) (slots + ms) Q (F0 m (pc + 3) ls rest)) : W p l e R s m args below meth c H locs cells slots Q (F0 m pc ls st0) :=
  va_callv hr h.2.2 (fun q _ z => va_free h.2.1 h.2.2 X.2.2.2.1 is hC q z) (va_free h.2.1 h.2.2 X.2.2.2.1 is hC) (fun u t H1 locs1 ht hvm hp hB hz hk hS => kk u H1 locs1 hp (zafter X h is hC hn (hl u) ht hB hk hS))
/-- a callee that makes cells: they come behind the world -/
theorem zc_vN {S : Type} {post : S → Prop} {W' wa wb : S → va_W} (hr : va_Run p l e R s m args below meth c H locs cells slots mc ms (F0 m pc ls st0) rest (zQv Z post W' (va_A wc H.size) a) (va_A wc H.size)) (X : zX Z s A) (h : zW Z s A ws H locs) (is : List Nat) (hC : is.map (fun i => ws[i]?) = wc.map some) (hn : va_nd is = true) (hw : ∀ u, W' u = wa u ++ wb u) (hl : ∀ u, (wa u).length = is.length)
    (kk : ∀ (u : S) (H1 : Heap) (locs1 : List Loc), post u → zW Z s A (zput ws is (wa u) ++ wb u) H1 locs1 → W p l e R s m args below meth c H1 locs1 (cells + mc) (slots + ms) Q (F0 m (pc + 3) ls rest)) : W p l e R s m args below meth c H locs cells slots Q (F0 m pc ls st0) :=
  va_callv hr h.2.2 (fun q _ z => va_free h.2.1 h.2.2 X.2.2.2.1 is hC q z) (va_free h.2.1 h.2.2 X.2.2.2.1 is hC) (fun u t H1 locs1 ht hvm hp hB hz hk hS => kk u H1 locs1 hp (zafterN X h is hC hn (hw u) (hl u) ht hB hk hS))
/-! ===== calls that may throw: what is thrown goes on to the caller ===== -/
variable {Qc : Array Value → State → Outcome → State → Prop}
theorem zthrown {SX S0 : Type} {px : Nat → SX → Prop} {WX : SX → va_W} {px0 : Nat → S0 → Prop} {WX0 : S0 → va_W} {mc0 ms0 : Nat} (X : zX Z s A) (h : zW Z s A ws H locs) (is : List Nat) (hC : is.map (fun i => ws[i]?) = wc.map some) (hn : va_nd is = true) (hno : ∀ x ∈ c.exceptionTable.toList, False) (hlocks : meth.locks = false) (hlx : ∀ u, (WX u).length = is.length) (kx : ∀ k u, px k u → ∃ u0, px0 k u0 ∧ zput ws is (WX u) = WX0 u0) (hcm : cells + mc ≤ mc0) (hsm : slots + ms ≤ ms0)
    (E : String) (ce : Cell) (q9 : Addr) (u : Nat × SX) (t : State) (H1 : Heap) (locs1 : List Loc) (ht : t.heap = H1) (hp : px u.1 u.2) (hB : E = zEx u.1 ∧ zB Z (WX u.2) (va_A wc H.size) t) (hk : ∀ q : Nat, q < H.size → ¬ va_A wc H.size q → H1[q]? = H[q]?) (hS : va_S A s.heap H1 locs1) (hce : H1[q9]? = some ce) (hcv : ce.vm = .none) (hcl : s.vm.findClass E = some ce.cls) :
    vx_W p l e R s m args below meth c H1 locs1 (cells + mc) (slots + ms) (vx_MQ below Qc (zXC Z px0 WX0 A) args s mc0 ms0 A) (F0 m pc ls rest) q9 := by
  obtain ⟨hE, hB⟩ := hB
  have hW1 := zafter X h is hC hn (hlx u.2) ht hB hk hS
  obtain ⟨u0, hp0, hw0⟩ := kx u.1 u.2 hp
  rw [hw0] at hW1
  refine vx_out (fun x hx => (hno x hx).elim) hlocks hce hcv hcl (fun t2 ht2 hvm => ⟨(u.1, u0), hp0, ⟨hE, by rw [ht2]; exact hW1.1, hW1.2.1⟩, hW1.2.2.F ht2⟩) hW1.2.2.2.2 hcm hsm
theorem zt_i {S SX S0 : Type} {post : Int32 → S → Prop} {W' : S → va_W} {px : Nat → SX → Prop} {WX : SX → va_W} {px0 : Nat → S0 → Prop} {WX0 : S0 → va_W} {mc0 ms0 : Nat} (hr : vx_Run p l e R s m args below meth c H locs cells slots mc ms (F0 m pc ls st0) rest (zQi Z post W' (va_A wc H.size) a) (zXC Z px WX (va_A wc H.size)) (va_A wc H.size)) (X : zX Z s A) (h : zW Z s A ws H locs) (is : List Nat) (hC : is.map (fun i => ws[i]?) = wc.map some) (hn : va_nd is = true) (hl : ∀ u, (W' u).length = is.length)
    (hno : ∀ x ∈ c.exceptionTable.toList, False) (hlocks : meth.locks = false) (hlx : ∀ u, (WX u).length = is.length) (kx : ∀ k u, px k u → ∃ u0, px0 k u0 ∧ zput ws is (WX u) = WX0 u0) (hcm : cells + mc ≤ mc0) (hsm : slots + ms ≤ ms0)
    (kk : ∀ (r : Int32) (u : S) (H1 : Heap) (locs1 : List Loc), post r u → zW Z s A (zput ws is (W' u)) H1 locs1 → W p l e R s m args below meth c H1 locs1 (cells + mc) (slots + ms) (vx_MQ below Qc (zXC Z px0 WX0 A) args s mc0 ms0 A) (F0 m (pc + 3) ls (.int r :: rest))) : W p l e R s m args below meth c H locs cells slots (vx_MQ below Qc (zXC Z px0 WX0 A) args s mc0 ms0 A) (F0 m pc ls st0) :=
  vx_calli hr h.2.2 (fun q _ z => va_free h.2.1 h.2.2 X.2.2.2.1 is hC q z) (va_free h.2.1 h.2.2 X.2.2.2.1 is hC) (fun q _ z => va_free h.2.1 h.2.2 X.2.2.2.1 is hC q z)
    (fun E ce q9 u t H1 locs1 ht hvm hp hB hz hk hS hce hcv hcl => zthrown X h is hC hn hno hlocks hlx kx hcm hsm E ce q9 u t H1 locs1 ht hp hB hk hS hce hcv hcl)
    (fun r u t H1 locs1 ht hvm hp hB hz hk hS => kk r u H1 locs1 hp (zafter X h is hC hn (hl u) ht hB hk hS))
theorem zt_v {S SX S0 : Type} {post : S → Prop} {W' : S → va_W} {px : Nat → SX → Prop} {WX : SX → va_W} {px0 : Nat → S0 → Prop} {WX0 : S0 → va_W} {mc0 ms0 : Nat} (hr : vx_Run p l e R s m args below meth c H locs cells slots mc ms (F0 m pc ls st0) rest (zQv Z post W' (va_A wc H.size) a) (zXC Z px WX (va_A wc H.size)) (va_A wc H.size)) (X : zX Z s A) (h : zW Z s A ws H locs) (is : List Nat) (hC : is.map (fun i => ws[i]?) = wc.map some) (hn : va_nd is = true) (hl : ∀ u, (W' u).length = is.length)
    (hno : ∀ x ∈ c.exceptionTable.toList, False) (hlocks : meth.locks = false) (hlx : ∀ u, (WX u).length = is.length) (kx : ∀ k u, px k u → ∃ u0, px0 k u0 ∧ zput ws is (WX u) = WX0 u0) (hcm : cells + mc ≤ mc0) (hsm : slots + ms ≤ ms0)
    (kk : ∀ (u : S) (H1 : Heap) (locs1 : List Loc), post u → zW Z s A (zput ws is (W' u)) H1 locs1 → W p l e R s m args below meth c H1 locs1 (cells + mc) (slots + ms) (vx_MQ below Qc (zXC Z px0 WX0 A) args s mc0 ms0 A) (F0 m (pc + 3) ls rest)) : W p l e R s m args below meth c H locs cells slots (vx_MQ below Qc (zXC Z px0 WX0 A) args s mc0 ms0 A) (F0 m pc ls st0) :=
  vx_callv hr h.2.2 (fun q _ z => va_free h.2.1 h.2.2 X.2.2.2.1 is hC q z) (va_free h.2.1 h.2.2 X.2.2.2.1 is hC) (fun q _ z => va_free h.2.1 h.2.2 X.2.2.2.1 is hC q z)
    (fun E ce q9 u t H1 locs1 ht hvm hp hB hz hk hS hce hcv hcl => zthrown X h is hC hn hno hlocks hlx kx hcm hsm E ce q9 u t H1 locs1 ht hp hB hk hS hce hcv hcl)
    (fun u t H1 locs1 ht hvm hp hB hz hk hS => kk u H1 locs1 hp (zafter X h is hC hn (hl u) ht hB hk hS))
/-- an answer that is one of the cells -/
theorem zt_r {S SX S0 : Type} {post : S → Prop} {ra : S → Nat} {W' : S → va_W} {px : Nat → SX → Prop} {WX : SX → va_W} {px0 : Nat → S0 → Prop} {WX0 : S0 → va_W} {mc0 ms0 : Nat} (hr : vx_Run p l e R s m args below meth c H locs cells slots mc ms (F0 m pc ls st0) rest (zQr Z post ra W' (va_A wc H.size) a) (zXC Z px WX (va_A wc H.size)) (va_A wc H.size)) (X : zX Z s A) (h : zW Z s A ws H locs) (is : List Nat) (hC : is.map (fun i => ws[i]?) = wc.map some) (hn : va_nd is = true) (hl : ∀ u, (W' u).length = is.length)
    (hno : ∀ x ∈ c.exceptionTable.toList, False) (hlocks : meth.locks = false) (hlx : ∀ u, (WX u).length = is.length) (kx : ∀ k u, px k u → ∃ u0, px0 k u0 ∧ zput ws is (WX u) = WX0 u0) (hcm : cells + mc ≤ mc0) (hsm : slots + ms ≤ ms0)
    (kk : ∀ (u : S) (H1 : Heap) (locs1 : List Loc), post u → zW Z s A (zput ws is (W' u)) H1 locs1 → W p l e R s m args below meth c H1 locs1 (cells + mc) (slots + ms) (vx_MQ below Qc (zXC Z px0 WX0 A) args s mc0 ms0 A) (F0 m (pc + 3) ls (.ref (ra u) :: rest))) : W p l e R s m args below meth c H locs cells slots (vx_MQ below Qc (zXC Z px0 WX0 A) args s mc0 ms0 A) (F0 m pc ls st0) := by
  intro T hT X9
  rcases hr T hT X9 with ⟨v, st₀, t, T', L, h0, X', hL, e1, e2, ⟨⟨u, ra9, hv, hp, hra, hB⟩, hF⟩, st⟩ | ⟨q, st₀, t, T', L, E, ce, h0, X', hL, e1, e2, ⟨u, hp, hB, hF⟩, hce, hcv, hcl, st⟩
  · cases hv
    subst hra
    obtain ⟨k1, k2, k3⟩ := vx_keep h0 e1 h.2.2 (fun q _ z => va_free h.2.1 h.2.2 X.2.2.2.1 is hC q z) (va_free h.2.1 h.2.2 X.2.2.2.1 is hC) hL hF
    obtain ⟨t2, a1, b1⟩ := kk u T'.heap (locs ++ L) hp (zafter X h is hC hn (hl u) e1.symm hB k2 k3) T' rfl X'
    exact ⟨t2, st t2 a1, b1⟩
  · obtain ⟨k1, k2, k3⟩ := vx_keep h0 e1 h.2.2 (fun q _ z => va_free h.2.1 h.2.2 X.2.2.2.1 is hC q z) (va_free h.2.1 h.2.2 X.2.2.2.1 is hC) hL hF
    obtain ⟨t2, a1, b1⟩ := zthrown (pc := pc) (ls := ls) (rest := rest) X h is hC hn hno hlocks hlx kx hcm hsm E ce q u t T'.heap (locs ++ L) e1.symm hp hB k2 k3 (by rw [e1]; exact hce) hcv hcl T' rfl X'
    exact ⟨t2, st.trans a1, b1⟩
/-- a call whose throws this method catches itself: kx is owed -/
theorem zh_i {S SX : Type} {post : Int32 → S → Prop} {W' : S → va_W} {px : Nat → SX → Prop} {WX : SX → va_W} (hr : vx_Run p l e R s m args below meth c H locs cells slots mc ms (F0 m pc ls st0) rest (zQi Z post W' (va_A wc H.size) a) (zXC Z px WX (va_A wc H.size)) (va_A wc H.size)) (X : zX Z s A) (h : zW Z s A ws H locs) (is : List Nat) (hC : is.map (fun i => ws[i]?) = wc.map some) (hn : va_nd is = true) (hl : ∀ u, (W' u).length = is.length) (hlx : ∀ u, (WX u).length = is.length)
    (kx : ∀ (ce : Cell) (q9 : Addr) (k : Nat) (u : SX) (H1 : Heap) (locs1 : List Loc), px k u → zW Z s A (zput ws is (WX u)) H1 locs1 → H1[q9]? = some ce → ce.vm = .none → s.vm.findClass (zEx k) = some ce.cls → vx_W p l e R s m args below meth c H1 locs1 (cells + mc) (slots + ms) Q (F0 m pc ls rest) q9)
    (kk : ∀ (r : Int32) (u : S) (H1 : Heap) (locs1 : List Loc), post r u → zW Z s A (zput ws is (W' u)) H1 locs1 → W p l e R s m args below meth c H1 locs1 (cells + mc) (slots + ms) Q (F0 m (pc + 3) ls (.int r :: rest))) : W p l e R s m args below meth c H locs cells slots Q (F0 m pc ls st0) :=
  vx_calli hr h.2.2 (fun q _ z => va_free h.2.1 h.2.2 X.2.2.2.1 is hC q z) (va_free h.2.1 h.2.2 X.2.2.2.1 is hC) (fun q _ z => va_free h.2.1 h.2.2 X.2.2.2.1 is hC q z)
    (fun E ce q9 u t H1 locs1 ht hvm hp hB hz hk hS hce hcv hcl => by
      obtain ⟨hE, hB⟩ := hB
      subst hE
      exact kx ce q9 u.1 u.2 H1 locs1 hp (zafter X h is hC hn (hlx u.2) ht hB hk hS) hce hcv hcl)
    (fun r u t H1 locs1 ht hvm hp hB hz hk hS => kk r u H1 locs1 hp (zafter X h is hC hn (hl u) ht hB hk hS))
/-! ===== 'throw new E("text")' ===== -/
theorem zhat {args : Array Value} {s : State} {Ts L : List Cond} (hts : ∀ w ∈ Ts, w.before args s = true) (h1 : ∀ w ∈ L.filter goodWord, w ∈ Ts) (h2 : ∀ w ∈ L.filter (fun w => !goodWord w), w ∈ zNs) (hN : zN s) : ∀ w ∈ L, w.before args s = true := by
  refine vx_hat (B := zNs) (fun w hw => hts w (h1 w hw)) h2 (fun w hw => ?_)
  refine va_Nw.use ?_ (hN w hw)
  simp only [zNs, List.mem_cons, List.not_mem_nil, or_false] at hw
  rcases hw with rfl | rfl | rfl | rfl | rfl | rfl | rfl | rfl | rfl | rfl | rfl | rfl | rfl | rfl | rfl | rfl | rfl | rfl <;> rfl
theorem z_throw {S0 : Type} {px0 : Nat → S0 → Prop} {WX0 : S0 → va_W} {nL mc0 ms0 : Nat} {Ts : List Cond} (hx : p.tables.exec = Jvm.exec) (hb : c.code = cc) (hfl : l.stackTraces = false) (C : CallFix p m c cc nL s args Ts RX4) (k : Nat) {ik is ic : Nat} {text : String}
    (hcls : Bundle.fit (zEx k) = true) (hk : Cond.classLink RX4 ik (zEx k) ∈ Ts) (hini : Cond.initialized (zEx k) ∈ Ts) (hat : ∀ w ∈ (vx_atS RX4 ic (zEx k) zEs).filter goodWord, w ∈ Ts) (hng : ∀ w ∈ (vx_atS RX4 ic (zEx k) zEs).filter (fun w => !goodWord w), w ∈ zNs)
    (hgood : ∀ w ∈ Cond.classLink RX4 ik (zEx k) :: Cond.initialized (zEx k) :: vx_atS RX4 ic (zEx k) zEs, vx_ot w = true) (hstr : (is, text) ∈ zStr) (X : zX Z s A) (h : zW Z s A ws H locs) (hls : ls.size = nL)
    (d0 : decode cc pc = .ok (.new ik, 3)) (d3 : decode cc (pc + 3) = .ok (.dup, 1)) (d4 : decode cc (pc + 4) = .ok (.ldc is, 2)) (d6 : decode cc (pc + 6) = .ok (.invokespecial ic, 3)) (d9 : decode cc (pc + 9) = .ok (.athrow, 1))
    (hno : ∀ x ∈ c.exceptionTable.toList, False) (hlocks : meth.locks = false) (hRf : 5 < R.frames) (hRl : (rest.map fun v => v.category).sum + 82 ≤ R.locals) (hRc : cells + 1 ≤ R.cells) (hRs : slots + 6 ≤ R.slots) (u : S0) (hp : px0 k u) (hw : ws = WX0 u) (hc : cells + 1 ≤ mc0) (hs : slots + 6 ≤ ms0) :
    W p l e R s m args below meth c H locs cells slots (vx_MQ below Qc (zXC Z px0 WX0 A) args s mc0 ms0 A) (F0 m pc ls rest) := by
  obtain ⟨-, -, hml, hown, hts⟩ := C
  subst hw
  obtain ⟨sa, hsa⟩ := X.1.2.2.1 _ hstr
  have hZ : ∀ {n d : String}, vx_Zq Bundle.tN n d (fun q => zb Z ≤ q) s s.heap → vx_Zq Bundle.tN n d A s s.heap := fun h9 => vx_Zq.narrow h9 X.2.2.1
  refine vx_throwS (cls := zEx k) (text := text) (names := zEs) (is := is) (ic := ic) (ik := ik) (sa := sa) (A := A) hx hb hfl hown hcls (by decide +kernel) (hts _ hk) (hts _ hini) hsa (zhat hts hat hng X.1.2.1) hgood (hZ X.2.1.1) (hZ X.2.1.2) h.2.2 (hls.trans hml.symm) d0 d3 d4 d6 d9 (fun x hx => (hno x hx).elim) (by show 2 + 3 < _; omega) (by show _ + (13 * (2 + 1) + 43) ≤ _; omega) hRc hRs hlocks (fun t hvm hz hk9 => ?_) h.2.2.2.2 hc hs
  refine ⟨(k, u), hp, ⟨rfl, h.1.kept (fun j q hq => hk9 q.1 (h.1 j q hq).lt), h.2.1⟩, Nat.le_trans h.2.2.1 hz, fun q h1 h2 => ?_⟩
  rw [hk9 q (Nat.lt_of_lt_of_le h1 h.2.2.1)]
  exact h.2.2.2.1 q h1 h2
end ZCL
theorem zng1 : ∀ w ∈ (vx_atS RX4 183 (zEx 1) zEs).filter (fun w => !goodWord w), w ∈ zNs := by decide +kernel
theorem zng2 : ∀ w ∈ (vx_atS RX4 75 (zEx 2) zEs).filter (fun w => !goodWord w), w ∈ zNs := by decide +kernel
theorem zng3 : ∀ w ∈ (vx_atS RX4 55 (zEx 3) zEs).filter (fun w => !goodWord w), w ∈ zNs := by decide +kernel
theorem zgd1 : ∀ w ∈ Cond.classLink RX4 179 (zEx 1) :: Cond.initialized (zEx 1) :: vx_atS RX4 183 (zEx 1) zEs, vx_ot w = true := by decide +kernel
theorem zgd2 : ∀ w ∈ Cond.classLink RX4 71 (zEx 2) :: Cond.initialized (zEx 2) :: vx_atS RX4 75 (zEx 2) zEs, vx_ot w = true := by decide +kernel
theorem zgd3 : ∀ w ∈ Cond.classLink RX4 51 (zEx 3) :: Cond.initialized (zEx 3) :: vx_atS RX4 55 (zEx 3) zEs, vx_ot w = true := by decide +kernel
theorem zfit1 : Bundle.fit (zEx 1) = true := by decide +kernel
theorem zfit2 : Bundle.fit (zEx 2) = true := by decide +kernel
theorem zfit3 : Bundle.fit (zEx 3) = true := by decide +kernel
