/-! The other throw, the calls of methods that may throw, an exception on its way out. -/
section XU
variable {G : hG} {sa : xS} {own : String} {hw : Cond} {cc : ByteArray} {nL : Nat} {ret : Option FieldType} {p : Program} {l : Launch} {e : Env} {R : Room} {s : State} {m : MethodId} {args : Array Value} {below : List Frame} {meth : Method} {c : Code} {H H0 : Heap} {locs : List Loc} {cells slots : Nat} {Q : State → Prop}
variable {A : Nat → Prop} {f : hm} {pc a : Nat} {ls : Array Slot} {rest st0 : List Value} {av : Array Value} {mc ms sz : Nat} {Es Es0 : String → Prop} {Qc : Array Value → State → Outcome → State → Prop}
theorem x_throwI (hl : l.stackTraces = false) (C : hC G R_B (hw :: bw) cc nL ret p s m args meth c) (hex : ∀ x ∈ c.exceptionTable.toList, False) (hN : xN sa s) {ix q9 : Nat} {tx : String} (hstr : vk_R R_B ix tx q9 s) (hZ : xZ (hA f sz) s s.heap) (hP : hH G (hA f sz) f H) (hS : va_S (hA f sz) s.heap H locs) (hE : Es eI) (hsize : ls.size = nL)
    (d0 : decode cc pc = .ok (.new 166, 3)) (d3 : decode cc (pc + 3) = .ok (.dup, 1)) (d4 : decode cc (pc + 4) = .ok (.ldc ix, 2)) (d6 : decode cc (pc + 6) = .ok (.invokespecial 170, 3)) (d9 : decode cc (pc + 9) = .ok (.athrow, 1))
    (hRframes : 5 < R.frames) (hRlocals : (rest.map fun v => v.category).sum + 82 ≤ R.locals) (hRcells : cells + 1 ≤ R.cells) (hRslots : slots + 6 ≤ R.slots) (hc : cells + 1 ≤ mc) (hs : slots + 6 ≤ ms) :
    W p l e R s m args below meth c H locs cells slots (vx_MQ below Qc (xX G f sz Es) args s mc ms (hA f sz)) (F0 m pc ls rest) := by
  refine vx_throwS (names := ["java/lang/RuntimeException", "java/lang/Exception"]) C.1 C.2.1 hl C.2.2.2.1 (by decide +kernel) (by decide +kernel) (C.w wd_243) (C.w wd_11) hstr ?_ tI_o hZ.1 hZ.2 hS (hsize.trans C.2.2.1.symm) d0 d3 d4 d6 d9 (fun x hx => (hex x hx).elim) hRframes hRlocals hRcells hRslots C.2.2.2.2.2.2.1 ?_ hS.2.2 hc hs
  · exact vx_hat (fun w h => C.w (tI_g w h)) tI_n (vx_c (va_Nw.use rfl hN.1) (vx_c (va_Nw.use rfl hN.2.1) (vx_c (va_Nw.use rfl hN.2.2.1) (vx_c (va_Nw.use rfl hN.2.2.2.2.1) vx_n))))
  · intro t ht hz hq
    refine ⟨(), trivial, ⟨hE, ?_, hK.moved ht C.2.2.2.2.2.2.2⟩, Nat.le_trans hS.1 hz, fun q hq2 hnA => ?_⟩
    · obtain ⟨L, hL, hP1, hD1⟩ := hP
      refine ⟨L, hL, fun k r hr => va_at.kept (hP1 k r hr) ?_, hD1⟩
      exact hq _ (va_at.lt (hP1 k r hr))
    · exact (hq q (Nat.lt_of_lt_of_le hq2 hS.1)).trans (hS.2.1 q hq2 hnA)
/-- an exception leaves the method: nothing of the map has changed -/
theorem x_out (C : hC G own (hw :: bw) cc nL ret p s m args meth c) (hex : ∀ x ∈ c.exceptionTable.toList, False) (hP : hH G (hA f sz) f H) (hS : va_S (hA f sz) s.heap H locs) {E : String} {ce : Cell} {q : Addr} (hE : Es E) (hcell : H[q]? = some ce) (hv : ce.vm = .none) (hcl : s.vm.findClass E = some ce.cls) (hc : cells ≤ mc) (hs : slots ≤ ms) :
    vx_W p l e R s m args below meth c H locs cells slots (vx_MQ below Qc (xX G f sz Es) args s mc ms (hA f sz)) (F0 m pc ls rest) q :=
  vx_out (fun x hx => (hex x hx).elim) C.2.2.2.2.2.2.1 hcell hv hcl (fun t ht hA1 => ⟨(), trivial, ⟨hE, by rw [ht]; exact hP, hK.moved hA1 C.2.2.2.2.2.2.2⟩, hS.F ht⟩) hS.2.2 hc hs
theorem xx_pre (C : hC G own (hw :: bw) cc nL ret p s m args meth c) (hN : xN sa s) (hZ : xZ A s s.heap) (hP : hH G A f H) (hS : va_S A s.heap H locs) (hA0 : ∀ q, s.heap.size ≤ q → A q) {av : List Value} {U : State} (hU : U.heap = H) (hW : s.WarmedH U.vm) : xPc G sa av f H.size av.toArray U :=
  ⟨rfl, ⟨by rw [hU], by rw [hU]; exact hP.weaken (fun _ _ => trivial), hK.moved hW.alike C.2.2.2.2.2.2.2⟩, hN.warm hW, by
    rw [hU]
    exact ((hZ.kept (H1 := H) (fun a h1 h2 => hS.2.1 a h1 h2)).moved hW.alike).narrow (hP.sub hS hA0)⟩
theorem xx_blind {av : List Value} : FrameBlind (xPc G sa av f sz) := fun a U g mk q => by
  obtain ⟨q0, ⟨q1, qP, qK⟩, qN, qZ⟩ := q
  exact ⟨q0, ⟨q1, qP, hK.moved (u := U) (U := U.calling g mk a) (Vm.Alike.refl U.vm) qK⟩, qN.same rfl, qZ.moved (Vm.Alike.refl U.vm)⟩
theorem x_runS {index maxL n : Nat} {y : MethodName} {bytes : ByteArray} {rt : Option FieldType} {rm : Room} {As : List Value} {XC : String → State → State → Prop} (C : hC G own (hw :: bw) cc nL ret p s m args meth c) (hN : xN sa s) (hZ : xZ A s s.heap) (hl : ls.size = nL)
    (hM : vx_Met l y (.code y bytes maxL rt :: bw) rm (xPc G sa As f H.size) Qc XC mc ms (hA f H.size)) (cw : CallB R s args own index y bytes maxL rt (.code y bytes maxL rt :: bw) rm mc ms n ∧ (Cond.static y).before args s = true) (hP : hH G A f H) (hS : va_S A s.heap H locs) (hA0 : ∀ q, s.heap.size ≤ q → A q)
    (hn : As.length = n) (hst : st0 = As.reverse ++ rest) (hW : (rest.map fun v => v.category).sum ≤ 8) (hdg : decode cc pc = .ok (.invokestatic index, 3)) (hf : cells + mc ≤ R.cells ∧ slots + ms ≤ R.slots) :
    vx_Run p l e R s m args below meth c H locs cells slots mc ms (F0 m pc ls st0) rest (Qc As.toArray) XC (hA f H.size) :=
  vx_runS (nL := nL) (Ts := hw :: bw) ⟨C.1, C.2.1, C.2.2.1, C.2.2.2.1, C.2.2.2.2.1⟩ hM cw ⟨xx_blind, fun U hU hW1 => xx_pre C hN hZ hP hS hA0 hU hW1⟩ rfl hn hl hst (lv_room (m := m) (pc := pc) (ls := ls) (rest := st0) hW) hdg hf
theorem x_runV {index maxL n b ci : Nat} {y : MethodName} {bytes : ByteArray} {rt : Option FieldType} {rm : Room} {As fs : List Value} {r : vw_C} {XC : String → State → State → Prop} (C : hC G own (hw :: bw) cc nL ret p s m args meth c) (hN : xN sa s) (hZ : xZ A s s.heap) (hl : ls.size = nL)
    (hM : vx_Met l y (.code y bytes maxL rt :: bw) rm (xPc G sa (.ref b :: As) f H.size) Qc XC mc ms (hA f H.size)) (cw : CallW R s args own r.1 index y bytes maxL rt (.code y bytes maxL rt :: bw) rm mc ms n) (hP : hH G A f H) (hS : va_S A s.heap H locs) (hA0 : ∀ q, s.heap.size ≤ q → A q) (he : f b = some (ob ci fs)) (hc : cls5[ci]? = some r)
    (hn : As.length = n) (hst : st0 = As.reverse ++ .ref b :: rest) (hW : (rest.map fun v => v.category).sum ≤ 8) (hdg : decode cc pc = .ok (.invokevirtual index, 3)) (hf : cells + mc ≤ R.cells ∧ slots + ms ≤ R.slots) :
    vx_Run p l e R s m args below meth c H locs cells slots mc ms (F0 m pc ls st0) rest (Qc (Value.ref b :: As).toArray) XC (hA f H.size) :=
  vx_runV (nL := nL) (Ts := hw :: bw) ⟨C.1, C.2.1, C.2.2.1, C.2.2.2.1, C.2.2.2.2.1⟩ hM cw ⟨xx_blind, cx_recv C hP he hc, fun U hU hW1 => xx_pre (av := .ref b :: As) C hN hZ hP hS hA0 hU hW1⟩ rfl hn hl hst (lv_room (m := m) (pc := pc) (ls := ls) (rest := st0) hW) hdg hf
theorem x_callv {post : hm → Prop} (hr : vx_Run p l e R s m args below meth c H locs cells slots mc ms (F0 m pc ls st0) rest (va_Qv post (hB G (hA f H.size)) (hA f H.size) av) (xX G f H.size Es) (hA f H.size)) (hP : hH G A f H) (hS : va_S A H0 H locs) (hA0 : ∀ q, H0.size ≤ q → A q)
    (kx : ∀ (E : String) (ce : Cell) (q9 : Addr) (H1 : Heap) (locs1 : List Loc), Es E → hH G A f H1 → va_S A H0 H1 locs1 → H1[q9]? = some ce → ce.vm = .none → s.vm.findClass E = some ce.cls → vx_W p l e R s m args below meth c H1 locs1 (cells + mc) (slots + ms) Q (F0 m pc ls rest) q9)
    (kk : ∀ (f1 : hm) (H1 : Heap) (locs1 : List Loc), post f1 → hH G A f1 H1 → va_S A H0 H1 locs1 → W p l e R s m args below meth c H1 locs1 (cells + mc) (slots + ms) Q (F0 m (pc + 3) ls rest)) : W p l e R s m args below meth c H locs cells slots Q (F0 m pc ls st0) :=
  vx_callv hr hS (fun q _ h => hP.sub hS hA0 q h) (hP.sub hS hA0) (fun q _ h => hP.sub hS hA0 q h) (fun E ce q9 u t H1 locs1 ht _ _ hB _ _ hS1 h1 h2 h3 => kx E ce q9 H1 locs1 hB.1 (by rw [← ht]; exact hB.2.1.weaken (hP.sub hS hA0)) hS1 h1 h2 h3) (fun u t H1 locs1 ht _ hw hB _ _ hS1 => kk u H1 locs1 hw (by rw [← ht]; exact hB.1.weaken (hP.sub hS hA0)) hS1)
theorem x_calli {post : Int32 → hm → Prop} (hr : vx_Run p l e R s m args below meth c H locs cells slots mc ms (F0 m pc ls st0) rest (va_Qi post (hB G (hA f H.size)) (hA f H.size) av) (xX G f H.size Es) (hA f H.size)) (hP : hH G A f H) (hS : va_S A H0 H locs) (hA0 : ∀ q, H0.size ≤ q → A q)
    (kx : ∀ (E : String) (ce : Cell) (q9 : Addr) (H1 : Heap) (locs1 : List Loc), Es E → hH G A f H1 → va_S A H0 H1 locs1 → H1[q9]? = some ce → ce.vm = .none → s.vm.findClass E = some ce.cls → vx_W p l e R s m args below meth c H1 locs1 (cells + mc) (slots + ms) Q (F0 m pc ls rest) q9)
    (kk : ∀ (r : Int32) (f1 : hm) (H1 : Heap) (locs1 : List Loc), post r f1 → hH G A f1 H1 → va_S A H0 H1 locs1 → W p l e R s m args below meth c H1 locs1 (cells + mc) (slots + ms) Q (F0 m (pc + 3) ls (.int r :: rest))) : W p l e R s m args below meth c H locs cells slots Q (F0 m pc ls st0) :=
  vx_calli hr hS (fun q _ h => hP.sub hS hA0 q h) (hP.sub hS hA0) (fun q _ h => hP.sub hS hA0 q h) (fun E ce q9 u t H1 locs1 ht _ _ hB _ _ hS1 h1 h2 h3 => kx E ce q9 H1 locs1 hB.1 (by rw [← ht]; exact hB.2.1.weaken (hP.sub hS hA0)) hS1 h1 h2 h3) (fun r u t H1 locs1 ht _ hw hB _ _ hS1 => kk r u H1 locs1 hw (by rw [← ht]; exact hB.1.weaken (hP.sub hS hA0)) hS1)
theorem x_calll {post : Int64 → hm → Prop} (hr : vx_Run p l e R s m args below meth c H locs cells slots mc ms (F0 m pc ls st0) rest (va_Ql post (hB G (hA f H.size)) (hA f H.size) av) (xX G f H.size Es) (hA f H.size)) (hP : hH G A f H) (hS : va_S A H0 H locs) (hA0 : ∀ q, H0.size ≤ q → A q)
    (kx : ∀ (E : String) (ce : Cell) (q9 : Addr) (H1 : Heap) (locs1 : List Loc), Es E → hH G A f H1 → va_S A H0 H1 locs1 → H1[q9]? = some ce → ce.vm = .none → s.vm.findClass E = some ce.cls → vx_W p l e R s m args below meth c H1 locs1 (cells + mc) (slots + ms) Q (F0 m pc ls rest) q9)
    (kk : ∀ (r : Int64) (f1 : hm) (H1 : Heap) (locs1 : List Loc), post r f1 → hH G A f1 H1 → va_S A H0 H1 locs1 → W p l e R s m args below meth c H1 locs1 (cells + mc) (slots + ms) Q (F0 m (pc + 3) ls (.long r :: rest))) : W p l e R s m args below meth c H locs cells slots Q (F0 m pc ls st0) :=
  vx_calll hr hS (fun q _ h => hP.sub hS hA0 q h) (hP.sub hS hA0) (fun q _ h => hP.sub hS hA0 q h) (fun E ce q9 u t H1 locs1 ht _ _ hB _ _ hS1 h1 h2 h3 => kx E ce q9 H1 locs1 hB.1 (by rw [← ht]; exact hB.2.1.weaken (hP.sub hS hA0)) hS1 h1 h2 h3) (fun r u t H1 locs1 ht _ hw hB _ _ hS1 => kk r u H1 locs1 hw (by rw [← ht]; exact hB.1.weaken (hP.sub hS hA0)) hS1)
/-- a call that answers a reference or null, or throws -/
theorem x_callq {post : Option Nat → hm → Prop} (hr : vx_Run p l e R s m args below meth c H locs cells slots mc ms (F0 m pc ls st0) rest (va_Qq post (hB G (hA f H.size)) (hA f H.size) av) (xX G f H.size Es) (hA f H.size)) (hP : hH G A f H) (hS : va_S A H0 H locs) (hA0 : ∀ q, H0.size ≤ q → A q)
    (kx : ∀ (E : String) (ce : Cell) (q9 : Addr) (H1 : Heap) (locs1 : List Loc), Es E → hH G A f H1 → va_S A H0 H1 locs1 → H1[q9]? = some ce → ce.vm = .none → s.vm.findClass E = some ce.cls → vx_W p l e R s m args below meth c H1 locs1 (cells + mc) (slots + ms) Q (F0 m pc ls rest) q9)
    (kk : ∀ (r : Option Nat) (f1 : hm) (H1 : Heap) (locs1 : List Loc), post r f1 → hH G A f1 H1 → va_S A H0 H1 locs1 → W p l e R s m args below meth c H1 locs1 (cells + mc) (slots + ms) Q (F0 m (pc + 3) ls (va_rf r :: rest))) : W p l e R s m args below meth c H locs cells slots Q (F0 m pc ls st0) := by
  have hsub := hP.sub hS hA0
  intro T hT X
  rcases hr T hT X with ⟨v, st₀, t, T', L, h0, X', hL, e1, e2, hq, go⟩ | ⟨q, st₀, t, T', L, E, ce, h0, X', hL, e1, e2, hx, h1, h2, h3, st⟩
  · obtain ⟨⟨r, u, hv, hw, hB⟩, hF⟩ := hq
    cases hv
    obtain ⟨z1, z2, z3⟩ := vx_keep h0 e1 hS (fun q _ h => hsub q h) hsub hL hF
    obtain ⟨t2, a1, b1⟩ := kk r u T'.heap _ hw (by rw [e1]; exact hB.1.weaken hsub) z3 T' rfl X'
    exact ⟨t2, go _ a1, b1⟩
  · obtain ⟨u, -, hB, hF⟩ := hx
    obtain ⟨z1, z2, z3⟩ := vx_keep h0 e1 hS (fun q _ h => hsub q h) hsub hL hF
    obtain ⟨t2, a1, b1⟩ := kx E ce q T'.heap _ hB.1 (by rw [e1]; exact hB.2.1.weaken hsub) z3 (by rw [e1]; exact h1) h2 h3 T' rfl X'
    exact ⟨t2, st.trans a1, b1⟩
theorem g_qret {post : Option Nat → hm → Prop} {v : Option Nat} {nm : String} (C : hC G own (hw :: bw) cc nL (some (.object nm)) p s m args meth c) (hP : hH G A f H) (hS : va_S A s.heap H locs) (hq : post v f) (hc : cells ≤ mc) (hs : slots ≤ ms) (hdg : decode cc pc = .ok (.areturn, 1)) : W p l e R s m args below meth c H locs cells slots (MQ below (va_Qq post (hB G A) A) args s mc ms A) (F0 m pc ls [va_rf v]) :=
  W.widen hc hs (W.aret C.1 C.2.1 C.2.2.2.2.2.1 (Or.inl ⟨_, rfl⟩) (by cases v; exact Or.inl rfl; exact Or.inr ⟨_, rfl⟩) (fun t ht hW => ⟨⟨v, f, rfl, hq, by rw [ht]; exact hP, hK.moved hW.alike C.2.2.2.2.2.2.2⟩, hS.F ht⟩) hS.2.2 hdg C.2.2.2.2.2.2.1)
end XU
