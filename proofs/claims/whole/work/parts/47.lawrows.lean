/-! Rows for the law's own walk. -/
def lA (s : State) : Nat → Prop := fun q => s.heap.size ≤ q
theorem mS_y {G : hG} {f : hm} {y : Nat} {ca : Nat → Nat} {b : BD} {th : Int32} {bc : Int64} {cp : Int32} (h : mS G f y ca b th bc cp) : ∃ fs, f y = some (ob 4 fs) := by
  obtain ⟨_, _, _, _, _, _, _, _, _, _, _, _, _, _, _, _, _, _, hv, -⟩ := h
  exact ⟨_, hv.1⟩
theorem lp_mp {I N : Prop} {b b1 b2 : BD} {k th : Int32} {K ok : Prop} (h : lp I N b b1 k K) (h2 : mp I N b b1 ok th b2) : th = k ∧ b2 = b1 ∧ (k = 0 → K ∧ ok) := by
  rcases h with ⟨i1, n1, k1, c1⟩ | ⟨i1, n1, k1, c1⟩ | ⟨i1, k1, c1⟩ <;> rcases h2 with ⟨i2, n2, t2, e2, o2⟩ | ⟨i2, n2, t2, e2⟩ | ⟨i2, t2, e2⟩
  · exact ⟨t2.trans k1.symm, e2, fun _ => ⟨c1, o2⟩⟩
  · exact absurd n1 n2
  · exact absurd i1 i2
  · exact absurd n2 n1
  · exact ⟨t2.trans k1.symm, e2.trans c1.symm, fun z => absurd (z.symm.trans k1) (by decide)⟩
  · exact absurd i1 i2
  · exact absurd i2 i1
  · exact absurd i2 i1
  · exact ⟨t2.trans k1.symm, e2.trans c1.symm, fun z => absurd (z.symm.trans k1) (by decide)⟩
theorem mp_tt {b b1 b2 : BD} {th : Int32} {ok : Prop} (h : mp True True b b1 ok th b2) : b2 = b1 ∧ ok := by
  rcases h with ⟨-, -, -, e2, o2⟩ | ⟨-, n2, -⟩ | ⟨i2, -⟩
  · exact ⟨e2, o2⟩
  · exact absurd trivial n2
  · exact absurd trivial i2
theorem lp_K {I N : Prop} {b b1 : BD} {k : Int32} {K K2 : Prop} (h : lp I N b b1 k (K ∧ K2)) (hI : I) (hN : N) : K := by
  rcases h with ⟨-, -, -, c1, -⟩ | ⟨-, n1, -⟩ | ⟨i1, -⟩
  · exact c1
  · exact absurd hN n1
  · exact absurd hI i1
theorem dj_at {f r : hm} {q : Nat} {e : va_E} (h : dj f r) (hq : r q = some e) : f q = none := (h q).elim id (fun z => by rw [hq] at z; cases z)
theorem dj_jr {f g r : hm} (h1 : dj f g) (h2 : dj f r) : dj f (hj g r) := (dj_jl h1.symm h2.symm).symm
theorem hj_1 {f : hm} {q : Nat} {e : va_E} : va_up f q (some e) = hj (hc1 q e) f := by
  funext z
  by_cases h : z = q
  · rw [h, va_up_self, hj_l hc1_s]
  · rw [va_up_ne _ _ h, hj_r (hc1_n h)]
/-- the law's state: the book, the reference, the cell of the answer, side by side -/
def LI (G : hG) (A : Nat → Prop) (x y o : Nat) (ca : Nat → Nat) (H : Heap) : Prop := ∃ (fx fm : hm) (g : Nat → Int64) (a : AD) (b : BD) (th : Int32) (bc : Int64) (cp : Int32), bk G fx x a b ∧ mS G fm y ca b th bc cp ∧ fx o = none ∧ dj (hj fx (hc1 o (aL G 1 g))) fm ∧ hH G A (hj (hj fx (hc1 o (aL G 1 g))) fm) H
section LR
variable {G : hG} {sa : xS} {own : String} {hw : Cond} {cc : ByteArray} {nL : Nat} {ret : Option FieldType} {p : Program} {l : Launch} {e : Env} {R : Room} {s : State} {m : MethodId} {args : Array Value} {below : List Frame} {meth : Method} {c : Code} {H H0 : Heap} {locs : List Loc} {cells slots : Nat} {Q : State → Prop}
variable {A : Nat → Prop} {f : hm} {pc a : Nat} {ls : Array Slot} {rest st0 : List Value} {mc ms sz : Nat} {Qc : Array Value → State → Outcome → State → Prop}
theorem s_ld (C : hC G own (hw :: bw) cc nL ret p s m args meth c) {b L : Nat} {xs : Nat → Int32} (hX : va_X b L xs s H0) (hbl : b < H0.size) (hbA : ¬ A b) (hS : va_S A H0 H locs) {j : Nat} (hj : j < L) (hL : L < 2 ^ 31) (hdg : decode cc pc = .ok (.iaload, 1)) (kk : W p l e R s m args below meth c H locs cells slots Q (F0 m (pc + 1) ls (.int (xs j) :: rest))) : W p l e R s m args below meth c H locs cells slots Q (F0 m pc ls (.int (nI j) :: .ref b :: rest)) :=
  va_sld C.1 C.2.1 hX hbl hbA hS (vp_in_nI hj hL) hdg (by rw [nI_clamp (by omega)]; exact kk)
theorem ll_pre (C : hC G own (hw :: bw) cc nL ret p s m args meth c) (hN : xN sa s) (hZ : xZ A s s.heap) (hNc : va_Nc eA eI s) (hP : hH G A f H) (hS : va_S A s.heap H locs) (hA0 : ∀ q, s.heap.size ≤ q → A q) {av : List Value} {U : State} (hU : U.heap = H) (hW : s.WarmedH U.vm) : lPc G sa av f H.size av.toArray U :=
  ⟨rfl, ⟨⟨by rw [hU], by rw [hU]; exact hP.weaken (fun _ _ => trivial), hK.moved hW.alike C.2.2.2.2.2.2.2⟩, hN.warm hW, by
    rw [hU]
    exact ((hZ.kept (H1 := H) (fun a h1 h2 => hS.2.1 a h1 h2)).moved hW.alike).narrow (hP.sub hS hA0)⟩, hNc.moved hW.alike⟩
theorem ll_blind {av : List Value} : FrameBlind (lPc G sa av f sz) := fun a U g mk q => by
  obtain ⟨q0, ⟨⟨q1, qP, qK⟩, qN, qZ⟩, qC⟩ := q
  exact ⟨q0, ⟨⟨q1, qP, hK.moved (u := U) (U := U.calling g mk a) (Vm.Alike.refl U.vm) qK⟩, qN.same rfl, qZ.moved (Vm.Alike.refl U.vm)⟩, qC.moved (Vm.Alike.refl U.vm)⟩
theorem cx_SW (C : hC G own (hw :: bw) cc nL ret p s m args meth c) {index maxL mc ms : Nat} {y : MethodName} {bytes : ByteArray} {rt : Option FieldType} {hh : List (Nat × Nat × Nat × Nat)} {rm : Room} (n : Nat)
    (h1 : Cond.methodLink own index y ∈ bw) (h2 : Cond.static y ∈ bw) (h3 : Cond.initialized y.cls ∈ bw) (h4 : Cond.codeWith y bytes maxL rt hh ∈ bw) (hrc : rm.cells = mc) (hrs : rm.slots = ms)
    (hd : y.cls ≠ "java/lang/invoke/MethodHandle" ∧ y.cls ≠ "java/lang/invoke/VarHandle" ∧ (parseMethodDescriptor y.desc).map (fun d => d.parameters.length) = some n) (hR : rm.frames + 1 ≤ R.frames ∧ 8 + (maxL + 11) + rm.locals ≤ R.locals) :
    vx_CSW R s args own index y bytes maxL rt hh (.codeWith y bytes maxL rt hh :: bw) rm mc ms n :=
  vx_cwSW n C.2.2.2.2.1 (bw_GoodIn (bw_c h1 (bw_c h2 (bw_c h3 (bw_c h4 bw_s))))) rfl hrc hrs hd hR
theorem l_runS {index maxL n : Nat} {y : MethodName} {bytes : ByteArray} {rt : Option FieldType} {hh : List (Nat × Nat × Nat × Nat)} {rm : Room} {As : List Value} (C : hC G own (hw :: bw) cc nL ret p s m args meth c) (hN : xN sa s) (hZ : xZ A s s.heap) (hNc : va_Nc eA eI s) (hl : ls.size = nL)
    (hM : Met l y (.codeWith y bytes maxL rt hh :: bw) rm (lPc G sa As f H.size) Qc mc ms (hA f H.size)) (cw : vx_CSW R s args own index y bytes maxL rt hh (.codeWith y bytes maxL rt hh :: bw) rm mc ms n) (hP : hH G A f H) (hS : va_S A s.heap H locs) (hA0 : ∀ q, s.heap.size ≤ q → A q)
    (hn : As.length = n) (hst : st0 = As.reverse ++ rest) (hW : (rest.map fun v => v.category).sum ≤ 8) (hdg : decode cc pc = .ok (.invokestatic index, 3)) (hf : cells + mc ≤ R.cells ∧ slots + ms ≤ R.slots) :
    va_Run p l e R s m args below meth c H locs cells slots mc ms (F0 m pc ls st0) rest (Qc As.toArray) (hA f H.size) :=
  vx_runSW (nL := nL) (Ts := hw :: bw) ⟨C.1, C.2.1, C.2.2.1, C.2.2.2.1, C.2.2.2.2.1⟩ hM cw ⟨ll_blind, fun U hU hW1 => ll_pre C hN hZ hNc hP hS hA0 hU hW1⟩ rfl hn hl hst (lv_room (m := m) (pc := pc) (ls := ls) (rest := st0) hW) hdg hf
theorem aa_pre (C : hC G own (hw :: bw) cc nL ret p s m args meth c) (hAO : va_AO "PartBook$Part" s) (hP : hH G A f H) {av : List Value} : PreS s H (hPa G av f H.size) av :=
  ⟨fun a U g mk q => by
    obtain ⟨q0, ⟨q1, qP, qK⟩, qO⟩ := q
    exact ⟨q0, ⟨q1, qP, hK.moved (u := U) (U := U.calling g mk a) (Vm.Alike.refl U.vm) qK⟩, qO.moved (Vm.Alike.refl U.vm)⟩,
   fun U hU hW => ⟨rfl, ⟨by rw [hU], by rw [hU]; exact hP.weaken (fun _ _ => trivial), hK.moved hW.alike C.2.2.2.2.2.2.2⟩, hAO.moved hW.alike⟩⟩
theorem a_runI {index maxL n b : Nat} {y : MethodName} {bytes : ByteArray} {rm : Room} {As : List Value} (C : hC G own (hw :: bw) cc nL ret p s m args meth c) (hAO : va_AO "PartBook$Part" s) (hl : ls.size = nL)
    (hM : Met l y (.code y bytes maxL none :: bw) rm (hPa G (.ref b :: As) f H.size) Qc mc ms (hA f H.size)) (cw : CallB R s args own index y bytes maxL none (.code y bytes maxL none :: bw) rm mc ms n ∧ y.name = "<init>" ∧ (Cond.instanceMethod y).before args s = true) (hP : hH G A f H)
    (hn : As.length = n) (hst : st0 = As.reverse ++ .ref b :: rest) (hW : (rest.map fun v => v.category).sum ≤ 8) (hdg : decode cc pc = .ok (.invokespecial index, 3)) (hf : cells + mc ≤ R.cells ∧ slots + ms ≤ R.slots) :
    va_Run p l e R s m args below meth c H locs cells slots mc ms (F0 m pc ls st0) rest (Qc (Value.ref b :: As).toArray) (hA f H.size) :=
  va_runI (nL := nL) (Ts := hw :: bw) ⟨C.1, C.2.1, C.2.2.1, C.2.2.2.1, C.2.2.2.2.1⟩ hM cw (aa_pre C hAO hP) rfl hn hl hst (lv_room (m := m) (pc := pc) (ls := ls) (rest := st0) hW) hdg hf
end LR
theorem s_gt {i L : Nat} (hi : i ≤ 10000) (hL : L ≤ 10000) : nI L - 10 < nI i ↔ L < i + 10 := by
  have h1 : (nI L - 10).toInt = (L : Int) - 10 := by
    rw [Int32.toInt_sub, nI_toInt (by omega), show (10 : Int32).toInt = 10 by decide]
    exact Int.bmod_eq_of_le (by omega) (by omega)
  rw [Int32.lt_iff_toInt_lt, h1, nI_toInt (by omega)]
  omega
