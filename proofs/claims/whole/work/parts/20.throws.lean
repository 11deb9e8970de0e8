/-! Methods that may throw: what they need of the start, their calls, their ends. -/
abbrev eA : String := "java/lang/IllegalArgumentException"
abbrev eI : String := "java/lang/IndexOutOfBoundsException"
abbrev mRE : MethodName := Bundle.initS "java/lang/RuntimeException"
abbrev mEX : MethodName := Bundle.initS "java/lang/Exception"
abbrev mTH : MethodName := Bundle.initS Bundle.tN
abbrev xS : Type := Nat × Nat × Nat
/-- the words on exceptions that are looked up at each method's start; the three texts -/
def xN (sa : xS) (U : State) : Prop := va_Nw (.declares mRE) U ∧ va_Nw (.declares mEX) U ∧ va_Nw (.declares mTH) U ∧ va_Nw (.castable eA eA) U ∧ va_Nw (.castable eI eI) U ∧ vk_R R_B 177 "a number is out of its range" sa.1 U ∧ vk_R R_B 168 "no such part" sa.2.1 U ∧ vk_R R_B 173 "no such rule, name, currency or what" sa.2.2 U
theorem xN.warm {sa : xS} {s U : State} (hW : s.WarmedH U.vm) (h : xN sa s) : xN sa U :=
  ⟨h.1.warmD hW, h.2.1.warmD hW, h.2.2.1.warmD hW, h.2.2.2.1.warmC hW, h.2.2.2.2.1.warmC hW, vk_R.warm hW h.2.2.2.2.2.1, vk_R.warm hW h.2.2.2.2.2.2.1, vk_R.warm hW h.2.2.2.2.2.2.2⟩
theorem xN.same {sa : xS} {u U : State} (hv : u.vm = U.vm) (h : xN sa u) : xN sa U :=
  ⟨va_Nw.same rfl hv h.1, va_Nw.same rfl hv h.2.1, va_Nw.same rfl hv h.2.2.1, va_Nw.same rfl hv h.2.2.2.1, va_Nw.same rfl hv h.2.2.2.2.1, vk_R.same hv.symm h.2.2.2.2.2.1, vk_R.same hv.symm h.2.2.2.2.2.2.1, vk_R.same hv.symm h.2.2.2.2.2.2.2⟩
def xZ (A : Nat → Prop) (U : State) (H : Heap) : Prop := vx_Zq Bundle.tN "UNASSIGNED_STACK" Bundle.steD A U H ∧ vx_Zq Bundle.tN "SUPPRESSED_SENTINEL" Bundle.listD A U H
theorem xZ.moved {A : Nat → Prop} {u U : State} {H : Heap} (hvm : u.vm.Alike U.vm) (h : xZ A u H) : xZ A U H := ⟨h.1.moved hvm, h.2.moved hvm⟩
theorem xZ.kept {A : Nat → Prop} {U : State} {H H1 : Heap} (h : xZ A U H) (hq : ∀ a : Nat, a < H.size → ¬ A a → H1[a]? = H[a]?) : xZ A U H1 := ⟨h.1.kept hq, h.2.kept hq⟩
theorem xZ.narrow {A B : Nat → Prop} {U : State} {H : Heap} (h : xZ A U H) (hAB : ∀ q, B q → A q) : xZ B U H := ⟨h.1.narrow hAB, h.2.narrow hAB⟩
abbrev xPc (G : hG) (sa : xS) (av : List Value) (f : hm) (sz : Nat) : Array Value → State → Prop := va_Pc av (fun U => (U.heap.size = sz ∧ hH G (fun _ => True) f U.heap ∧ hK G U) ∧ xN sa U ∧ xZ (hA f sz) U U.heap)
abbrev xX (G : hG) (f : hm) (sz : Nat) (Es : String → Prop) : String → State → State → Prop := vx_X (fun _ : Unit => True) (fun E _ t => Es E ∧ hB G (hA f sz) f t) (hA f sz)
abbrev xi_ (l : Launch) (G : hG) (sa : xS) (y : MethodName) (ws : List Cond) (rm : Room) (av : List Value) (f : hm) (post : Int32 → hm → Prop) (Es : String → Prop) : Prop := ∀ sz : Nat, vx_Met l y ws rm (xPc G sa av f sz) (va_Qi post (hB G (hA f sz)) (hA f sz)) (xX G f sz Es) rm.cells rm.slots (hA f sz)
abbrev xl_ (l : Launch) (G : hG) (sa : xS) (y : MethodName) (ws : List Cond) (rm : Room) (av : List Value) (f : hm) (post : Int64 → hm → Prop) (Es : String → Prop) : Prop := ∀ sz : Nat, vx_Met l y ws rm (xPc G sa av f sz) (va_Ql post (hB G (hA f sz)) (hA f sz)) (xX G f sz Es) rm.cells rm.slots (hA f sz)
abbrev xv_ (l : Launch) (G : hG) (sa : xS) (y : MethodName) (ws : List Cond) (rm : Room) (av : List Value) (f : hm) (post : hm → Prop) (Es : String → Prop) : Prop := ∀ sz : Nat, vx_Met l y ws rm (xPc G sa av f sz) (va_Qv post (hB G (hA f sz)) (hA f sz)) (xX G f sz Es) rm.cells rm.slots (hA f sz)
abbrev xq_ (l : Launch) (G : hG) (sa : xS) (y : MethodName) (ws : List Cond) (rm : Room) (av : List Value) (f : hm) (post : Option Nat → hm → Prop) (Es : String → Prop) : Prop := ∀ sz : Nat, vx_Met l y ws rm (xPc G sa av f sz) (va_Qq post (hB G (hA f sz)) (hA f sz)) (xX G f sz Es) rm.cells rm.slots (hA f sz)
theorem x_ofW {l : Launch} {G : hG} {sa : xS} {y : MethodName} {ws ws' : List Cond} {rm : Room} {av : List Value} {f : hm} {sz : Nat} {Qc : Array Value → State → Outcome → State → Prop} {XC : String → State → State → Prop} {mc ms : Nat} {cc : ByteArray} {maxL : Nat} {ret : Option FieldType}
    (hy : plainName y.cls = true) (hw : ws = Cond.code y cc maxL ret :: ws') (hn : (lg_sl av).length ≤ maxL)
    (body : ∀ p e s m below meth c ls, hC G y.cls ws cc maxL ret p s m av.toArray meth c → (∀ x ∈ c.exceptionTable.toList, False) → xN sa s → xZ (hA f sz) s s.heap → s.heap.size = sz → hH G (hA f sz) f s.heap → lv_has ls maxL (lv_args 0 av) →
      W p l e rm s m av.toArray below meth c s.heap [] 0 0 (vx_MQ below Qc XC av.toArray s mc ms (hA f sz)) (F0 m 0 ls [])) :
    vx_Met l y ws rm (xPc G sa av f sz) Qc XC mc ms (hA f sz) := by
  refine vx_ofW (cc := cc) (maxL := maxL) (ret := ret) hy hw ?_
  intro p e s m args below meth c s₁ B hml hex hv
  obtain ⟨rfl, ⟨hsz, hP, hK⟩, hN, hZ⟩ := hv
  have hl := lv_entry av (n := maxL) hn
  rw [lg_entry_eq]
  exact body p e s m below meth c _ ⟨B.exec, B.bytes, hml, findClass_of_methodNamed B.named, atoms_spec (ws := ws) B.pre, B.returns, B.notSynchronized, hK⟩ hex hN hZ hsz hP.self hl
theorem tA_g : ∀ w ∈ (vx_atS R_B 179 eA ["java/lang/RuntimeException", "java/lang/Exception"]).filter goodWord, w ∈ bw := by decide +kernel
theorem tA_n : ∀ w ∈ (vx_atS R_B 179 eA ["java/lang/RuntimeException", "java/lang/Exception"]).filter (fun w => !goodWord w), w ∈ [Cond.declares mRE, .declares mEX, .declares mTH, .castable eA eA] := by decide +kernel
theorem tA_o : ∀ w ∈ Cond.classLink R_B 175 eA :: Cond.initialized eA :: vx_atS R_B 179 eA ["java/lang/RuntimeException", "java/lang/Exception"], vx_ot w = true := by decide +kernel
theorem tI_g : ∀ w ∈ (vx_atS R_B 170 eI ["java/lang/RuntimeException", "java/lang/Exception"]).filter goodWord, w ∈ bw := by decide +kernel
theorem tI_n : ∀ w ∈ (vx_atS R_B 170 eI ["java/lang/RuntimeException", "java/lang/Exception"]).filter (fun w => !goodWord w), w ∈ [Cond.declares mRE, .declares mEX, .declares mTH, .castable eI eI] := by decide +kernel
theorem tI_o : ∀ w ∈ Cond.classLink R_B 166 eI :: Cond.initialized eI :: vx_atS R_B 170 eI ["java/lang/RuntimeException", "java/lang/Exception"], vx_ot w = true := by decide +kernel
section XT
variable {G : hG} {sa : xS} {own : String} {hw : Cond} {cc : ByteArray} {nL : Nat} {ret : Option FieldType} {p : Program} {l : Launch} {e : Env} {R : Room} {s : State} {m : MethodId} {args : Array Value} {below : List Frame} {meth : Method} {c : Code} {H H0 : Heap} {locs : List Loc} {cells slots : Nat} {Q : State → Prop}
variable {A : Nat → Prop} {f : hm} {pc a : Nat} {ls : Array Slot} {rest st0 : List Value} {av : Array Value} {mc ms sz : Nat} {Es : String → Prop} {Qc : Array Value → State → Outcome → State → Prop}
/-- throw new IllegalArgumentException(..): nothing has been written -/
theorem x_throwA (hl : l.stackTraces = false) (C : hC G R_B (hw :: bw) cc nL ret p s m args meth c) (hex : ∀ x ∈ c.exceptionTable.toList, False) (hN : xN sa s) (hZ : xZ (hA f sz) s s.heap) (hP : hH G (hA f sz) f H) (hS : va_S (hA f sz) s.heap H locs) (hE : Es eA) (hsize : ls.size = nL)
    (d0 : decode cc pc = .ok (.new 175, 3)) (d3 : decode cc (pc + 3) = .ok (.dup, 1)) (d4 : decode cc (pc + 4) = .ok (.ldc 177, 2)) (d6 : decode cc (pc + 6) = .ok (.invokespecial 179, 3)) (d9 : decode cc (pc + 9) = .ok (.athrow, 1))
    (hRframes : 5 < R.frames) (hRlocals : (rest.map fun v => v.category).sum + 82 ≤ R.locals) (hRcells : cells + 1 ≤ R.cells) (hRslots : slots + 6 ≤ R.slots) (hc : cells + 1 ≤ mc) (hs : slots + 6 ≤ ms) :
    W p l e R s m args below meth c H locs cells slots (vx_MQ below Qc (xX G f sz Es) args s mc ms (hA f sz)) (F0 m pc ls rest) := by
  refine vx_throwS (names := ["java/lang/RuntimeException", "java/lang/Exception"]) C.1 C.2.1 hl C.2.2.2.1 (by decide +kernel) (by decide +kernel) (C.w wd_78) (C.w wd_7) hN.2.2.2.2.2.1 ?_ tA_o hZ.1 hZ.2 hS (hsize.trans C.2.2.1.symm) d0 d3 d4 d6 d9 (fun x hx => (hex x hx).elim) hRframes hRlocals hRcells hRslots C.2.2.2.2.2.2.1 ?_ hS.2.2 hc hs
  · exact vx_hat (fun w h => C.w (tA_g w h)) tA_n (vx_c (va_Nw.use rfl hN.1) (vx_c (va_Nw.use rfl hN.2.1) (vx_c (va_Nw.use rfl hN.2.2.1) (vx_c (va_Nw.use rfl hN.2.2.2.1) vx_n))))
  · intro t ht hz hq
    refine ⟨(), trivial, ⟨hE, ?_, hK.moved ht C.2.2.2.2.2.2.2⟩, Nat.le_trans hS.1 hz, fun q hq2 hnA => ?_⟩
    · obtain ⟨L, hL, hP1, hD1⟩ := hP
      refine ⟨L, hL, fun k r hr => va_at.kept (hP1 k r hr) ?_, hD1⟩
      exact hq _ (va_at.lt (hP1 k r hr))
    · exact (hq q (Nat.lt_of_lt_of_le hq2 hS.1)).trans (hS.2.1 q hq2 hnA)
end XT
