/-! A method's frame over the heap map: its start, its ends, its fields, arrays and calls. -/
abbrev hG : Type := va_G × ClassId × ClassId × ClassId × ClassId
abbrev tyl (G : hG) : List (ClassId × FieldType) := [(G.2.1, .int), (G.2.2.1, .long), (G.2.2.2.1, .boolean), (G.2.2.2.2, .object "PartBook$Part")]
def hK (G : hG) (U : State) : Prop := va_K G.1 cls5 (tyl G) U
abbrev aI (G : hG) (n : Nat) (g : Nat → Int32) : va_E := .inl (G.2.1, n, .inl g)
abbrev aL (G : hG) (n : Nat) (g : Nat → Int64) : va_E := .inl (G.2.2.1, n, .inr (.inl g))
abbrev aZ (G : hG) (n : Nat) (g : Nat → Int32) : va_E := .inl (G.2.2.2.1, n, .inl g)
abbrev aP (G : hG) (n : Nat) (g : Nat → Option Nat) : va_E := .inl (G.2.2.2.2, n, .inr (.inr (.inr (.inr g))))
abbrev ob (ci : Nat) (fs : List Value) : va_E := .inr (ci, fs)
def hA (f : hm) (sz : Nat) : Nat → Prop := fun q => (f q).isSome = true ∨ sz ≤ q
def hH (G : hG) (A : Nat → Prop) (f : hm) (H : Heap) : Prop := hp_P G.1 cls5 A f H
theorem hK.moved {G : hG} {u U : State} (hvm : u.vm.Alike U.vm) (h : hK G u) : hK G U := va_K.moved hvm h
theorem hH.self {G : hG} {A : Nat → Prop} {f : hm} {H : Heap} (h : hH G A f H) {sz : Nat} : hH G (hA f sz) f H := by
  obtain ⟨L, hL, hP, hD⟩ := h
  refine ⟨L, hL, hP, hD.1, fun k q hq => Or.inl ((hL q.1).mp ?_)⟩
  have := List.mem_of_getElem? hq
  obtain ⟨a, ha, rfl⟩ := List.mem_map.mp this
  exact ha
theorem hH.weaken {G : hG} {A B : Nat → Prop} {f : hm} {H : Heap} (h : hH G A f H) (hAB : ∀ q, A q → B q) : hH G B f H := by
  obtain ⟨L, hL, hP, hD⟩ := h
  exact ⟨L, hL, hP, hD.1, fun k q hq => hAB _ (hD.2 k q hq)⟩
theorem hH.dom {G : hG} {A : Nat → Prop} {f : hm} {H : Heap} (h : hH G A f H) {a : Nat} (ha : (f a).isSome = true) : A a := by
  obtain ⟨L, hL, hP, hD⟩ := h
  obtain ⟨k, hk⟩ := va_pl_get (X := []) (f := h_v f) ((hL a).mpr ha)
  exact hD.2 k _ hk
theorem hH.lt {G : hG} {A : Nat → Prop} {f : hm} {H : Heap} (h : hH G A f H) {a : Nat} (ha : (f a).isSome = true) : a < H.size := by
  obtain ⟨L, hL, hP, hD⟩ := h
  exact va_pl_lt (X := []) hP ((hL a).mpr ha)
theorem hH.sub {G : hG} {A : Nat → Prop} {f : hm} {H H0 : Heap} {locs : List Loc} (h : hH G A f H) (hS : va_S A H0 H locs) (hA0 : ∀ q, H0.size ≤ q → A q) : ∀ q, hA f H.size q → A q := fun q hq => hq.elim (fun hs => h.dom hs) (fun hz => hA0 q (Nat.le_trans hS.1 hz))
theorem hA.new {f : hm} {sz : Nat} : ∀ q, sz ≤ q → hA f sz q := fun _ h => Or.inr h
/-- what stands still in a method: the machine, its code, its words, the world's names -/
def hC (G : hG) (own : String) (ws : List Cond) (cc : ByteArray) (nL : Nat) (ret : Option FieldType) (p : Program) (s : State) (m : MethodId) (args : Array Value) (meth : Method) (c : Code) : Prop :=
  p.tables.exec = Jvm.exec ∧ c.code = cc ∧ c.maxLocals = nL ∧ s.vm.findClass own = some m.cls ∧ (∀ w ∈ ws, w.before args s = true) ∧ meth.sig.returnType = ret ∧ meth.locks = false ∧ hK G s
abbrev hPc (G : hG) (av : List Value) (f : hm) (sz : Nat) : Array Value → State → Prop := va_Pc av (fun U => U.heap.size = sz ∧ hH G (fun _ => True) f U.heap ∧ hK G U)
abbrev hB (G : hG) (A : Nat → Prop) (f : hm) (t : State) : Prop := hH G A f t.heap ∧ hK G t
theorem h_ofW {l : Launch} {G : hG} {y : MethodName} {ws ws' : List Cond} {rm : Room} {av : List Value} {f : hm} {sz : Nat} {Qc : Array Value → State → Outcome → State → Prop} {mc ms : Nat} {cc : ByteArray} {maxL : Nat} {ret : Option FieldType}
    (hy : plainName y.cls = true) (hw : ws = Cond.code y cc maxL ret :: ws') (hn : (lg_sl av).length ≤ maxL)
    (body : ∀ p e s m below meth c ls, hC G y.cls ws cc maxL ret p s m av.toArray meth c → meth.name = y.name → s.heap.size = sz → hH G (hA f sz) f s.heap → lv_has ls maxL (lv_args 0 av) →
      W p l e rm s m av.toArray below meth c s.heap [] 0 0 (MQ below Qc av.toArray s mc ms (hA f sz)) (F0 m 0 ls [])) :
    Met l y ws rm (hPc G av f sz) Qc mc ms (hA f sz) := by
  refine Met.ofW (cc := cc) (maxL := maxL) (ret := ret) hy hw ?_
  intro p e s m args below meth c s₁ B hml hv
  obtain ⟨rfl, hsz, hP, hK⟩ := hv
  have hl := lv_entry av (n := maxL) hn
  rw [lg_entry_eq]
  exact body p e s m below meth c _ ⟨B.exec, B.bytes, hml, findClass_of_methodNamed B.named, atoms_spec (ws := ws) B.pre, B.returns, B.notSynchronized, hK⟩ (name_of_methodNamed B.named B.method).1 hsz hP.self hl
section HB
variable {G : hG} {own : String} {ws : List Cond} {cc : ByteArray} {nL : Nat} {ret : Option FieldType} {p : Program} {l : Launch} {e : Env} {R : Room} {s : State} {m : MethodId} {args : Array Value} {below : List Frame} {meth : Method} {c : Code} {H H0 : Heap} {locs : List Loc} {cells slots : Nat} {Q : State → Prop}
variable {A : Nat → Prop} {f : hm} {pc a : Nat} {ls : Array Slot} {rest : List Value}
theorem g_iret {post : Int32 → hm → Prop} {v : Int32} {mc ms : Nat} (C : hC G own ws cc nL (some .int) p s m args meth c) (hP : hH G A f H) (hS : va_S A s.heap H locs) (hq : post v f) (hc : cells ≤ mc) (hs : slots ≤ ms) (hdg : decode cc pc = .ok (.ireturn, 1)) : W p l e R s m args below meth c H locs cells slots (MQ below (va_Qi post (hB G A) A) args s mc ms A) (F0 m pc ls [.int v]) :=
  W.widen hc hs (W.iret C.1 C.2.1 C.2.2.2.2.2.1 (fun t ht hW => ⟨⟨v, f, rfl, hq, by rw [ht]; exact hP, hK.moved hW.alike C.2.2.2.2.2.2.2⟩, hS.F ht⟩) hS.2.2 hdg C.2.2.2.2.2.2.1)
theorem g_lret {post : Int64 → hm → Prop} {v : Int64} {mc ms : Nat} (C : hC G own ws cc nL (some .long) p s m args meth c) (hP : hH G A f H) (hS : va_S A s.heap H locs) (hq : post v f) (hc : cells ≤ mc) (hs : slots ≤ ms) (hdg : decode cc pc = .ok (.lreturn, 1)) : W p l e R s m args below meth c H locs cells slots (MQ below (va_Ql post (hB G A) A) args s mc ms A) (F0 m pc ls [.long v]) :=
  W.widen hc hs (W.lret C.1 C.2.1 C.2.2.2.2.2.1 (fun t ht hW => ⟨⟨v, f, rfl, hq, by rw [ht]; exact hP, hK.moved hW.alike C.2.2.2.2.2.2.2⟩, hS.F ht⟩) hS.2.2 hdg C.2.2.2.2.2.2.1)
theorem g_vret {post : hm → Prop} {mc ms : Nat} (C : hC G own ws cc nL none p s m args meth c) (hP : hH G A f H) (hS : va_S A s.heap H locs) (hq : post f) (hc : cells ≤ mc) (hs : slots ≤ ms) (hdg : decode cc pc = .ok (.return_, 1)) : W p l e R s m args below meth c H locs cells slots (MQ below (va_Qv post (hB G A) A) args s mc ms A) (F0 m pc ls []) :=
  W.widen hc hs (W.vret C.1 C.2.1 C.2.2.2.2.2.1 (fun t ht hW => ⟨⟨f, rfl, hq, by rw [ht]; exact hP, hK.moved hW.alike C.2.2.2.2.2.2.2⟩, hS.F ht⟩) hS.2.2 hdg C.2.2.2.2.2.2.1)
theorem g_zret {post : Int32 → hm → Prop} {v : Int32} {mc ms : Nat} (C : hC G own ws cc nL (some .boolean) p s m args meth c) (hz : v = 0 ∨ v = 1) (hP : hH G A f H) (hS : va_S A s.heap H locs) (hq : post v f) (hc : cells ≤ mc) (hs : slots ≤ ms) (hdg : decode cc pc = .ok (.ireturn, 1)) : W p l e R s m args below meth c H locs cells slots (MQ below (va_Qi post (hB G A) A) args s mc ms A) (F0 m pc ls [.int v]) := by
  refine W.widen hc hs (W.zret C.1 C.2.1 C.2.2.2.2.2.1 ?_ (fun t ht hW => ⟨⟨v, f, rfl, hq, by rw [ht]; exact hP, hK.moved hW.alike C.2.2.2.2.2.2.2⟩, hS.F ht⟩) hS.2.2 hdg C.2.2.2.2.2.2.1)
  rcases hz with rfl | rfl
  · exact narrow_b0
  · exact narrow_b1
end HB
