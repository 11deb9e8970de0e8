/-! New objects and arrays, final fields in a constructor, boolean arrays. -/
section HN
variable {G : hG} {own : String} {hw : Cond} {cc : ByteArray} {nL : Nat} {ret : Option FieldType} {p : Program} {l : Launch} {e : Env} {R : Room} {s : State} {m : MethodId} {args : Array Value} {below : List Frame} {meth : Method} {c : Code} {H H0 : Heap} {locs : List Loc} {cells slots : Nat} {Q : State → Prop}
variable {A : Nat → Prop} {f : hm} {pc a : Nat} {ls : Array Slot} {rest : List Value}
theorem g_putF (C : hC G own (hw :: bw) cc nL ret p s m args meth c) {ref Cn : String} {T : u_T} {N ci index : Nat} (hin : ∀ w ∈ u_ws Cn T N, w ∈ bw) (ty0 : Nat → FieldType) (hty : ∀ k, k < N → parseFieldDescriptor (T k).2.2.1 = some (ty0 k)) (hnm : ∀ a, a < N → ∀ b, b < N → a ≠ b → (T a).2.1 ≠ (T b).2.1) (hP : hH G A f H) (hS : va_S A H0 H locs) {fs : List Value} (he : f a = some (ob ci fs)) (hc : cls5[ci]? = some (Cn, T, N)) (k : Nat) (hk : k < N) (hl : Cond.fieldLink own index ref (T k).2.1 (T k).2.2.1 ∈ bw) (hr : ref = (T k).1) (hfin : (T k).2.2.2 = true) (hin2 : meth.name = "<init>") (hdecl : (T k).1 = own) {v : Value} (hn : narrow (ty0 k) v = v) (hfit : fits (ty0 k) v = true) (hlen : k < fs.length) (hdg : decode cc pc = .ok (.putfield index, 3)) (kk : ∀ (H1 : Heap) (locs1 : List Loc), hH G A (va_up f a (some (ob ci (fs.set k v)))) H1 → va_S A H0 H1 locs1 → W p l e R s m args below meth c H1 locs1 cells slots Q (F0 m (pc + 3) ls rest)) : W p l e R s m args below meth c H locs cells slots Q (F0 m pc ls (v :: .ref a :: rest)) := by
  subst hr
  obtain ⟨L, hL, hP, hD⟩ := hP
  obtain ⟨q, hq⟩ := hp_at (D := G.1) (cl := cls5) (A := A) hL he
  exact va_putF C.1 C.2.1 C.2.2.2.2.1 (fun w h => List.mem_cons_of_mem _ (hin w h)) ty0 hty hnm C.2.2.2.1 C.2.2.2.2.2.2.2 hP hD hS q hq hc k hk (C.w hl) (fun _ h => h) hfin hin2 hdecl (hty k hk) hn hfit hlen hdg (fun H1 locs1 hP1 hD1 hS1 => kk H1 locs1 (hp_set hL hD he hq hP1 hD1) hS1)
theorem g_new (C : hC G own (hw :: bw) cc nL ret p s m args meth c) {Cn : String} {T : u_T} {N ci index : Nat} (hin : ∀ w ∈ u_ws Cn T N, w ∈ bw) (ty : Nat → FieldType) (hty : ∀ k, k < N → parseFieldDescriptor (T k).2.2.1 = some (ty k)) (h1 : Cond.classLink own index Cn ∈ bw) (h2 : Cond.instantiable Cn N ∈ bw) (h3 : Cond.initialized Cn ∈ bw) (hP : hH G A f H) (hS : va_S A H0 H locs) (hA0 : ∀ q, H0.size ≤ q → A q) (hc : cls5[ci]? = some (Cn, T, N)) {fs : List Value} (hfs : ∀ j, j < N → defaultValue (ty j) = vp_V fs j) (hcells : cells + 1 ≤ R.cells) (hslots : slots + N ≤ R.slots) (hdg : decode cc pc = .ok (.new index, 3)) (kk : ∀ (q : Nat) (H1 : Heap), f q = none → hH G A (va_up f q (some (ob ci fs))) H1 → va_S A H0 H1 locs → W p l e R s m args below meth c H1 locs (cells + 1) (slots + N) Q (F0 m (pc + 3) ls (.ref q :: rest))) : W p l e R s m args below meth c H locs cells slots Q (F0 m pc ls rest) := by
  obtain ⟨L, hL, hP, hD⟩ := hP
  exact va_new C.1 C.2.1 C.2.2.2.2.1 (fun w h => List.mem_cons_of_mem _ (hin w h)) ty hty C.2.2.2.1 (C.w h1) (C.w h2) (C.w h3) C.2.2.2.2.2.2.2 hP hD hS hA0 hc hfs hcells hslots hdg (fun q H1 hP1 hD1 hS1 => kk q H1 (hp_push hL hP1 hD1).1 (hp_push hL hP1 hD1).2 hS1)
theorem g_newI (C : hC G own (hw :: bw) cc nL ret p s m args meth c) (h1 : Cond.arrayClass .int ∈ bw) (hP : hH G A f H) (hS : va_S A H0 H locs) (hA0 : ∀ q, H0.size ≤ q → A q) {n : Int32} (N : Nat) (hn : ¬ n < 0) (hN : n.toNatClampNeg = N) (hbytes : N * componentBytes .int ≤ 536870912) (hcells : cells + 1 ≤ R.cells) (hslots : slots + N ≤ R.slots) (hdg : decode cc pc = .ok (.newarray .int, 2)) (kk : ∀ (q : Nat) (H1 : Heap), f q = none → hH G A (va_up f q (some (aI G N (fun _ => 0)))) H1 → va_S A H0 H1 locs → W p l e R s m args below meth c H1 locs (cells + 1) (slots + N) Q (F0 m (pc + 2) ls (.ref q :: rest))) : W p l e R s m args below meth c H locs cells slots Q (F0 m pc ls (.int n :: rest)) := by
  obtain ⟨L, hL, hP, hD⟩ := hP
  refine va_newa (atype := .int) C.1 C.2.1 (C.w h1) (ty := .int) rfl C.2.2.2.2.2.2.2 hP hD hS hA0 (a0 := (N, .inl (fun _ => 0))) (fun _ => rfl) hn hN hbytes hcells hslots hdg (fun q cA H1 hK1 hP1 hD1 hS1 => ?_)
  have e1 : cA = G.2.1 := Option.some.inj ((hK1.2 4 (cA, .int) rfl).2.symm.trans (C.2.2.2.2.2.2.2.2 0 (G.2.1, .int) rfl).2)
  subst e1
  exact kk q H1 (hp_push hL hP1 hD1).1 (hp_push hL hP1 hD1).2 hS1
theorem g_newL (C : hC G own (hw :: bw) cc nL ret p s m args meth c) (h1 : Cond.arrayClass .long ∈ bw) (hP : hH G A f H) (hS : va_S A H0 H locs) (hA0 : ∀ q, H0.size ≤ q → A q) {n : Int32} (N : Nat) (hn : ¬ n < 0) (hN : n.toNatClampNeg = N) (hbytes : N * componentBytes .long ≤ 536870912) (hcells : cells + 1 ≤ R.cells) (hslots : slots + N ≤ R.slots) (hdg : decode cc pc = .ok (.newarray .long, 2)) (kk : ∀ (q : Nat) (H1 : Heap), f q = none → hH G A (va_up f q (some (aL G N (fun _ => 0)))) H1 → va_S A H0 H1 locs → W p l e R s m args below meth c H1 locs (cells + 1) (slots + N) Q (F0 m (pc + 2) ls (.ref q :: rest))) : W p l e R s m args below meth c H locs cells slots Q (F0 m pc ls (.int n :: rest)) := by
  obtain ⟨L, hL, hP, hD⟩ := hP
  refine va_newa (atype := .long) C.1 C.2.1 (C.w h1) (ty := .long) rfl C.2.2.2.2.2.2.2 hP hD hS hA0 (a0 := (N, .inr (.inl (fun _ => 0)))) (fun _ => rfl) hn hN hbytes hcells hslots hdg (fun q cA H1 hK1 hP1 hD1 hS1 => ?_)
  have e1 : cA = G.2.2.1 := Option.some.inj ((hK1.2 4 (cA, .long) rfl).2.symm.trans (C.2.2.2.2.2.2.2.2 1 (G.2.2.1, .long) rfl).2)
  subst e1
  exact kk q H1 (hp_push hL hP1 hD1).1 (hp_push hL hP1 hD1).2 hS1
theorem g_newZ (C : hC G own (hw :: bw) cc nL ret p s m args meth c) (h1 : Cond.arrayClass .boolean ∈ bw) (hP : hH G A f H) (hS : va_S A H0 H locs) (hA0 : ∀ q, H0.size ≤ q → A q) {n : Int32} (N : Nat) (hn : ¬ n < 0) (hN : n.toNatClampNeg = N) (hbytes : N * componentBytes .boolean ≤ 536870912) (hcells : cells + 1 ≤ R.cells) (hslots : slots + N ≤ R.slots) (hdg : decode cc pc = .ok (.newarray .boolean, 2)) (kk : ∀ (q : Nat) (H1 : Heap), f q = none → hH G A (va_up f q (some (aZ G N (fun _ => 0)))) H1 → va_S A H0 H1 locs → W p l e R s m args below meth c H1 locs (cells + 1) (slots + N) Q (F0 m (pc + 2) ls (.ref q :: rest))) : W p l e R s m args below meth c H locs cells slots Q (F0 m pc ls (.int n :: rest)) := by
  obtain ⟨L, hL, hP, hD⟩ := hP
  refine va_newa (atype := .boolean) C.1 C.2.1 (C.w h1) (ty := .boolean) rfl C.2.2.2.2.2.2.2 hP hD hS hA0 (a0 := (N, .inl (fun _ => 0))) (fun _ => rfl) hn hN hbytes hcells hslots hdg (fun q cA H1 hK1 hP1 hD1 hS1 => ?_)
  have e1 : cA = G.2.2.2.1 := Option.some.inj ((hK1.2 4 (cA, .boolean) rfl).2.symm.trans (C.2.2.2.2.2.2.2.2 2 (G.2.2.2.1, .boolean) rfl).2)
  subst e1
  exact kk q H1 (hp_push hL hP1 hD1).1 (hp_push hL hP1 hD1).2 hS1
theorem g_newP (C : hC G own (hw :: bw) cc nL ret p s m args meth c) {index : Nat} (h1 : Cond.classLink own index "PartBook$Part" ∈ bw) (h2 : va_AO "PartBook$Part" s) (hP : hH G A f H) (hS : va_S A H0 H locs) (hA0 : ∀ q, H0.size ≤ q → A q) {n : Int32} (N : Nat) (hn : ¬ n < 0) (hN : n.toNatClampNeg = N) (hbytes : N * 4 ≤ 536870912) (hcells : cells + 1 ≤ R.cells) (hslots : slots + N ≤ R.slots) (hdg : decode cc pc = .ok (.anewarray index, 3)) (kk : ∀ (q : Nat) (H1 : Heap), f q = none → hH G A (va_up f q (some (aP G N (fun _ => none)))) H1 → va_S A H0 H1 locs → W p l e R s m args below meth c H1 locs (cells + 1) (slots + N) Q (F0 m (pc + 3) ls (.ref q :: rest))) : W p l e R s m args below meth c H locs cells slots Q (F0 m pc ls (.int n :: rest)) := by
  obtain ⟨L, hL, hP, hD⟩ := hP
  refine va_newq C.1 C.2.1 C.2.2.2.1 (C.w h1) h2 C.2.2.2.2.2.2.2 hP hD hS hA0 hn hN hbytes hcells hslots hdg (fun q cA H1 hK1 hP1 hD1 hS1 => ?_)
  obtain ⟨k1, c1, -, -, -, e2⟩ := (hK1.2 4 (cA, .object "PartBook$Part") rfl).2
  obtain ⟨k3, c3, -, -, -, e4⟩ := (C.2.2.2.2.2.2.2.2 3 (G.2.2.2.2, .object "PartBook$Part") rfl).2
  have e1 : cA = G.2.2.2.2 := Option.some.inj (e2.symm.trans e4)
  subst e1
  exact kk q H1 (hp_push hL hP1 hD1).1 (hp_push hL hP1 hD1).2 hS1
theorem g_zaldN (C : hC G own (hw :: bw) cc nL ret p s m args meth c) (hP : hH G A f H) {n : Nat} {g : Nat → Int32} (ha : f a = some (aZ G n g)) {j : Nat} (hj : j < n) (hn : n < 2 ^ 31) (hdg : decode cc pc = .ok (.baload, 1)) (kk : W p l e R s m args below meth c H locs cells slots Q (F0 m (pc + 1) ls (.int (g j) :: rest))) : W p l e R s m args below meth c H locs cells slots Q (F0 m pc ls (.int (nI j) :: .ref a :: rest)) := by
  obtain ⟨L, hL, hP, hD⟩ := hP
  obtain ⟨q, hq⟩ := hp_at (D := G.1) (cl := cls5) (A := A) hL ha
  exact va_zald C.1 C.2.1 C.2.2.2.2.2.2.2 hP q 2 hq rfl (vp_in_nI hj hn) hdg (by rw [nI_clamp (by omega)]; exact kk)
theorem vp_narZ {x : Int32} (h : x = 0 ∨ x = 1) : vp_nar .boolean x = x := by
  rcases h with rfl | rfl <;> decide
theorem g_zastN (C : hC G own (hw :: bw) cc nL ret p s m args meth c) (hP : hH G A f H) (hS : va_S A H0 H locs) {n : Nat} {g : Nat → Int32} (ha : f a = some (aZ G n g)) {j : Nat} {x : Int32} (hj : j < n) (hn : n < 2 ^ 31) (hz : x = 0 ∨ x = 1) (hdg : decode cc pc = .ok (.bastore, 1)) (kk : ∀ (H1 : Heap) (locs1 : List Loc), hH G A (va_up f a (some (aZ G n (upd g j x)))) H1 → va_S A H0 H1 locs1 → W p l e R s m args below meth c H1 locs1 cells slots Q (F0 m (pc + 1) ls rest)) : W p l e R s m args below meth c H locs cells slots Q (F0 m pc ls (.int x :: .int (nI j) :: .ref a :: rest)) := by
  obtain ⟨L, hL, hP, hD⟩ := hP
  obtain ⟨q, hq⟩ := hp_at (D := G.1) (cl := cls5) (A := A) hL ha
  refine va_zast C.1 C.2.1 C.2.2.2.2.2.2.2 hP hD hS q 2 hq rfl (vp_in_nI hj hn) hdg (fun H1 locs1 hP1 hD1 hS1 => ?_)
  rw [nI_clamp (by omega), vp_narZ hz] at hP1 hD1
  exact kk H1 locs1 (hp_set hL hD ha hq hP1 hD1) hS1
theorem g_objI (C : hC G own (hw :: bw) cc nL ret p s m args meth c) (hl : ls.size = nL) {idx : Nat} (h1 : Cond.methodLink own idx objectInit ∈ bw) (h2 : Cond.instanceMethod objectInit ∈ bw) (h3 : Cond.code objectInit ⟨#[0xb1]⟩ 1 none ∈ bw) (hd : decode cc pc = .ok (.invokespecial idx, 3)) (hframes : 1 ≤ R.frames) (hlocals : (rest.map fun v => v.category).sum + 12 ≤ R.locals) (kk : W p l e R s m args below meth c H locs cells slots Q (F0 m (pc + 3) ls rest)) : W p l e R s m args below meth c H locs cells slots Q (F0 m pc ls (.ref a :: rest)) :=
  W.objInit C.1 C.2.1 C.2.2.2.1 (C.w h1) (C.w h2) (C.w h3) rfl (by rw [C.2.2.1]; exact hl) rfl hd hframes (by simpa [JFrame.monitorRoom] using hlocals) kk
end HN
theorem hm_nn {f : hm} {x q : Nat} {e1 : va_E} (h1 : f x = some e1) (h2 : f q = none) : x ≠ q := fun e => by rw [e, h2] at h1; cases h1
theorem hm_nb {f f1 : hm} {a q : Nat} {v : Option va_E} (e : f1 = va_up f a v) (h : f1 q = none) (hv : v ≠ none) : q ≠ a ∧ f q = none := by
  have hq : q ≠ a := fun z => by rw [e, z] at h; exact hv ((va_up_self _ _ _).symm.trans h)
  exact ⟨hq, (hm_up e hq).symm.trans h⟩
