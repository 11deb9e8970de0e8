/-! Fields, arrays and calls over the heap map, with what stands still in one place. -/
section HR
variable {G : hG} {own : String} {hw : Cond} {cc : ByteArray} {nL : Nat} {ret : Option FieldType} {p : Program} {l : Launch} {e : Env} {R : Room} {s : State} {m : MethodId} {args : Array Value} {below : List Frame} {meth : Method} {c : Code} {H H0 : Heap} {locs : List Loc} {cells slots : Nat} {Q : State → Prop}
variable {A : Nat → Prop} {f : hm} {pc a : Nat} {ls : Array Slot} {rest : List Value}
theorem hC.w (C : hC G own (hw :: bw) cc nL ret p s m args meth c) {w : Cond} (h : w ∈ bw) : w.before args s = true := C.2.2.2.2.1 w (List.mem_cons_of_mem _ h)
theorem g_get (C : hC G own (hw :: bw) cc nL ret p s m args meth c) {ref Cn : String} {T : u_T} {N ci index : Nat} (hin : ∀ w ∈ u_ws Cn T N, w ∈ bw) (hP : hH G A f H) {fs : List Value} (he : f a = some (ob ci fs)) (hc : cls5[ci]? = some (Cn, T, N)) (k : Nat) (hk : k < N) (hl : Cond.fieldLink own index ref (T k).2.1 (T k).2.2.1 ∈ bw) (hr : ref = (T k).1) {v : Value} (hv : fs[k]? = some v) (hdg : decode cc pc = .ok (.getfield index, 3)) (kk : W p l e R s m args below meth c H locs cells slots Q (F0 m (pc + 3) ls (v :: rest))) : W p l e R s m args below meth c H locs cells slots Q (F0 m pc ls (.ref a :: rest)) := by
  subst hr
  exact hp_get C.1 C.2.1 C.2.2.2.2.1 (fun w h => List.mem_cons_of_mem _ (hin w h)) C.2.2.2.1 C.2.2.2.2.2.2.2 hP he hc k hk (C.w hl) (fun _ h => h) hv hdg kk
theorem g_put (C : hC G own (hw :: bw) cc nL ret p s m args meth c) {ref Cn : String} {T : u_T} {N ci index : Nat} (hin : ∀ w ∈ u_ws Cn T N, w ∈ bw) (ty0 : Nat → FieldType) (hty : ∀ k, k < N → parseFieldDescriptor (T k).2.2.1 = some (ty0 k)) (hnm : ∀ a, a < N → ∀ b, b < N → a ≠ b → (T a).2.1 ≠ (T b).2.1) (hP : hH G A f H) (hS : va_S A H0 H locs) {fs : List Value} (he : f a = some (ob ci fs)) (hc : cls5[ci]? = some (Cn, T, N)) (k : Nat) (hk : k < N) (hl : Cond.fieldLink own index ref (T k).2.1 (T k).2.2.1 ∈ bw) (hr : ref = (T k).1) (hfin : (T k).2.2.2 = false) {v : Value} (hn : narrow (ty0 k) v = v) (hfit : fits (ty0 k) v = true) (hlen : k < fs.length) (hdg : decode cc pc = .ok (.putfield index, 3)) (kk : ∀ (H1 : Heap) (locs1 : List Loc), hH G A (va_up f a (some (ob ci (fs.set k v)))) H1 → va_S A H0 H1 locs1 → W p l e R s m args below meth c H1 locs1 cells slots Q (F0 m (pc + 3) ls rest)) : W p l e R s m args below meth c H locs cells slots Q (F0 m pc ls (v :: .ref a :: rest)) := by
  subst hr
  exact hp_put C.1 C.2.1 C.2.2.2.2.1 (fun w h => List.mem_cons_of_mem _ (hin w h)) ty0 hty hnm C.2.2.2.1 C.2.2.2.2.2.2.2 hP hS he hc k hk (C.w hl) (fun _ h => h) hfin (hty k hk) hn hfit hlen hdg kk
theorem g_iald (C : hC G own (hw :: bw) cc nL ret p s m args meth c) (hP : hH G A f H) {n : Nat} {g : Nat → Int32} (ha : f a = some (aI G n g)) {i : Int32} (hin : vp_in i n) (hdg : decode cc pc = .ok (.iaload, 1)) (kk : W p l e R s m args below meth c H locs cells slots Q (F0 m (pc + 1) ls (.int (g i.toNatClampNeg) :: rest))) : W p l e R s m args below meth c H locs cells slots Q (F0 m pc ls (.int i :: .ref a :: rest)) :=
  hp_iald C.1 C.2.1 C.2.2.2.2.2.2.2 hP 0 ha rfl hin hdg kk
theorem g_lald (C : hC G own (hw :: bw) cc nL ret p s m args meth c) (hP : hH G A f H) {n : Nat} {g : Nat → Int64} (ha : f a = some (aL G n g)) {i : Int32} (hin : vp_in i n) (hdg : decode cc pc = .ok (.laload, 1)) (kk : W p l e R s m args below meth c H locs cells slots Q (F0 m (pc + 1) ls (.long (g i.toNatClampNeg) :: rest))) : W p l e R s m args below meth c H locs cells slots Q (F0 m pc ls (.int i :: .ref a :: rest)) :=
  hp_lald C.1 C.2.1 C.2.2.2.2.2.2.2 hP 1 ha rfl hin hdg kk
theorem g_aald (C : hC G own (hw :: bw) cc nL ret p s m args meth c) (hP : hH G A f H) {n : Nat} {g : Nat → Option Nat} (ha : f a = some (aP G n g)) {i : Int32} (hin : vp_in i n) (hdg : decode cc pc = .ok (.aaload, 1)) (kk : W p l e R s m args below meth c H locs cells slots Q (F0 m (pc + 1) ls (va_rf (g i.toNatClampNeg) :: rest))) : W p l e R s m args below meth c H locs cells slots Q (F0 m pc ls (.int i :: .ref a :: rest)) :=
  hp_aldq C.1 C.2.1 C.2.2.2.2.2.2.2 hP 3 ha rfl hin hdg kk
theorem g_iast (C : hC G own (hw :: bw) cc nL ret p s m args meth c) (hP : hH G A f H) (hS : va_S A H0 H locs) {n : Nat} {g : Nat → Int32} (ha : f a = some (aI G n g)) {i x : Int32} (hin : vp_in i n) (hdg : decode cc pc = .ok (.iastore, 1)) (kk : ∀ (H1 : Heap) (locs1 : List Loc), hH G A (va_up f a (some (aI G n (upd g i.toNatClampNeg x)))) H1 → va_S A H0 H1 locs1 → W p l e R s m args below meth c H1 locs1 cells slots Q (F0 m (pc + 1) ls rest)) : W p l e R s m args below meth c H locs cells slots Q (F0 m pc ls (.int x :: .int i :: .ref a :: rest)) :=
  hp_iast C.1 C.2.1 C.2.2.2.2.2.2.2 hP hS 0 ha rfl hin hdg kk
theorem g_last (C : hC G own (hw :: bw) cc nL ret p s m args meth c) (hP : hH G A f H) (hS : va_S A H0 H locs) {n : Nat} {g : Nat → Int64} (ha : f a = some (aL G n g)) {i : Int32} {x : Int64} (hin : vp_in i n) (hdg : decode cc pc = .ok (.lastore, 1)) (kk : ∀ (H1 : Heap) (locs1 : List Loc), hH G A (va_up f a (some (aL G n (vp_updL g i.toNatClampNeg x)))) H1 → va_S A H0 H1 locs1 → W p l e R s m args below meth c H1 locs1 cells slots Q (F0 m (pc + 1) ls rest)) : W p l e R s m args below meth c H locs cells slots Q (F0 m pc ls (.long x :: .int i :: .ref a :: rest)) :=
  hp_last C.1 C.2.1 C.2.2.2.2.2.2.2 hP hS 1 ha rfl hin hdg kk
theorem g_aast (C : hC G own (hw :: bw) cc nL ret p s m args meth c) (hP : hH G A f H) (hS : va_S A H0 H locs) {n v : Nat} {vs : List Value} {g : Nat → Option Nat} (ha : f a = some (aP G n g)) (hv : f v = some (ob 1 vs)) {i : Int32} (hin : vp_in i n) (hdg : decode cc pc = .ok (.aastore, 1)) (kk : ∀ (H1 : Heap) (locs1 : List Loc), hH G A (va_up f a (some (aP G n (va_up g i.toNatClampNeg (some v))))) H1 → va_S A H0 H1 locs1 → W p l e R s m args below meth c H1 locs1 cells slots Q (F0 m (pc + 1) ls rest)) : W p l e R s m args below meth c H locs cells slots Q (F0 m pc ls (.ref v :: .int i :: .ref a :: rest)) :=
  hp_astq C.1 C.2.1 C.2.2.2.2.2.2.2 hP hS 3 1 (r := (R_P, T_P, 8)) ha rfl hv rfl hin hdg kk
theorem g_alen (C : hC G own (hw :: bw) cc nL ret p s m args meth c) (hP : hH G A f H) (t0 : Nat) {cA : ClassId} {x : vp_A} (ha : f a = some (.inl (cA, x))) {ty : FieldType} (ht : (tyl G)[t0]? = some (cA, ty)) {v : Int32} (hv : Int32.ofNat x.1 = v) (hdg : decode cc pc = .ok (.arraylength, 1)) (kk : W p l e R s m args below meth c H locs cells slots Q (F0 m (pc + 1) ls (.int v :: rest))) : W p l e R s m args below meth c H locs cells slots Q (F0 m pc ls (.ref a :: rest)) :=
  hp_alen C.1 C.2.1 C.2.2.2.2.2.2.2 hP t0 ha ht hv hdg kk
/-- what a call's words come to -/
theorem cx_S (C : hC G own (hw :: bw) cc nL ret p s m args meth c) {index maxL mc ms : Nat} {y : MethodName} {bytes : ByteArray} {rt : Option FieldType} {rm : Room} (n : Nat)
    (h1 : Cond.methodLink own index y ∈ bw) (h2 : Cond.static y ∈ bw) (h3 : Cond.initialized y.cls ∈ bw) (h4 : Cond.code y bytes maxL rt ∈ bw) (hrc : rm.cells = mc) (hrs : rm.slots = ms)
    (hd : y.cls ≠ "java/lang/invoke/MethodHandle" ∧ y.cls ≠ "java/lang/invoke/VarHandle" ∧ (parseMethodDescriptor y.desc).map (fun d => d.parameters.length) = some n) (hR : rm.frames + 1 ≤ R.frames ∧ 8 + (maxL + 11) + rm.locals ≤ R.locals) :
    CallB R s args own index y bytes maxL rt (.code y bytes maxL rt :: bw) rm mc ms n ∧ (Cond.static y).before args s = true :=
  va_cwS n C.2.2.2.2.1 (bw_GoodIn (bw_c h1 (bw_c h2 (bw_c h3 (bw_c h4 bw_s))))) rfl hrc hrs hd hR
theorem cx_V (C : hC G own (hw :: bw) cc nL ret p s m args meth c) {Cn : String} {index maxL mc ms : Nat} {y : MethodName} {bytes : ByteArray} {rt : Option FieldType} {rm : Room} (n : Nat)
    (h1 : Cond.methodLink own index y ∈ bw) (h2 : Cond.instanceMethod y ∈ bw) (h3 : Cond.selects Cn y y ∈ bw) (h5 : Cond.initialized Cn ∈ bw) (h4 : Cond.code y bytes maxL rt ∈ bw) (hrc : rm.cells = mc) (hrs : rm.slots = ms)
    (hd : y.cls = Cn ∧ y.cls ≠ "java/lang/invoke/MethodHandle" ∧ y.cls ≠ "java/lang/invoke/VarHandle" ∧ (parseMethodDescriptor y.desc).map (fun d => d.parameters.length) = some n) (hR : rm.frames + 1 ≤ R.frames ∧ 8 + (maxL + 11) + rm.locals ≤ R.locals) :
    CallW R s args own Cn index y bytes maxL rt (.code y bytes maxL rt :: bw) rm mc ms n :=
  cwV n C.2.2.2.2.1 (bw_GoodIn (bw_c h1 (bw_c h2 (bw_c h3 (bw_c h5 (bw_c h4 bw_s)))))) rfl hrc hrs hd hR
theorem cx_I (C : hC G own (hw :: bw) cc nL ret p s m args meth c) {index maxL mc ms : Nat} {y : MethodName} {bytes : ByteArray} {rm : Room} (n : Nat)
    (h1 : Cond.methodLink own index y ∈ bw) (h2 : Cond.instanceMethod y ∈ bw) (h3 : Cond.initialized y.cls ∈ bw) (h4 : Cond.code y bytes maxL none ∈ bw) (hy1 : y.name = "<init>") (hrc : rm.cells = mc) (hrs : rm.slots = ms)
    (hd : y.cls ≠ "java/lang/invoke/MethodHandle" ∧ y.cls ≠ "java/lang/invoke/VarHandle" ∧ (parseMethodDescriptor y.desc).map (fun d => d.parameters.length) = some n) (hR : rm.frames + 1 ≤ R.frames ∧ 8 + (maxL + 11) + rm.locals ≤ R.locals) :
    CallB R s args own index y bytes maxL none (.code y bytes maxL none :: bw) rm mc ms n ∧ y.name = "<init>" ∧ (Cond.instanceMethod y).before args s = true :=
  cwI n C.2.2.2.2.1 (bw_GoodIn (bw_c h4 bw_s)) rfl hrc hrs (C.w h3) (C.w h1) (C.w h2) hy1 hd hR
theorem cx_blind {av : List Value} {sz : Nat} : FrameBlind (hPc G av f sz) := fun a U g mk q => by
  obtain ⟨q0, q1, qP, qK⟩ := q
  exact ⟨q0, q1, qP, hK.moved (u := U) (U := U.calling g mk a) (Vm.Alike.refl U.vm) qK⟩
theorem cx_pre (C : hC G own (hw :: bw) cc nL ret p s m args meth c) (hP : hH G A f H) {av : List Value} : PreS s H (hPc G av f H.size) av :=
  ⟨cx_blind, fun U hU hW => ⟨rfl, by rw [hU], by rw [hU]; exact hP.weaken (fun _ _ => trivial), hK.moved hW.alike C.2.2.2.2.2.2.2⟩⟩
theorem cx_recv (C : hC G own (hw :: bw) cc nL ret p s m args meth c) (hP : hH G A f H) {b ci : Nat} {fs : List Value} {r : vw_C} (he : f b = some (ob ci fs)) (hc : cls5[ci]? = some r) : ∃ cellB : Cell, H[b]? = some cellB ∧ cellB.vm.isStatics = false ∧ s.vm.findClass r.1 = some cellB.cls := by
  obtain ⟨L, hL, hP, hD⟩ := hP
  obtain ⟨q, hq⟩ := hp_at (D := G.1) (cl := cls5) (A := A) hL he
  exact va_recv C.2.2.2.2.2.2.2 hP (ci := ci) (q0 := q) hc hq
theorem cx_preV (C : hC G own (hw :: bw) cc nL ret p s m args meth c) (hP : hH G A f H) {b ci : Nat} {fs As : List Value} {r : vw_C} (he : f b = some (ob ci fs)) (hc : cls5[ci]? = some r) : PreV s H r.1 b (hPc G (.ref b :: As) f H.size) As :=
  ⟨cx_blind, cx_recv C hP he hc, fun U hU hW => ⟨rfl, by rw [hU], by rw [hU]; exact hP.weaken (fun _ _ => trivial), hK.moved hW.alike C.2.2.2.2.2.2.2⟩⟩
end HR
