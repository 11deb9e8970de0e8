/-! The heap as a map of what is known of it: rows of the kit over such a map. -/
abbrev hm : Type := Nat → Option va_E
def h_v (f : hm) : Nat → va_E := fun a => (f a).getD (.inr (0, []))
def hp_P (D : va_G) (cl : List vw_C) (A : Nat → Prop) (f : hm) (H : Heap) : Prop := ∃ L : List Nat, (∀ a, a ∈ L ↔ (f a).isSome = true) ∧ va_P D cl (va_pl L (h_v f)) H ∧ va_D A (va_pl L (h_v f))
theorem h_v_of {f : hm} {a : Nat} {e : va_E} (h : f a = some e) : h_v f a = e := by simp [h_v, h]
theorem h_v_up {f : hm} {a : Nat} {e : va_E} : va_up (h_v f) a e = h_v (va_up f a (some e)) := by
  funext x
  by_cases h : x = a
  · simp [h_v, va_up, h]
  · simp [h_v, va_up, h]
theorem hp_at {D : va_G} {cl : List vw_C} {A : Nat → Prop} {L : List Nat} {f : hm} {a : Nat} {e : va_E} (hL : ∀ a, a ∈ L ↔ (f a).isSome = true) (he : f a = some e) : ∃ k : Nat, (va_pl L (h_v f))[k]? = some (a, e) := by
  obtain ⟨k, hk⟩ := va_pl_get (X := []) (f := h_v f) ((hL a).mpr (by rw [he]; rfl))
  exact ⟨k, by rw [h_v_of he] at hk; exact hk⟩
theorem hp_set {D : va_G} {cl : List vw_C} {A : Nat → Prop} {L : List Nat} {f : hm} {H1 : Heap} {a k : Nat} {e0 e : va_E} (hL : ∀ a, a ∈ L ↔ (f a).isSome = true) (hD0 : va_D A (va_pl L (h_v f))) (he : f a = some e0) (hk : (va_pl L (h_v f))[k]? = some (a, e0))
    (hP : va_P D cl ((va_pl L (h_v f)).set k (a, e)) H1) (hD : va_D A ((va_pl L (h_v f)).set k (a, e))) : hp_P D cl A (va_up f a (some e)) H1 := by
  have h1 := va_pl_set (X := []) (e := e) hD0 ((hL a).mpr (by rw [he]; rfl)) (by rw [h_v_of he]; exact hk)
  rw [List.nil_append, List.nil_append, h_v_up] at h1
  rw [h1] at hP hD
  refine ⟨L, fun x => ?_, hP, hD⟩
  by_cases hx : x = a
  · subst hx
    simp [va_up, (hL x), he]
  · simp [va_up, hx, hL x]
theorem hp_push {D : va_G} {cl : List vw_C} {A : Nat → Prop} {L : List Nat} {f : hm} {H1 : Heap} {q : Nat} {e : va_E} (hL : ∀ a, a ∈ L ↔ (f a).isSome = true)
    (hP : va_P D cl (va_pl L (h_v f) ++ [(q, e)]) H1) (hD : va_D A (va_pl L (h_v f) ++ [(q, e)])) : f q = none ∧ hp_P D cl A (va_up f q (some e)) H1 := by
  have hq : q ∉ L := by
    intro hm
    obtain ⟨k, hk⟩ := va_pl_get (X := []) (f := h_v f) hm
    rw [List.nil_append] at hk
    have hlt : k < (va_pl L (h_v f)).length := (List.getElem?_eq_some_iff.mp hk).1
    have h1 : (va_pl L (h_v f) ++ [(q, e)])[k]? = some (q, h_v f q) := by rw [List.getElem?_append_left hlt]; exact hk
    have h2 : (va_pl L (h_v f) ++ [(q, e)])[(va_pl L (h_v f)).length]? = some (q, e) := by simp
    have := hD.1 _ _ _ _ h1 h2 rfl
    omega
  refine ⟨?_, L ++ [q], fun x => ?_, ?_, ?_⟩
  · have : ¬ (f q).isSome = true := fun h => hq ((hL q).mpr h)
    simpa using this
  · by_cases hx : x = q
    · subst hx; simp [va_up]
    · simp [va_up, hx, hL x]
  · rw [va_pl_push hq, h_v_up] at hP; exact hP
  · rw [va_pl_push hq, h_v_up] at hD; exact hD
section HA
variable {p : Program} {l : Launch} {e : Env} {R : Room} {s : State} {m : MethodId} {args : Array Value} {below : List Frame} {meth : Method} {c : Code} {H H0 : Heap} {locs : List Loc} {cells slots : Nat} {Q : State → Prop}
variable {D : va_G} {cl : List vw_C} {tys : List (ClassId × FieldType)} {A : Nat → Prop} {f : hm} {cc : ByteArray} {pc a : Nat} {ls : Array Slot} {rest : List Value}
theorem hp_get (hexec : p.tables.exec = Jvm.exec) (hb : c.code = cc) {own ref C : String} {T : u_T} {N ci index : Nat} {Ts : List Cond} (hts : ∀ w ∈ Ts, w.before args s = true) (hin : ∀ w ∈ u_ws C T N, w ∈ Ts) (hown : s.vm.findClass own = some m.cls) (hK : va_K D cl tys s) (hP : hp_P D cl A f H) {fs : List Value} (he : f a = some (.inr (ci, fs))) (hc : cl[ci]? = some (C, T, N)) (k : Nat) (hk : k < N) (hlink : (Cond.fieldLink own index ref (T k).2.1 (T k).2.2.1).before args s = true) (hsame : ∀ x, s.fieldFound? (T k).1 (T k).2.1 (T k).2.2.1 = some x → s.fieldFound? ref (T k).2.1 (T k).2.2.1 = some x) {v : Value} (hv : fs[k]? = some v) (hdg : decode cc pc = .ok (.getfield index, 3)) (kk : W p l e R s m args below meth c H locs cells slots Q (F0 m (pc + 3) ls (v :: rest))) : W p l e R s m args below meth c H locs cells slots Q (F0 m pc ls (.ref a :: rest)) := by
  obtain ⟨L, hL, hP, hD⟩ := hP
  obtain ⟨q, hq⟩ := hp_at (D := D) (cl := cl) (A := A) hL he
  exact va_get hexec hb hts hin hown hK hP q hq hc k hk hlink hsame hv hdg kk
theorem hp_put (hexec : p.tables.exec = Jvm.exec) (hb : c.code = cc) {own ref C : String} {T : u_T} {N ci index : Nat} {Ts : List Cond} (hts : ∀ w ∈ Ts, w.before args s = true) (hin : ∀ w ∈ u_ws C T N, w ∈ Ts) (ty0 : Nat → FieldType) (hty : ∀ k, k < N → parseFieldDescriptor (T k).2.2.1 = some (ty0 k)) (hnm : ∀ a, a < N → ∀ b, b < N → a ≠ b → (T a).2.1 ≠ (T b).2.1) (hown : s.vm.findClass own = some m.cls) (hK : va_K D cl tys s) (hP : hp_P D cl A f H) (hS0 : va_S A H0 H locs) {fs : List Value} (he : f a = some (.inr (ci, fs))) (hc : cl[ci]? = some (C, T, N)) (k : Nat) (hk : k < N) (hlink : (Cond.fieldLink own index ref (T k).2.1 (T k).2.2.1).before args s = true) (hsame : ∀ x, s.fieldFound? (T k).1 (T k).2.1 (T k).2.2.1 = some x → s.fieldFound? ref (T k).2.1 (T k).2.2.1 = some x) (hfin : (T k).2.2.2 = false) {ty : FieldType} {v : Value} (hd : parseFieldDescriptor (T k).2.2.1 = some ty) (hn : narrow ty v = v) (hfit : fits ty v = true) (hl : k < fs.length) (hdg : decode cc pc = .ok (.putfield index, 3)) (kk : ∀ (H1 : Heap) (locs1 : List Loc), hp_P D cl A (va_up f a (some (.inr (ci, fs.set k v)))) H1 → va_S A H0 H1 locs1 → W p l e R s m args below meth c H1 locs1 cells slots Q (F0 m (pc + 3) ls rest)) : W p l e R s m args below meth c H locs cells slots Q (F0 m pc ls (v :: .ref a :: rest)) := by
  obtain ⟨L, hL, hP, hD⟩ := hP
  obtain ⟨q, hq⟩ := hp_at (D := D) (cl := cl) (A := A) hL he
  exact va_put hexec hb hts hin ty0 hty hnm hown hK hP hD hS0 q hq hc k hk hlink hsame hfin hd hn hfit hl hdg (fun H1 locs1 hP1 hD1 hS1 => kk H1 locs1 (hp_set hL hD he hq hP1 hD1) hS1)
theorem hp_iald (hexec : p.tables.exec = Jvm.exec) (hb : c.code = cc) (hK : va_K D cl tys s) (hP : hp_P D cl A f H) (t0 : Nat) {cA : ClassId} {n : Nat} {g : Nat → Int32} (ha : f a = some (.inl (cA, n, .inl g))) (ht : tys[t0]? = some (cA, .int)) {i : Int32} (hin : vp_in i n) (hdg : decode cc pc = .ok (.iaload, 1)) (kk : W p l e R s m args below meth c H locs cells slots Q (F0 m (pc + 1) ls (.int (g i.toNatClampNeg) :: rest))) : W p l e R s m args below meth c H locs cells slots Q (F0 m pc ls (.int i :: .ref a :: rest)) := by
  obtain ⟨L, hL, hP, hD⟩ := hP
  obtain ⟨q, hq⟩ := hp_at (D := D) (cl := cl) (A := A) hL ha
  exact va_iald hexec hb hK hP q t0 hq ht hin hdg kk
theorem hp_lald (hexec : p.tables.exec = Jvm.exec) (hb : c.code = cc) (hK : va_K D cl tys s) (hP : hp_P D cl A f H) (t0 : Nat) {cA : ClassId} {n : Nat} {g : Nat → Int64} (ha : f a = some (.inl (cA, n, .inr (.inl g)))) (ht : tys[t0]? = some (cA, .long)) {i : Int32} (hin : vp_in i n) (hdg : decode cc pc = .ok (.laload, 1)) (kk : W p l e R s m args below meth c H locs cells slots Q (F0 m (pc + 1) ls (.long (g i.toNatClampNeg) :: rest))) : W p l e R s m args below meth c H locs cells slots Q (F0 m pc ls (.int i :: .ref a :: rest)) := by
  obtain ⟨L, hL, hP, hD⟩ := hP
  obtain ⟨q, hq⟩ := hp_at (D := D) (cl := cl) (A := A) hL ha
  exact va_lald hexec hb hK hP q t0 hq ht hin hdg kk
theorem hp_aldq (hexec : p.tables.exec = Jvm.exec) (hb : c.code = cc) (hK : va_K D cl tys s) (hP : hp_P D cl A f H) (t0 : Nat) {cA : ClassId} {C : String} {n : Nat} {g : Nat → Option Nat} (ha : f a = some (.inl (cA, n, .inr (.inr (.inr (.inr g)))))) (ht : tys[t0]? = some (cA, .object C)) {i : Int32} (hin : vp_in i n) (hdg : decode cc pc = .ok (.aaload, 1)) (kk : W p l e R s m args below meth c H locs cells slots Q (F0 m (pc + 1) ls (va_rf (g i.toNatClampNeg) :: rest))) : W p l e R s m args below meth c H locs cells slots Q (F0 m pc ls (.int i :: .ref a :: rest)) := by
  obtain ⟨L, hL, hP, hD⟩ := hP
  obtain ⟨q, hq⟩ := hp_at (D := D) (cl := cl) (A := A) hL ha
  exact va_aldq hexec hb hK hP q t0 hq ht hin hdg kk
theorem hp_iast (hexec : p.tables.exec = Jvm.exec) (hb : c.code = cc) (hK : va_K D cl tys s) (hP : hp_P D cl A f H) (hS : va_S A H0 H locs) (t0 : Nat) {cA : ClassId} {n : Nat} {g : Nat → Int32} (ha : f a = some (.inl (cA, n, .inl g))) (ht : tys[t0]? = some (cA, .int)) {i x : Int32} (hin : vp_in i n) (hdg : decode cc pc = .ok (.iastore, 1)) (kk : ∀ (H1 : Heap) (locs1 : List Loc), hp_P D cl A (va_up f a (some (.inl (cA, n, .inl (upd g i.toNatClampNeg x))))) H1 → va_S A H0 H1 locs1 → W p l e R s m args below meth c H1 locs1 cells slots Q (F0 m (pc + 1) ls rest)) : W p l e R s m args below meth c H locs cells slots Q (F0 m pc ls (.int x :: .int i :: .ref a :: rest)) := by
  obtain ⟨L, hL, hP, hD⟩ := hP
  obtain ⟨q, hq⟩ := hp_at (D := D) (cl := cl) (A := A) hL ha
  exact va_iast hexec hb hK hP hD hS q t0 hq ht hin hdg (fun H1 locs1 hP1 hD1 hS1 => kk H1 locs1 (hp_set hL hD ha hq hP1 hD1) hS1)
theorem hp_last (hexec : p.tables.exec = Jvm.exec) (hb : c.code = cc) (hK : va_K D cl tys s) (hP : hp_P D cl A f H) (hS : va_S A H0 H locs) (t0 : Nat) {cA : ClassId} {n : Nat} {g : Nat → Int64} (ha : f a = some (.inl (cA, n, .inr (.inl g)))) (ht : tys[t0]? = some (cA, .long)) {i : Int32} {x : Int64} (hin : vp_in i n) (hdg : decode cc pc = .ok (.lastore, 1)) (kk : ∀ (H1 : Heap) (locs1 : List Loc), hp_P D cl A (va_up f a (some (.inl (cA, n, .inr (.inl (vp_updL g i.toNatClampNeg x)))))) H1 → va_S A H0 H1 locs1 → W p l e R s m args below meth c H1 locs1 cells slots Q (F0 m (pc + 1) ls rest)) : W p l e R s m args below meth c H locs cells slots Q (F0 m pc ls (.long x :: .int i :: .ref a :: rest)) := by
  obtain ⟨L, hL, hP, hD⟩ := hP
  obtain ⟨q, hq⟩ := hp_at (D := D) (cl := cl) (A := A) hL ha
  exact va_last hexec hb hK hP hD hS q t0 hq ht hin hdg (fun H1 locs1 hP1 hD1 hS1 => kk H1 locs1 (hp_set hL hD ha hq hP1 hD1) hS1)
theorem hp_astq (hexec : p.tables.exec = Jvm.exec) (hb : c.code = cc) (hK : va_K D cl tys s) (hP : hp_P D cl A f H) (hS : va_S A H0 H locs) (t0 ci : Nat) {cA : ClassId} {r : vw_C} {n v : Nat} {vs : List Value} {g : Nat → Option Nat} (ha : f a = some (.inl (cA, n, .inr (.inr (.inr (.inr g)))))) (ht : tys[t0]? = some (cA, .object r.1)) (hv : f v = some (.inr (ci, vs))) (hc : cl[ci]? = some r) {i : Int32} (hin : vp_in i n) (hdg : decode cc pc = .ok (.aastore, 1)) (kk : ∀ (H1 : Heap) (locs1 : List Loc), hp_P D cl A (va_up f a (some (.inl (cA, n, .inr (.inr (.inr (.inr (va_up g i.toNatClampNeg (some v))))))))) H1 → va_S A H0 H1 locs1 → W p l e R s m args below meth c H1 locs1 cells slots Q (F0 m (pc + 1) ls rest)) : W p l e R s m args below meth c H locs cells slots Q (F0 m pc ls (.ref v :: .int i :: .ref a :: rest)) := by
  obtain ⟨L, hL, hP, hD⟩ := hP
  obtain ⟨q, hq⟩ := hp_at (D := D) (cl := cl) (A := A) hL ha
  obtain ⟨q2, hq2⟩ := hp_at (D := D) (cl := cl) (A := A) hL hv
  exact va_astq hexec hb hK hP hD hS q t0 q2 ci hq ht hq2 hc hin hdg (fun H1 locs1 hP1 hD1 hS1 => kk H1 locs1 (hp_set hL hD ha hq hP1 hD1) hS1)
theorem hp_alen (hexec : p.tables.exec = Jvm.exec) (hb : c.code = cc) (hK : va_K D cl tys s) (hP : hp_P D cl A f H) (t0 : Nat) {cA : ClassId} {x : vp_A} (ha : f a = some (.inl (cA, x))) {ty : FieldType} (ht : tys[t0]? = some (cA, ty)) {v : Int32} (hv : Int32.ofNat x.1 = v) (hdg : decode cc pc = .ok (.arraylength, 1)) (kk : W p l e R s m args below meth c H locs cells slots Q (F0 m (pc + 1) ls (.int v :: rest))) : W p l e R s m args below meth c H locs cells slots Q (F0 m pc ls (.ref a :: rest)) := by
  obtain ⟨L, hL, hP, hD⟩ := hP
  obtain ⟨q, hq⟩ := hp_at (D := D) (cl := cl) (A := A) hL ha
  exact va_alen hexec hb hK hP q t0 hq ht hv hdg kk
end HA
