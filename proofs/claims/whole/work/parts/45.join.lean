/-! Two maps side by side; calls over one of them; methods with handlers. -/
theorem hp_iff {D : va_G} {cl : List vw_C} {A : Nat → Prop} {f : hm} {H : Heap} : hp_P D cl A f H ↔ (∃ L : List Nat, L.Nodup ∧ ∀ a, a ∈ L ↔ (f a).isSome = true) ∧ ∀ a e, f a = some e → va_at D cl (a, e) H ∧ A a := by
  constructor
  · rintro ⟨L, hL, hP, hD⟩
    refine ⟨⟨L, ?_, hL⟩, fun a e he => ?_⟩
    · refine List.pairwise_iff_getElem.mpr (fun i j hi hj hij z => ?_)
      have h1 : (va_pl L (h_v f))[i]? = some (L[i], h_v f L[i]) := by simp [va_pl, hi]
      have h2 : (va_pl L (h_v f))[j]? = some (L[j], h_v f L[j]) := by simp [va_pl, hj]
      have := hD.1 i j _ _ h1 h2 z
      omega
    · obtain ⟨k, hk⟩ := hp_at (D := D) (cl := cl) (A := A) hL he
      exact ⟨hP k _ hk, hD.2 k _ hk⟩
  · rintro ⟨⟨L, hn, hL⟩, hpt⟩
    have key : ∀ (k : Nat) (q : Nat × va_E), (va_pl L (h_v f))[k]? = some q → k < L.length ∧ L.getD k 0 = q.1 ∧ f q.1 = some q.2 := by
      intro k q hq
      have hk : k < L.length := by
        have := (List.getElem?_eq_some_iff.mp hq).1
        simpa [va_pl] using this
      have h1 : (va_pl L (h_v f))[k]? = some (L[k], h_v f L[k]) := by simp [va_pl, hk]
      have h2 : (L[k], h_v f L[k]) = q := Option.some.inj (h1.symm.trans hq)
      have h3 : (f L[k]).isSome = true := (hL _).mp (List.getElem_mem hk)
      obtain ⟨e, he⟩ := Option.isSome_iff_exists.mp h3
      refine ⟨hk, ?_, ?_⟩
      · rw [← h2, List.getD_eq_getElem?_getD, List.getElem?_eq_getElem hk]; rfl
      · rw [← h2]; show f L[k] = some (h_v f L[k]); rw [h_v_of he]; exact he
    refine ⟨L, hL, fun k q hq => (hpt q.1 q.2 (key k q hq).2.2).1, fun i j p q hi hj e => ?_, fun k q hq => (hpt q.1 q.2 (key k q hq).2.2).2⟩
    exact nd_inj L hn i j (key i p hi).1 (key j q hj).1 (((key i p hi).2.1.trans e).trans (key j q hj).2.1.symm)
def hj (f r : hm) : hm := fun q => match f q with
  | some e => some e
  | none => r q
def dj (f r : hm) : Prop := ∀ q, f q = none ∨ r q = none
def hc1 (o : Nat) (e : va_E) : hm := fun q => if q = o then some e else none
theorem hc1_s {o : Nat} {e : va_E} : hc1 o e o = some e := if_pos rfl
theorem hc1_n {o q : Nat} {e : va_E} (h : q ≠ o) : hc1 o e q = none := if_neg h
theorem hc1_up {o : Nat} {e e1 : va_E} : va_up (hc1 o e) o (some e1) = hc1 o e1 := by
  funext q
  by_cases h : q = o
  · rw [h, va_up_self, hc1_s]
  · rw [va_up_ne _ _ h, hc1_n h, hc1_n h]
theorem hj_l {f r : hm} {q : Nat} {e : va_E} (h : f q = some e) : hj f r q = some e := by simp [hj, h]
theorem hj_r {f r : hm} {q : Nat} (h : f q = none) : hj f r q = r q := by simp [hj, h]
theorem hj_upr {f r : hm} {a : Nat} {e : va_E} (h : f a = none) : va_up (hj f r) a (some e) = hj f (va_up r a (some e)) := by
  funext q
  by_cases hq : q = a
  · rw [hq, va_up_self, hj_r h, va_up_self]
  · rw [va_up_ne _ _ hq]
    cases hf : f q with
    | none => rw [hj_r hf, hj_r hf, va_up_ne _ _ hq]
    | some e9 => rw [hj_l hf, hj_l hf]
theorem hj_comm {f r : hm} (h : dj f r) : hj f r = hj r f := by
  funext q
  rcases h q with z | z
  · rw [hj_r z]
    cases hf : r q with
    | none => rw [hj_r hf, z]
    | some e9 => rw [hj_l hf]
  · rw [hj_r (f := r) z]
    cases hf : f q with
    | none => rw [hj_r hf, z]
    | some e9 => rw [hj_l hf]
theorem hj_assoc {f g r : hm} : hj (hj f g) r = hj f (hj g r) := by
  funext q
  cases hf : f q with
  | none =>
    rw [hj_r hf]
    cases hg : g q with
    | none => rw [hj_r hg, hj_r (f := hj f g) (by rw [hj_r hf]; exact hg)]
    | some e9 => rw [hj_l hg]; exact hj_l (by rw [hj_r hf]; exact hg)
  | some e9 => rw [hj_l hf]; exact hj_l (hj_l hf)
theorem dj.symm {f r : hm} (h : dj f r) : dj r f := fun q => (h q).elim Or.inr Or.inl
theorem dj_1 {f : hm} {o : Nat} {e : va_E} (h : f o = none) : dj f (hc1 o e) := fun q => by
  by_cases hq : q = o
  · exact Or.inl (by rw [hq]; exact h)
  · exact Or.inr (hc1_n hq)
theorem dj_1n {f : hm} {o : Nat} {e : va_E} (h : dj f (hc1 o e)) : f o = none := (h o).elim id (fun z => by rw [hc1_s] at z; cases z)
theorem dj_jl {f g r : hm} (h1 : dj f r) (h2 : dj g r) : dj (hj f g) r := fun q => by
  rcases h1 q with z | z
  · rw [hj_r z]; exact h2 q
  · exact Or.inr z
theorem dj_l {f g r : hm} (h : dj (hj f g) r) : dj f r := fun q => by
  rcases h q with z | z
  · refine Or.inl ?_
    cases hf : f q with
    | none => rfl
    | some e9 => rw [hj_l hf] at z; cases z
  · exact Or.inr z
theorem dj_r {f g r : hm} (hd : dj f g) (h : dj (hj f g) r) : dj g r := by rw [hj_comm hd] at h; exact dj_l h
theorem hH.left {G : hG} {A : Nat → Prop} {f r : hm} {H : Heap} (h : hH G A (hj f r) H) : hH G A f H := by
  obtain ⟨⟨L, hn, hL⟩, hp⟩ := hp_iff.mp h
  refine hp_iff.mpr ⟨⟨L.filter (fun a => (f a).isSome), hn.filter _, fun a => ?_⟩, fun a e he => hp a e (hj_l he)⟩
  rw [List.mem_filter]
  refine ⟨fun z => z.2, fun z => ⟨(hL a).mpr ?_, z⟩⟩
  obtain ⟨e, he⟩ := Option.isSome_iff_exists.mp z
  rw [hj_l he]; rfl
theorem hH.right {G : hG} {A : Nat → Prop} {f r : hm} {H : Heap} (h : hH G A (hj f r) H) (hd : dj f r) : hH G A r H := by
  rw [hj_comm hd] at h; exact h.left
theorem hH.join {G : hG} {A : Nat → Prop} {f r : hm} {H : Heap} (h : hH G A f H) (h2 : hH G A r H) (hd : dj f r) : hH G A (hj f r) H := by
  obtain ⟨⟨L, hn, hL⟩, hp⟩ := hp_iff.mp h
  obtain ⟨⟨L2, hn2, hL2⟩, hp2⟩ := hp_iff.mp h2
  refine hp_iff.mpr ⟨⟨L ++ L2, List.nodup_append.mpr ⟨hn, hn2, fun a ha b hb z => ?_⟩, fun a => ?_⟩, fun a e he => ?_⟩
  · have z1 := (hL a).mp ha
    have z2 := (hL2 b).mp hb
    rw [← z] at z2
    rcases hd a with q | q
    · rw [q] at z1; cases z1
    · rw [q] at z2; cases z2
  · rw [List.mem_append, hL, hL2]
    cases hf : f a with
    | none => rw [hj_r hf]; simp
    | some e9 => rw [hj_l hf]; simp
  · cases hf : f a with
    | none => exact hp2 a e (by rw [hj_r hf] at he; exact he)
    | some e9 => exact hp a e (by rw [hj_l hf] at he; rw [hf]; exact he)
theorem hH.kept {G : hG} {A : Nat → Prop} {f : hm} {H H1 : Heap} (h : hH G A f H) (hq : ∀ a, (f a).isSome = true → H1[a]? = H[a]?) : hH G A f H1 := by
  obtain ⟨h0, hp⟩ := hp_iff.mp h
  exact hp_iff.mpr ⟨h0, fun a e he => ⟨va_at.kept (hp a e he).1 (hq a (by rw [he]; rfl)), (hp a e he).2⟩⟩
theorem hj_step {G : hG} {A : Nat → Prop} {f f1 r : hm} {H H1 : Heap} (hP : hH G A (hj f r) H) (hd : dj f r) (hQ : hH G (hA f H.size) f1 H1) (hk : ∀ q, q < H.size → ¬ hA f H.size q → H1[q]? = H[q]?) (hs : ∀ q, hA f H.size q → A q) : hH G A (hj f1 r) H1 ∧ dj f1 r := by
  have hr := hP.right hd
  have hno : ∀ q, (r q).isSome = true → ¬ hA f H.size q := fun q hq z => by
    rcases z with z | z
    · rcases hd q with y | y
      · rw [y] at z; cases z
      · rw [y] at hq; cases hq
    · have := hr.lt hq; omega
  have hd1 : dj f1 r := fun q => by
    cases hf : f1 q with
    | none => exact Or.inl rfl
    | some e9 =>
      refine Or.inr ?_
      cases hq : r q with
      | none => rfl
      | some e8 => exact absurd (hQ.dom (by rw [hf]; rfl)) (hno q (by rw [hq]; rfl))
  exact ⟨(hQ.weaken hs).join (hr.kept (fun q hq => hk q (hr.lt hq) (hno q hq))) hd1, hd1⟩
section JC
variable {G : hG} {own : String} {hw : Cond} {cc : ByteArray} {nL : Nat} {ret : Option FieldType} {p : Program} {l : Launch} {e : Env} {R : Room} {s : State} {m : MethodId} {args : Array Value} {below : List Frame} {meth : Method} {c : Code} {H H0 : Heap} {locs : List Loc} {cells slots : Nat} {Q : State → Prop}
variable {A : Nat → Prop} {f r : hm} {pc a : Nat} {ls : Array Slot} {rest st0 : List Value} {av : Array Value} {mc ms : Nat} {Es : String → Prop}
theorem j_calli {post : Int32 → hm → Prop} (hr : va_Run p l e R s m args below meth c H locs cells slots mc ms (F0 m pc ls st0) rest (va_Qi post (hB G (hA f H.size)) (hA f H.size) av) (hA f H.size)) (hd : dj f r) (hP : hH G A (hj f r) H) (hS : va_S A H0 H locs) (hA0 : ∀ q, H0.size ≤ q → A q)
    (kk : ∀ (r1 : Int32) (f1 : hm) (H1 : Heap) (locs1 : List Loc), post r1 f1 → dj f1 r → hH G A (hj f1 r) H1 → va_S A H0 H1 locs1 → W p l e R s m args below meth c H1 locs1 (cells + mc) (slots + ms) Q (F0 m (pc + 3) ls (.int r1 :: rest))) : W p l e R s m args below meth c H locs cells slots Q (F0 m pc ls st0) :=
  va_calli hr hS (fun q _ h => hP.left.sub hS hA0 q h) (hP.left.sub hS hA0) (fun r1 u t H1 locs1 ht _ hw hB _ hk hS1 => kk r1 u H1 locs1 hw (hj_step hP hd (by rw [← ht]; exact hB.1) hk (hP.left.sub hS hA0)).2 (hj_step hP hd (by rw [← ht]; exact hB.1) hk (hP.left.sub hS hA0)).1 hS1)
theorem jx_calli {post : Int32 → hm → Prop} (hr : vx_Run p l e R s m args below meth c H locs cells slots mc ms (F0 m pc ls st0) rest (va_Qi post (hB G (hA f H.size)) (hA f H.size) av) (xX G f H.size Es) (hA f H.size)) (hd : dj f r) (hP : hH G A (hj f r) H) (hS : va_S A H0 H locs) (hA0 : ∀ q, H0.size ≤ q → A q)
    (kx : ∀ (E : String) (ce : Cell) (q9 : Addr) (H1 : Heap) (locs1 : List Loc), Es E → hH G A (hj f r) H1 → va_S A H0 H1 locs1 → H1[q9]? = some ce → ce.vm = .none → s.vm.findClass E = some ce.cls → vx_W p l e R s m args below meth c H1 locs1 (cells + mc) (slots + ms) Q (F0 m pc ls rest) q9)
    (kk : ∀ (r1 : Int32) (f1 : hm) (H1 : Heap) (locs1 : List Loc), post r1 f1 → dj f1 r → hH G A (hj f1 r) H1 → va_S A H0 H1 locs1 → W p l e R s m args below meth c H1 locs1 (cells + mc) (slots + ms) Q (F0 m (pc + 3) ls (.int r1 :: rest))) : W p l e R s m args below meth c H locs cells slots Q (F0 m pc ls st0) :=
  vx_calli hr hS (fun q _ h => hP.left.sub hS hA0 q h) (hP.left.sub hS hA0) (fun q _ h => hP.left.sub hS hA0 q h) (fun E ce q9 u t H1 locs1 ht _ _ hB _ hk hS1 h1 h2 h3 => kx E ce q9 H1 locs1 hB.1 (hj_step hP hd (by rw [← ht]; exact hB.2.1) hk (hP.left.sub hS hA0)).1 hS1 h1 h2 h3) (fun r1 u t H1 locs1 ht _ hw hB _ hk hS1 => kk r1 u H1 locs1 hw (hj_step hP hd (by rw [← ht]; exact hB.1) hk (hP.left.sub hS hA0)).2 (hj_step hP hd (by rw [← ht]; exact hB.1) hk (hP.left.sub hS hA0)).1 hS1)
theorem j_calll {post : Int64 → hm → Prop} (hr : va_Run p l e R s m args below meth c H locs cells slots mc ms (F0 m pc ls st0) rest (va_Ql post (hB G (hA f H.size)) (hA f H.size) av) (hA f H.size)) (hd : dj f r) (hP : hH G A (hj f r) H) (hS : va_S A H0 H locs) (hA0 : ∀ q, H0.size ≤ q → A q)
    (kk : ∀ (r1 : Int64) (f1 : hm) (H1 : Heap) (locs1 : List Loc), post r1 f1 → dj f1 r → hH G A (hj f1 r) H1 → va_S A H0 H1 locs1 → W p l e R s m args below meth c H1 locs1 (cells + mc) (slots + ms) Q (F0 m (pc + 3) ls (.long r1 :: rest))) : W p l e R s m args below meth c H locs cells slots Q (F0 m pc ls st0) :=
  va_calll hr hS (fun q _ h => hP.left.sub hS hA0 q h) (hP.left.sub hS hA0) (fun r1 u t H1 locs1 ht _ hw hB _ hk hS1 => kk r1 u H1 locs1 hw (hj_step hP hd (by rw [← ht]; exact hB.1) hk (hP.left.sub hS hA0)).2 (hj_step hP hd (by rw [← ht]; exact hB.1) hk (hP.left.sub hS hA0)).1 hS1)
theorem jx_calll {post : Int64 → hm → Prop} (hr : vx_Run p l e R s m args below meth c H locs cells slots mc ms (F0 m pc ls st0) rest (va_Ql post (hB G (hA f H.size)) (hA f H.size) av) (xX G f H.size Es) (hA f H.size)) (hd : dj f r) (hP : hH G A (hj f r) H) (hS : va_S A H0 H locs) (hA0 : ∀ q, H0.size ≤ q → A q)
    (kx : ∀ (E : String) (ce : Cell) (q9 : Addr) (H1 : Heap) (locs1 : List Loc), Es E → hH G A (hj f r) H1 → va_S A H0 H1 locs1 → H1[q9]? = some ce → ce.vm = .none → s.vm.findClass E = some ce.cls → vx_W p l e R s m args below meth c H1 locs1 (cells + mc) (slots + ms) Q (F0 m pc ls rest) q9)
    (kk : ∀ (r1 : Int64) (f1 : hm) (H1 : Heap) (locs1 : List Loc), post r1 f1 → dj f1 r → hH G A (hj f1 r) H1 → va_S A H0 H1 locs1 → W p l e R s m args below meth c H1 locs1 (cells + mc) (slots + ms) Q (F0 m (pc + 3) ls (.long r1 :: rest))) : W p l e R s m args below meth c H locs cells slots Q (F0 m pc ls st0) :=
  vx_calll hr hS (fun q _ h => hP.left.sub hS hA0 q h) (hP.left.sub hS hA0) (fun q _ h => hP.left.sub hS hA0 q h) (fun E ce q9 u t H1 locs1 ht _ _ hB _ hk hS1 h1 h2 h3 => kx E ce q9 H1 locs1 hB.1 (hj_step hP hd (by rw [← ht]; exact hB.2.1) hk (hP.left.sub hS hA0)).1 hS1 h1 h2 h3) (fun r1 u t H1 locs1 ht _ hw hB _ hk hS1 => kk r1 u H1 locs1 hw (hj_step hP hd (by rw [← ht]; exact hB.1) hk (hP.left.sub hS hA0)).2 (hj_step hP hd (by rw [← ht]; exact hB.1) hk (hP.left.sub hS hA0)).1 hS1)
theorem j_callv {post : hm → Prop} (hr : va_Run p l e R s m args below meth c H locs cells slots mc ms (F0 m pc ls st0) rest (va_Qv post (hB G (hA f H.size)) (hA f H.size) av) (hA f H.size)) (hd : dj f r) (hP : hH G A (hj f r) H) (hS : va_S A H0 H locs) (hA0 : ∀ q, H0.size ≤ q → A q)
    (kk : ∀ (f1 : hm) (H1 : Heap) (locs1 : List Loc), post f1 → dj f1 r → hH G A (hj f1 r) H1 → va_S A H0 H1 locs1 → W p l e R s m args below meth c H1 locs1 (cells + mc) (slots + ms) Q (F0 m (pc + 3) ls rest)) : W p l e R s m args below meth c H locs cells slots Q (F0 m pc ls st0) :=
  va_callv hr hS (fun q _ h => hP.left.sub hS hA0 q h) (hP.left.sub hS hA0) (fun u t H1 locs1 ht _ hw hB _ hk hS1 => kk u H1 locs1 hw (hj_step hP hd (by rw [← ht]; exact hB.1) hk (hP.left.sub hS hA0)).2 (hj_step hP hd (by rw [← ht]; exact hB.1) hk (hP.left.sub hS hA0)).1 hS1)
theorem jx_callv {post : hm → Prop} (hr : vx_Run p l e R s m args below meth c H locs cells slots mc ms (F0 m pc ls st0) rest (va_Qv post (hB G (hA f H.size)) (hA f H.size) av) (xX G f H.size Es) (hA f H.size)) (hd : dj f r) (hP : hH G A (hj f r) H) (hS : va_S A H0 H locs) (hA0 : ∀ q, H0.size ≤ q → A q)
    (kx : ∀ (E : String) (ce : Cell) (q9 : Addr) (H1 : Heap) (locs1 : List Loc), Es E → hH G A (hj f r) H1 → va_S A H0 H1 locs1 → H1[q9]? = some ce → ce.vm = .none → s.vm.findClass E = some ce.cls → vx_W p l e R s m args below meth c H1 locs1 (cells + mc) (slots + ms) Q (F0 m pc ls rest) q9)
    (kk : ∀ (f1 : hm) (H1 : Heap) (locs1 : List Loc), post f1 → dj f1 r → hH G A (hj f1 r) H1 → va_S A H0 H1 locs1 → W p l e R s m args below meth c H1 locs1 (cells + mc) (slots + ms) Q (F0 m (pc + 3) ls rest)) : W p l e R s m args below meth c H locs cells slots Q (F0 m pc ls st0) :=
  vx_callv hr hS (fun q _ h => hP.left.sub hS hA0 q h) (hP.left.sub hS hA0) (fun q _ h => hP.left.sub hS hA0 q h) (fun E ce q9 u t H1 locs1 ht _ _ hB _ hk hS1 h1 h2 h3 => kx E ce q9 H1 locs1 hB.1 (hj_step hP hd (by rw [← ht]; exact hB.2.1) hk (hP.left.sub hS hA0)).1 hS1 h1 h2 h3) (fun u t H1 locs1 ht _ hw hB _ hk hS1 => kk u H1 locs1 hw (hj_step hP hd (by rw [← ht]; exact hB.1) hk (hP.left.sub hS hA0)).2 (hj_step hP hd (by rw [← ht]; exact hB.1) hk (hP.left.sub hS hA0)).1 hS1)
/-- caught by the first row of the table -/
theorem l_catch1 {a1 b1 h9 k1 : Nat} {hh : List (Nat × Nat × Nat × Nat)} {E : String} {ce : Cell} {q : Addr} (C : hC G own (hw :: bw) cc nL ret p s m args meth c) (hex : c.exceptionTable.toList = tableOf ((a1, b1, h9, k1) :: hh)) (hcov : covers ⟨a1, b1, h9, k1⟩ pc = true) (h0 : k1 ≠ 0) (hl : Cond.classLink own k1 E ∈ bw) (hcast : va_Nw (.castable E E) s) (hcell : H[q]? = some ce) (hv : ce.vm = .none) (hcl : s.vm.findClass E = some ce.cls)
    (kk : W p l e R s m args below meth c H locs cells slots Q (F0 m h9 ls [.ref q])) : vx_W p l e R s m args below meth c H locs cells slots Q (F0 m pc ls rest) q :=
  vx_catch (name := E) C.2.2.2.1 [] ⟨a1, b1, h9, k1⟩ (tableOf hh) hex (fun z hz => by cases hz) hcov h0 (C.w hl) (va_Nw.use rfl hcast) hcell hv hcl kk
/-- caught by the second row of the table -/
theorem l_catch2 {a1 b1 h9 k1 a2 b2 h8 k2 : Nat} {hh : List (Nat × Nat × Nat × Nat)} {E nm : String} {ce : Cell} {q : Addr} (C : hC G own (hw :: bw) cc nL ret p s m args meth c) (hex : c.exceptionTable.toList = tableOf ((a1, b1, h9, k1) :: (a2, b2, h8, k2) :: hh)) (hk1 : k1 ≠ 0) (hl1 : Cond.classLink own k1 nm ∈ bw) (hno : va_Nc E nm s) (hcov : covers ⟨a2, b2, h8, k2⟩ pc = true) (h0 : k2 ≠ 0) (hl : Cond.classLink own k2 E ∈ bw) (hcast : va_Nw (.castable E E) s) (hcell : H[q]? = some ce) (hv : ce.vm = .none) (hcl : s.vm.findClass E = some ce.cls)
    (kk : W p l e R s m args below meth c H locs cells slots Q (F0 m h8 ls [.ref q])) : vx_W p l e R s m args below meth c H locs cells slots Q (F0 m pc ls rest) q :=
  vx_catch (name := E) C.2.2.2.1 [⟨a1, b1, h9, k1⟩] ⟨a2, b2, h8, k2⟩ (tableOf hh) hex (fun z hz => by cases List.mem_singleton.mp hz; exact Or.inr ⟨hk1, nm, C.w hl1, hno⟩) hcov h0 (C.w hl) (va_Nw.use rfl hcast) hcell hv hcl kk
end JC
/-- the law's wrappers: what they need of the start -/
abbrev lPc (G : hG) (sa : xS) (av : List Value) (f : hm) (sz : Nat) : Array Value → State → Prop := va_Pc av (fun U => ((U.heap.size = sz ∧ hH G (fun _ => True) f U.heap ∧ hK G U) ∧ xN sa U ∧ xZ (hA f sz) U U.heap) ∧ va_Nc eA eI U)
abbrev li_ (l : Launch) (G : hG) (sa : xS) (y : MethodName) (ws : List Cond) (rm : Room) (av : List Value) (f : hm) (post : Int32 → hm → Prop) : Prop := ∀ sz : Nat, Met l y ws rm (lPc G sa av f sz) (va_Qi post (hB G (hA f sz)) (hA f sz)) rm.cells rm.slots (hA f sz)
theorem l_ofW {l : Launch} {G : hG} {sa : xS} {y : MethodName} {ws ws' : List Cond} {rm : Room} {av : List Value} {f : hm} {sz : Nat} {Qc : Array Value → State → Outcome → State → Prop} {mc ms : Nat} {cc : ByteArray} {maxL : Nat} {ret : Option FieldType} {hh : List (Nat × Nat × Nat × Nat)}
    (hy : plainName y.cls = true) (hw : ws = Cond.codeWith y cc maxL ret hh :: ws') (hn : (lg_sl av).length ≤ maxL)
    (body : ∀ p e s m below meth c ls, hC G y.cls ws cc maxL ret p s m av.toArray meth c → c.exceptionTable.toList = tableOf hh → xN sa s → xZ (hA f sz) s s.heap → va_Nc eA eI s → s.heap.size = sz → hH G (hA f sz) f s.heap → lv_has ls maxL (lv_args 0 av) →
      W p l e rm s m av.toArray below meth c s.heap [] 0 0 (MQ below Qc av.toArray s mc ms (hA f sz)) (F0 m 0 ls [])) :
    Met l y ws rm (lPc G sa av f sz) Qc mc ms (hA f sz) := by
  refine va_MetW (cc := cc) (maxL := maxL) (ret := ret) (hh := hh) hy hw ?_
  intro p e s m args below meth c s₁ B hml hv
  obtain ⟨rfl, ⟨⟨hsz, hP, hK⟩, hN, hZ⟩, hX⟩ := hv
  have hl := lv_entry av (n := maxL) hn
  have hts := atoms_spec (ws := ws) B.pre
  rw [lg_entry_eq]
  exact body p e s m below meth c _ ⟨B.exec, B.bytes, hml, findClass_of_methodNamed B.named, hts, B.returns, B.notSynchronized, hK⟩ (vx_table (x := y) B (hts _ (by rw [hw]; exact List.mem_cons_self))) hN hZ hX hsz hP.self hl
/-- how a wrapper ends: done, a number refused, an index refused -/
def lp (I N : Prop) (b b1 : BD) (k : Int32) (K : Prop) : Prop := (I ∧ N ∧ k = 0 ∧ K) ∨ (I ∧ ¬ N ∧ k = 2 ∧ b1 = b) ∨ (¬ I ∧ k = 1 ∧ b1 = b)
