/-! The book: its data, and how they lie in the heap. -/
/-- a part's data: maker, pieces, values (above, below), prices (count, beginnings, cents, currencies), days (count, beginnings, states), packs (count, sizes, bits of the sums) -/
abbrev PD : Type := Nat × Nat × (Nat → Nat) × (Nat → Nat) × (Nat × (Nat → Nat) × (Nat → Nat) × (Nat → Nat)) × (Nat × (Nat → Int64) × (Nat → Nat)) × (Nat × (Nat → Nat) × (Nat → Nat))
abbrev pMk (D : PD) : Nat := D.1
abbrev pPc (D : PD) : Nat := D.2.1
abbrev pVa (D : PD) : Nat → Nat := D.2.2.1
abbrev pVb (D : PD) : Nat → Nat := D.2.2.2.1
abbrev pN1 (D : PD) : Nat := D.2.2.2.2.1.1
abbrev pB1 (D : PD) : Nat → Nat := D.2.2.2.2.1.2.1
abbrev pC1 (D : PD) : Nat → Nat := D.2.2.2.2.1.2.2.1
abbrev pK1 (D : PD) : Nat → Nat := D.2.2.2.2.1.2.2.2
abbrev pN2 (D : PD) : Nat := D.2.2.2.2.2.1.1
abbrev pB2 (D : PD) : Nat → Int64 := D.2.2.2.2.2.1.2.1
abbrev pK2 (D : PD) : Nat → Nat := D.2.2.2.2.2.1.2.2
abbrev pNp (D : PD) : Nat := D.2.2.2.2.2.2.1
abbrev pPk (D : PD) : Nat → Nat := D.2.2.2.2.2.2.2.1
abbrev pW (D : PD) : Nat → Nat := D.2.2.2.2.2.2.2.2
/-- t is a sum of packs of the first n sizes -/
def PS : Nat → (Nat → Nat) → Nat → Prop
  | 0, _, t => t = 0
  | n + 1, pk, t => ∃ j, j * pk n ≤ t ∧ PS n pk (t - j * pk n)
/-- what a part's data keep to -/
def pOK (D : PD) : Prop :=
  (pMk D < 16 ∧ pPc D ≤ 20000 ∧ pN1 D ≤ 8 ∧ pN2 D ≤ 8 ∧ pNp D ≤ 6) ∧ (∀ j, pVa D j < 2 ^ 63 ∧ pVb D j < 2 ^ 50) ∧
  (∀ j, j < pN1 D → (1 ≤ pB1 D j ∧ pB1 D j ≤ 10000) ∧ (1 ≤ pC1 D j ∧ pC1 D j ≤ 1000000) ∧ pK1 D j < 4) ∧ (∀ i j, i < j → j < pN1 D → pB1 D i < pB1 D j) ∧
  (∀ j, j < pN2 D → pK2 D j ≤ 3) ∧ (∀ i j, i < j → j < pN2 D → pB2 D i < pB2 D j) ∧
  (∀ j, j < pNp D → 1 ≤ pPk D j ∧ pPk D j ≤ 1000) ∧ (∀ j, pW D j < 2 ^ 64) ∧ (pNp D = 0 → pW D = w_0) ∧ (∀ t, t ≤ 20000 → (bi (pW D) t = true ↔ PS (pNp D) (pPk D) t))
/-- a part in the heap -/
def pV (G : hG) (f : hm) (a : Nat → Nat) (i : Nat) (D : PD) (sm : Option Nat) : Prop :=
  pv G f a i (pMk D) (pPc D) (fun j => lN (pVa D j)) (fun j => lN (pVb D j)) (pN1 D) (fun j => lN (pB1 D j)) (fun j => lN (pC1 D j)) (fun j => nI (pK1 D j)) (pN2 D) (pB2 D) (fun _ => 0) (fun j => nI (pK2 D j)) (pNp D) (fun j => nI (pPk D j)) sm ∧
  (∀ q, sm = some q → f q = some (aL G 313 (fun j => lN (pW D j)))) ∧ (sm = none ↔ pNp D = 0)
/-- the book's data: how many parts, rules, found; the parts; places, asks, rates, found ones -/
abbrev BD : Type := Nat × Nat × Nat × (Nat → PD) × (Nat → Nat) × (Nat → Int32) × (Nat → Nat) × (Nat → Nat)
abbrev bN (b : BD) : Nat := b.1
abbrev bRc (b : BD) : Nat := b.2.1
abbrev bHc (b : BD) : Nat := b.2.2.1
abbrev bD (b : BD) : Nat → PD := b.2.2.2.1
abbrev bPl (b : BD) : Nat → Nat := b.2.2.2.2.1
abbrev bAs (b : BD) : Nat → Int32 := b.2.2.2.2.2.1
abbrev bRa (b : BD) : Nat → Nat := b.2.2.2.2.2.2.1
abbrev bHi (b : BD) : Nat → Nat := b.2.2.2.2.2.2.2
def bOK (b : BD) : Prop := (bN b ≤ 40 ∧ bRc b ≤ 10 ∧ bHc b ≤ 40) ∧ (∀ i, i < bN b → pOK (bD b i)) ∧ (∀ k, k < 16 → bPl b k ≤ 99) ∧ (∀ k, k < 120 → bAs b k = -1 ∨ bAs b k = 0 ∨ bAs b k = 1 ∨ bAs b k = 2) ∧ (∀ k, k < 4 → 1 ≤ bRa b k ∧ bRa b k ≤ 1000000) ∧ (∀ k, k < bHc b → bHi b k < bN b)
abbrev AD : Type := Nat × Nat × Nat × Nat × Nat × (Nat → Nat → Nat) × (Nat → Option Nat)
abbrev aPa (a : AD) : Nat := a.1
abbrev aPl (a : AD) : Nat := a.2.1
abbrev aAs (a : AD) : Nat := a.2.2.1
abbrev aRa (a : AD) : Nat := a.2.2.2.1
abbrev aHi (a : AD) : Nat := a.2.2.2.2.1
abbrev aAd (a : AD) : Nat → Nat → Nat := a.2.2.2.2.2.1
abbrev aSm (a : AD) : Nat → Option Nat := a.2.2.2.2.2.2
/-- the book's own six cells -/
def bk6 (G : hG) (f : hm) (x : Nat) (a : AD) (b : BD) : Prop :=
  f x = some (ob 3 [.ref (aPa a), .int (nI (bN b)), .ref (aPl a), .ref (aAs a), .int (nI (bRc b)), .ref (aRa a), .ref (aHi a), .int (nI (bHc b))]) ∧ f (aPa a) = some (aP G 40 (fun i => if i < bN b then some (aAd a i 0) else none)) ∧ f (aPl a) = some (aI G 16 (fun k => nI (bPl b k))) ∧ f (aAs a) = some (aI G 120 (bAs b)) ∧ f (aRa a) = some (aL G 4 (fun k => lN (bRa b k))) ∧ f (aHi a) = some (aI G 40 (fun k => nI (bHi b k)))
def bk (G : hG) (f : hm) (x : Nat) (a : AD) (b : BD) : Prop :=
  bk6 G f x a b ∧ (∀ i, i < bN b → pV G f (aAd a i) i (bD b i) (aSm a i)) ∧
  (∀ i j i2 j2, i < bN b → j < 13 → i2 < bN b → j2 < 13 → aAd a i j = aAd a i2 j2 → i = i2 ∧ j = j2) ∧ (∀ i i2 q, i < bN b → i2 < bN b → aSm a i = some q → aSm a i2 = some q → i = i2) ∧ bOK b
/-- the kind of a cell -/
def kd (e : va_E) : Nat := match e with
  | .inr o => o.1
  | .inl x => 100 + x.2.1
theorem kd_ne {f : hm} {a b : Nat} {e1 e2 : va_E} (h1 : f a = some e1) (h2 : f b = some e2) (h : kd e1 ≠ kd e2) : a ≠ b := hm_ne h1 h2 (fun z => h (by rw [z]))
theorem pv_kd {G : hG} {f : hm} {a : Nat → Nat} {i : Nat} {D : PD} {sm : Option Nat} (h : pV G f a i D sm) : ∀ k, k < 13 → ∃ e, f (a k) = some e ∧ (kd e < 3 ∨ kd e = 112 ∨ kd e = 108 ∨ kd e = 106) := by
  obtain ⟨⟨h0, h1, h2, ⟨h3, h4, h5, h6⟩, ⟨h7, h8, h9, h10⟩, h11, h12⟩, -, -⟩ := h
  intro k hk
  rcases (show k = 0 ∨ k = 1 ∨ k = 2 ∨ k = 3 ∨ k = 4 ∨ k = 5 ∨ k = 6 ∨ k = 7 ∨ k = 8 ∨ k = 9 ∨ k = 10 ∨ k = 11 ∨ k = 12 by omega) with rfl | rfl | rfl | rfl | rfl | rfl | rfl | rfl | rfl | rfl | rfl | rfl | rfl
  · exact ⟨_, h0, by simp [kd]⟩
  · exact ⟨_, h1, by simp [kd]⟩
  · exact ⟨_, h2, by simp [kd]⟩
  · exact ⟨_, h3, by simp [kd]⟩
  · exact ⟨_, h4, by simp [kd]⟩
  · exact ⟨_, h5, by simp [kd]⟩
  · exact ⟨_, h6, by simp [kd]⟩
  · exact ⟨_, h7, by simp [kd]⟩
  · exact ⟨_, h8, by simp [kd]⟩
  · exact ⟨_, h9, by simp [kd]⟩
  · exact ⟨_, h10, by simp [kd]⟩
  · exact ⟨_, h11, by simp [kd]⟩
  · exact ⟨_, h12, by simp [kd]⟩
theorem pv_congr {G : hG} {f u : hm} {a : Nat → Nat} {i : Nat} {D : PD} {sm : Option Nat} (h : pV G f a i D sm) (hu : ∀ k, k < 13 → u (a k) = f (a k)) (hs : ∀ q, sm = some q → u q = f q) : pV G u a i D sm := by
  obtain ⟨⟨h0, h1, h2, ⟨h3, h4, h5, h6⟩, ⟨h7, h8, h9, h10⟩, h11, h12⟩, hq, hn⟩ := h
  refine ⟨⟨?_, ?_, ?_, ⟨?_, ?_, ?_, ?_⟩, ⟨?_, ?_, ?_, ?_⟩, ?_, ?_⟩, fun q hq2 => (hs q hq2).trans (hq q hq2), hn⟩
  · exact (hu 0 (by decide)).trans h0
  · exact (hu 1 (by decide)).trans h1
  · exact (hu 2 (by decide)).trans h2
  · exact (hu 3 (by decide)).trans h3
  · exact (hu 4 (by decide)).trans h4
  · exact (hu 5 (by decide)).trans h5
  · exact (hu 6 (by decide)).trans h6
  · exact (hu 7 (by decide)).trans h7
  · exact (hu 8 (by decide)).trans h8
  · exact (hu 9 (by decide)).trans h9
  · exact (hu 10 (by decide)).trans h10
  · exact (hu 11 (by decide)).trans h11
  · exact (hu 12 (by decide)).trans h12
abbrev bSet (b : BD) (i : Nat) (D : PD) : BD := (bN b, bRc b, bHc b, va_up (bD b) i D, bPl b, bAs b, bRa b, bHi b)
abbrev aSet (a : AD) (i : Nat) (q : Option Nat) : AD := (aPa a, aPl a, aAs a, aRa a, aHi a, aAd a, va_up (aSm a) i q)
/-- a part's cells have changed, the rest stands -/
theorem bk_upd {G : hG} {f u : hm} {x : Nat} {a : AD} {b : BD} (h : bk G f x a b) {i : Nat} (hi : i < bN b) {S : List Nat} (hE1 : hE S f u) (hS : ∀ q ∈ S, (∃ k, k < 13 ∧ q = aAd a i k) ∨ aSm a i = some q ∨ f q = none) {D : PD} {sq : Option Nat} (hv : pV G u (aAd a i) i D sq) (hsm : sq = aSm a i ∨ ∃ q, sq = some q ∧ f q = none) (hD : pOK D) : bk G u x (aSet a i sq) (bSet b i D) := by
  obtain ⟨⟨b0, b1, b2, b3, b4, b5⟩, hp, hinj, hsi, ⟨hk1, hk2, hk3, hk4, hk5, hk6⟩⟩ := h
  have hpi := hp i hi
  have hkeep : ∀ {c : Nat} {e : va_E}, f c = some e → (kd e = 3 ∨ kd e = 140 ∨ kd e = 116 ∨ kd e = 220 ∨ kd e = 104) → u c = some e := fun {c e} hc hk => by
    rw [hE1 c ?_]; exact hc
    intro hm
    rcases hS c hm with ⟨k, hk2, rfl⟩ | hq | hq
    · obtain ⟨e2, h2, h3⟩ := pv_kd hpi k hk2
      rw [h2] at hc
      rw [← Option.some.inj hc] at hk
      omega
    · have h2 := hpi.2.1 c hq
      rw [h2] at hc
      rw [← Option.some.inj hc] at hk
      simp [kd] at hk
    · rw [hq] at hc; cases hc
  refine ⟨⟨hkeep b0 (by simp [kd]), hkeep b1 (by simp [kd]), hkeep b2 (by simp [kd]), hkeep b3 (by simp [kd]), hkeep b4 (by simp [kd]), hkeep b5 (by simp [kd])⟩, ?_, hinj, ?_, hk1, ?_, hk3, hk4, hk5, hk6⟩
  · intro j hj
    by_cases hji : j = i
    · subst hji
      show pV G u (aAd a j) j (va_up (bD b) j D j) (va_up (aSm a) j sq j)
      rw [va_up_self, va_up_self]
      exact hv
    · show pV G u (aAd a j) j (va_up (bD b) i D j) (va_up (aSm a) i sq j)
      rw [va_up_ne _ _ hji, va_up_ne _ _ hji]
      refine pv_congr (hp j hj) (fun k hk => hE1 _ (fun hm => ?_)) (fun q hq => hE1 _ (fun hm => ?_))
      · rcases hS _ hm with ⟨k2, hk2, e2⟩ | hq | hq
        · exact hji (hinj j k i k2 hj hk hi hk2 e2).1
        · obtain ⟨e2, h2, h3⟩ := pv_kd (hp j hj) k hk
          rw [hpi.2.1 _ hq] at h2
          rw [← Option.some.inj h2] at h3
          simp [kd] at h3
        · obtain ⟨e2, h2, h3⟩ := pv_kd (hp j hj) k hk
          rw [hq] at h2; cases h2
      · rcases hS _ hm with ⟨k2, hk2, e2⟩ | hq2 | hq2
        · obtain ⟨e3, h2, h3⟩ := pv_kd hpi k2 hk2
          rw [← e2, (hp j hj).2.1 q hq] at h2
          rw [← Option.some.inj h2] at h3
          simp [kd] at h3
        · exact hji (hsi j i q hj hi hq hq2)
        · rw [(hp j hj).2.1 q hq] at hq2; cases hq2
  · intro j j2 q hj hj2 h1 h2
    have hz : ∀ j, j < bN b → j ≠ i → ∀ q, aSm a j = some q → sq ≠ some q := fun j hj hji q hq hs => by
      rcases hsm with e1 | ⟨q2, e1, e2⟩
      · exact hji (hsi j i q hj hi hq (e1.symm.trans hs))
      · rw [e1] at hs
        have hqq := Option.some.inj hs
        have := (hp j hj).2.1 q hq
        rw [← hqq, e2] at this
        cases this
    by_cases hji : j = i
    · by_cases hj2i : j2 = i
      · rw [hji, hj2i]
      · have h1' : sq = some q := by rw [hji] at h1; exact (va_up_self (aSm a) i sq).symm.trans h1
        have h2' : aSm a j2 = some q := (va_up_ne (aSm a) sq hj2i).symm.trans h2
        exact absurd h1' (hz j2 hj2 hj2i q h2')
    · have h1' : aSm a j = some q := (va_up_ne (aSm a) sq hji).symm.trans h1
      by_cases hj2i : j2 = i
      · have h2' : sq = some q := by rw [hj2i] at h2; exact (va_up_self (aSm a) i sq).symm.trans h2
        exact absurd h2' (hz j hj hji q h1')
      · have h2' : aSm a j2 = some q := (va_up_ne (aSm a) sq hj2i).symm.trans h2
        exact hsi j j2 q hj hj2 h1' h2'
  · intro j hj
    show pOK (va_up (bD b) i D j)
    by_cases hji : j = i
    · rw [hji, va_up_self]; exact hD
    · rw [va_up_ne _ _ hji]; exact hk2 j hj
