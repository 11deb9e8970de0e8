/-! The best total, what it costs, the chosen part: what is asked. -/
def fs (D : PD) (T : Nat) : Prop := pNp D = 0 ∨ PS (pNp D) (pPk D) T
def stp (D : PD) (T k : Nat) : Prop := k < pN1 D ∧ pB1 D k ≤ T ∧ (k + 1 < pN1 D → T < pB1 D (k + 1))
def cst (ra : Nat → Nat) (D : PD) (T k : Nat) : Nat := T * pC1 D k * ra (pK1 D k)
def cand (D : PD) (q T k : Nat) : Prop := q ≤ T ∧ T ≤ pPc D ∧ fs D T ∧ stp D T k
def BTr (ra : Nat → Nat) (D : PD) (q m : Nat) : Option (Nat × Nat) → Prop
  | none => ∀ T k, k < m → ¬ cand D q T k
  | some o => ∃ k, k < m ∧ cand D q o.1 k ∧ o.2 = cst ra D o.1 k ∧ ∀ T' k', k' < m → cand D q T' k' → o.2 < cst ra D T' k' ∨ (o.2 = cst ra D T' k' ∧ o.1 ≤ T')
abbrev BT (ra : Nat → Nat) (D : PD) (q : Nat) (o : Option (Nat × Nat)) : Prop := BTr ra D q (pN1 D) o
def oT : Option (Nat × Nat) → Int32
  | none => -1
  | some o => nI o.1
def oC : Option (Nat × Nat) → Int64
  | none => -1
  | some o => lN o.2
theorem BT_uni {ra : Nat → Nat} {D : PD} {q : Nat} {o1 o2 : Option (Nat × Nat)} (h1 : BT ra D q o1) (h2 : BT ra D q o2) : o1 = o2 := by
  rcases o1 with _ | ⟨T1, c1⟩ <;> rcases o2 with _ | ⟨T2, c2⟩
  · rfl
  · obtain ⟨k, hk, hc, -⟩ := h2
    exact absurd hc (h1 _ _ hk)
  · obtain ⟨k, hk, hc, -⟩ := h1
    exact absurd hc (h2 _ _ hk)
  · obtain ⟨k1, hk1, hc1, e1, a1⟩ := h1
    obtain ⟨k2, hk2, hc2, e2, a2⟩ := h2
    have x1 := a1 _ _ hk2 hc2
    have x2 := a2 _ _ hk1 hc1
    simp only at e1 e2 x1 x2
    have e3 : c1 = c2 := by omega
    have e4 : T1 = T2 := by omega
    rw [e3, e4]
theorem BTr_skip {ra : Nat → Nat} {D : PD} {q k : Nat} {o : Option (Nat × Nat)} (h : BTr ra D q k o) (hn : ∀ T, ¬ cand D q T k) : BTr ra D q (k + 1) o := by
  rcases o with _ | o
  · intro T k' hk' hc
    rcases Nat.lt_succ_iff_lt_or_eq.mp hk' with z | z
    · exact h T k' z hc
    · rw [z] at hc; exact hn T hc
  · obtain ⟨k0, h1, h2, h3, h4⟩ := h
    refine ⟨k0, Nat.lt_succ_of_lt h1, h2, h3, fun T' k' hk' hc => ?_⟩
    rcases Nat.lt_succ_iff_lt_or_eq.mp hk' with z | z
    · exact h4 T' k' z hc
    · rw [z] at hc; exact absurd hc (hn T')
theorem cst_mono {ra : Nat → Nat} {D : PD} {T T' k : Nat} (h : T ≤ T') : cst ra D T k ≤ cst ra D T' k := Nat.mul_le_mul_right _ (Nat.mul_le_mul_right _ h)
theorem BTr_take {ra : Nat → Nat} {D : PD} {q k T : Nat} {o : Option (Nat × Nat)} (h : BTr ra D q k o) (hT : cand D q T k) (hmin : ∀ T', cand D q T' k → T ≤ T') (hlt : ∀ p, o = some p → cst ra D T k < p.2) : BTr ra D q (k + 1) (some (T, cst ra D T k)) := by
  refine ⟨k, Nat.lt_succ_self k, hT, rfl, fun T' k' hk' hc => ?_⟩
  rcases Nat.lt_succ_iff_lt_or_eq.mp hk' with z | z
  · rcases o with _ | o
    · exact absurd hc (h T' k' z)
    · obtain ⟨k0, h1, h2, h3, h4⟩ := h
      have h5 := hlt o rfl
      have h6 := h4 T' k' z hc
      left
      show cst ra D T k < cst ra D T' k'
      omega
  · subst z
    have h5 := hmin T' hc
    have h6 : cst ra D T k' ≤ cst ra D T' k' := cst_mono h5
    rcases Nat.lt_or_ge (cst ra D T k') (cst ra D T' k') with z | z
    · exact Or.inl z
    · exact Or.inr ⟨Nat.le_antisymm h6 z, h5⟩
theorem BTr_keep {ra : Nat → Nat} {D : PD} {q k T : Nat} {o : Nat × Nat} (hs : ∀ i j, i < j → j < pN1 D → pB1 D i < pB1 D j) (h : BTr ra D q k (some o)) (hmin : ∀ T', cand D q T' k → T ≤ T') (hge : o.2 ≤ cst ra D T k) : BTr ra D q (k + 1) (some o) := by
  obtain ⟨k0, h1, h2, h3, h4⟩ := h
  refine ⟨k0, Nat.lt_succ_of_lt h1, h2, h3, fun T' k' hk' hc => ?_⟩
  rcases Nat.lt_succ_iff_lt_or_eq.mp hk' with z | z
  · exact h4 T' k' z hc
  · subst z
    have h5 : cst ra D T k' ≤ cst ra D T' k' := cst_mono (hmin T' hc)
    rcases Nat.lt_or_ge o.2 (cst ra D T' k') with z | z
    · exact Or.inl z
    · refine Or.inr ⟨by omega, ?_⟩
      have h6 := h2.2.2.2.2.2 (by have := hc.2.2.2.1; omega)
      have h7 := hc.2.2.2.2.1
      have h8 : pB1 D (k0 + 1) ≤ pB1 D k' := by
        rcases Nat.lt_or_ge (k0 + 1) k' with y | y
        · exact Nat.le_of_lt (hs _ _ y hc.2.2.2.1)
        · rw [show k0 + 1 = k' by omega]; exact Nat.le_refl _
      omega
theorem cst_lt {ra : Nat → Nat} {D : PD} {T k : Nat} (hD : pOK D) (hra : ∀ j, j < 4 → 1 ≤ ra j ∧ ra j ≤ 1000000) (hT : T ≤ 20000) (hk : k < pN1 D) : cst ra D T k < 2 ^ 62 := by
  have h1 := hD.2.2.1 k hk
  have h2 := hra _ h1.2.2
  exact Nat.lt_of_le_of_lt (Nat.mul_le_mul (Nat.mul_le_mul hT h1.2.1.2) h2.2) (by decide)
/-- the first and last total that a step's price holds for -/
def stE (D : PD) (k : Nat) : Nat := if k + 1 < pN1 D then min (pPc D) (pB1 D (k + 1) - 1) else pPc D
theorem cand_k {D : PD} (hD : pOK D) {q T k : Nat} (hk : k < pN1 D) : cand D q T k ↔ (max q (pB1 D k) ≤ T ∧ T ≤ stE D k ∧ fs D T) := by
  unfold cand stp stE
  by_cases h : k + 1 < pN1 D
  · have h1 := (hD.2.2.1 (k + 1) h).1.1
    rw [if_pos h]
    constructor
    · rintro ⟨a1, a2, a3, a4, a5, a6⟩
      have := a6 h
      exact ⟨by omega, by omega, a3⟩
    · rintro ⟨a1, a2, a3⟩
      exact ⟨by omega, by omega, a3, hk, by omega, fun _ => by omega⟩
  · rw [if_neg h]
    constructor
    · rintro ⟨a1, a2, a3, a4, a5, a6⟩
      exact ⟨by omega, by omega, a3⟩
    · rintro ⟨a1, a2, a3⟩
      exact ⟨by omega, by omega, a3, hk, by omega, fun z => absurd z h⟩
theorem stE_le {D : PD} (hD : pOK D) (k : Nat) : stE D k ≤ 20000 := by
  have := hD.1.2.1
  unfold stE
  by_cases h : k + 1 < pN1 D
  · rw [if_pos h]; omega
  · rw [if_neg h]; exact this
theorem stD_uni {D : PD} {d : Int64} {v1 v2 : Nat} (h1 : stD D d v1) (h2 : stD D d v2) : v1 = v2 := by
  obtain ⟨k1, a1, b1, c1, rfl⟩ := h1
  obtain ⟨k2, a2, b2, c2, rfl⟩ := h2
  rcases Nat.lt_trichotomy k1 k2 with z | z | z
  · exact absurd (b2 k1 z) (c1 (by omega))
  · rw [z]
  · exact absurd (b1 k2 z) (c2 (by omega))
/-- what a part costs if it may be taken -/
def OF (b : BD) (i q : Nat) (d : Int64) (o : Option (Nat × Nat)) : Prop := ∃ v, stD (bD b i) d v ∧ (((v = 1 ∨ v = 2) ∧ BT (bRa b) (bD b i) q o) ∨ (¬ (v = 1 ∨ v = 2) ∧ o = none))
theorem OF_uni {b : BD} {i q : Nat} {d : Int64} {o1 o2 : Option (Nat × Nat)} (h1 : OF b i q d o1) (h2 : OF b i q d o2) : o1 = o2 := by
  obtain ⟨v1, s1, h1⟩ := h1
  obtain ⟨v2, s2, h2⟩ := h2
  have := stD_uni s1 s2
  subst this
  rcases h1 with ⟨z1, h1⟩ | ⟨z1, h1⟩ <;> rcases h2 with ⟨z2, h2⟩ | ⟨z2, h2⟩
  · exact BT_uni h1 h2
  · exact absurd z1 z2
  · exact absurd z2 z1
  · rw [h1, h2]
def CHr (b : BD) (i ru q : Nat) (d : Int64) (M : Nat → Prop) : Option Nat → Prop
  | none => ∀ p o, M p → ¬ OF b p q d (some o)
  | some p => ∃ o, M p ∧ OF b p q d (some o) ∧ ∀ p' o', M p' → OF b p' q d (some o') → o.2 < o'.2 ∨ (o.2 = o'.2 ∧ (p' = p ∨ (p' ≠ i ∧ (p = i ∨ sb b p p'))))
def CH (b : BD) (i ru q : Nat) (d : Int64) (o : Option Nat) : Prop := CHr b i ru q d (fun p => p < bN b ∧ (p = i ∨ AL b p i ru)) o
theorem sb_asym {b : BD} {p p' : Nat} (h1 : sb b p p') (h2 : sb b p' p) : False := by
  unfold sb at h1 h2
  omega
theorem sb_tot {b : BD} {p p' : Nat} (h : p ≠ p') (h1 : ¬ sb b p p') : sb b p' p := by
  unfold sb at *
  omega
theorem sb_trans {b : BD} {p p' p'' : Nat} (h1 : sb b p p') (h2 : sb b p' p'') : sb b p p'' := by
  unfold sb at *
  omega
theorem CH_uni {b : BD} {i ru q : Nat} {d : Int64} {o1 o2 : Option Nat} (h1 : CH b i ru q d o1) (h2 : CH b i ru q d o2) : o1 = o2 := by
  rcases o1 with _ | p1 <;> rcases o2 with _ | p2
  · rfl
  · obtain ⟨o, m, f, -⟩ := h2
    exact absurd f (h1 _ _ m)
  · obtain ⟨o, m, f, -⟩ := h1
    exact absurd f (h2 _ _ m)
  · obtain ⟨a1, m1, f1, g1⟩ := h1
    obtain ⟨a2, m2, f2, g2⟩ := h2
    have x1 := g1 _ _ m2 f2
    have x2 := g2 _ _ m1 f1
    by_cases e : p1 = p2
    · rw [e]
    · exfalso
      rcases x1 with x1 | ⟨y1, x1 | ⟨x1, x1b⟩⟩
      · rcases x2 with x2 | ⟨y2, -⟩ <;> omega
      · exact e x1.symm
      · rcases x2 with x2 | ⟨y2, x2 | ⟨x2, x2b⟩⟩
        · omega
        · exact e x2
        · rcases x1b with z | z
          · exact x2 z
          · rcases x2b with w | w
            · exact x1 w
            · exact sb_asym z w
def oP : Option Nat → Int32
  | none => -1
  | some p => nI p
/-- one candidate more that isn't taken -/
theorem CH_skip {b : BD} {i ru q : Nat} {d : Int64} {M M' : Nat → Prop} {o : Option Nat} {k : Nat} (h : CHr b i ru q d M o) (h1 : ∀ p, M p → M' p) (h2 : ∀ p, M' p → M p ∨ p = k) (hk : M' k → ∀ o', ¬ OF b k q d (some o')) : CHr b i ru q d M' o := by
  rcases o with _ | p
  · intro p o' m f
    rcases h2 p m with z | z
    · exact h p o' z f
    · rw [z] at m f; exact hk m o' f
  · obtain ⟨o, m, f, g⟩ := h
    refine ⟨o, h1 _ m, f, fun p' o' m' f' => ?_⟩
    rcases h2 p' m' with z | z
    · exact g p' o' z f'
    · rw [z] at m' f'; exact absurd f' (hk m' o')
theorem CH_keep {b : BD} {i ru q : Nat} {d : Int64} {M M' : Nat → Prop} {p k : Nat} {o ok : Nat × Nat} (h : CHr b i ru q d M (some p)) (hp : OF b p q d (some o)) (h1 : ∀ p, M p → M' p) (h2 : ∀ p, M' p → M p ∨ p = k) (hk : OF b k q d (some ok)) (hc : o.2 < ok.2 ∨ (o.2 = ok.2 ∧ k ≠ i ∧ (p = i ∨ sb b p k))) : CHr b i ru q d M' (some p) := by
  obtain ⟨o1, m, f, g⟩ := h
  have e := Option.some.inj (OF_uni f hp)
  subst e
  refine ⟨o1, h1 _ m, f, fun p' o' m' f' => ?_⟩
  rcases h2 p' m' with z | z
  · exact g p' o' z f'
  · subst z
    have e2 := Option.some.inj (OF_uni f' hk)
    subst e2
    rcases hc with hc | ⟨hc, hk1, hk2⟩
    · exact Or.inl hc
    · exact Or.inr ⟨hc, Or.inr ⟨hk1, hk2⟩⟩
theorem CH_take {b : BD} {i ru q : Nat} {d : Int64} {M M' : Nat → Prop} {o : Option Nat} {k : Nat} {ok : Nat × Nat} (h : CHr b i ru q d M o) (h2 : ∀ p, M' p → M p ∨ p = k) (hm : M' k) (hk : OF b k q d (some ok)) (hc : ∀ p o1, o = some p → OF b p q d (some o1) → ok.2 < o1.2 ∨ (ok.2 = o1.2 ∧ p ≠ i ∧ (k = i ∨ sb b k p))) : CHr b i ru q d M' (some k) := by
  refine ⟨ok, hm, hk, fun p' o' m' f' => ?_⟩
  rcases h2 p' m' with z | z
  · rcases o with _ | p
    · exact absurd f' (h p' o' z)
    · obtain ⟨o1, m, f, g⟩ := h
      have hc1 := hc p o1 rfl f
      have g1 := g p' o' z f'
      rcases hc1 with hc1 | ⟨hc1, hp, hb⟩
      · left
        rcases g1 with g1 | g1
        · omega
        · omega
      · rcases g1 with g1 | ⟨g1, g2⟩
        · left; omega
        · refine Or.inr ⟨by omega, Or.inr ?_⟩
          rcases g2 with g2 | ⟨g2, g3⟩
          · rw [g2]; exact ⟨hp, hb⟩
          · refine ⟨g2, hb.imp id (fun hb => ?_)⟩
            rcases g3 with g3 | g3
            · exact absurd g3 hp
            · exact sb_trans hb g3
  · subst z
    have e2 := Option.some.inj (OF_uni f' hk)
    subst e2
    exact Or.inr ⟨rfl, Or.inl rfl⟩
def N_q (n : Int32) : Prop := 1 ≤ n ∧ n ≤ 10000
def K_cost (b : BD) (p n : Int32) (r : Int64) : Prop := ∃ i v o, i < bN b ∧ p = nI i ∧ 1 ≤ v ∧ v ≤ 10000 ∧ n = nI v ∧ BT (bRa b) (bD b i) v o ∧ r = oC o
def K_best (b : BD) (p n r : Int32) : Prop := ∃ i v o, i < bN b ∧ p = nI i ∧ 1 ≤ v ∧ v ≤ 10000 ∧ n = nI v ∧ BT (bRa b) (bD b i) v o ∧ r = oT o
def K_chosen (b : BD) (p q n : Int32) (d : Int64) (v : Nat) (o : Option Nat) : Prop := ∃ i j, i < bN b ∧ p = nI i ∧ j < bRc b ∧ q = nI j ∧ 1 ≤ v ∧ v ≤ 10000 ∧ n = nI v ∧ CH b i j v d o
def K_choose (b : BD) (p q n : Int32) (d : Int64) (r : Int32) : Prop := ∃ v o, K_chosen b p q n d v o ∧ r = oP o
def K_buy (b : BD) (p q n : Int32) (d : Int64) (r : Int32) (b1 : BD) : Prop := ∃ v o, K_chosen b p q n d v o ∧ ((o = none ∧ r = -1 ∧ b1 = b) ∨ ∃ z t, o = some z ∧ z < bN b ∧ BT (bRa b) (bD b z) v (some t) ∧ r = nI t.1 ∧ b1 = bSet b z (dPc (bD b z) (pPc (bD b z) - t.1)))
