/-! Alternates, the order of the found ones, searches: what is asked. -/
def bz (P : Prop) (r : Int32) : Prop := (P ∧ r = 1) ∨ (¬ P ∧ r = 0)
theorem bz_01 {P : Prop} {r : Int32} (h : bz P r) : r = 0 ∨ r = 1 := h.elim (fun z => Or.inr z.2) (fun z => Or.inl z.2)
theorem bz_t {P : Prop} {r : Int32} (h : bz P r) (hr : ¬ r = 0) : P := h.elim (fun z => z.1) (fun z => absurd z.2 hr)
theorem bz_f {P : Prop} {r : Int32} (h : bz P r) (hr : r = 0) : ¬ P := h.elim (fun z => absurd (z.2.symm.trans hr) (by decide)) (fun z => z.1)
abbrev vc (D E : PD) (j : Nat) : Int := (pVa D j : Int) * (pVb E j : Int) - (pVa E j : Int) * (pVb D j : Int)
def mt (D E : PD) (j : Nat) (h : Int32) : Prop := pVb D j ≠ 0 ∧ pVb E j ≠ 0 ∧ ((h = 0 ∧ cq_i (vc D E j) = 0) ∨ (h ≠ 0 ∧ h = 1 ∧ ¬ cq_i (vc D E j) < 0) ∨ (h ≠ 0 ∧ h ≠ 1 ∧ ¬ 0 < cq_i (vc D E j)))
def AL (b : BD) (p o q : Nat) : Prop := p ≠ o ∧ ∀ j, j < 12 → bAs b (q * 12 + j) = -1 ∨ mt (bD b p) (bD b o) j (bAs b (q * 12 + j))
def sb (b : BD) (i o : Nat) : Prop := bPl b (pMk (bD b i)) < bPl b (pMk (bD b o)) ∨ (bPl b (pMk (bD b i)) = bPl b (pMk (bD b o)) ∧ i < o)
def nmv (nm : Option Nat) : Int32 := match nm with
  | none => -1
  | some n => nI n
def gb (b : BD) (nm : Option Nat) (i o : Nat) : Prop := match nm with
  | none => sb b i o
  | some n => cq_i (vc (bD b i) (bD b o) n) < 0 ∨ (cq_i (vc (bD b i) (bD b o) n) = 0 ∧ sb b i o)
noncomputable def iN (P : Nat → Prop) (p : Nat) : Nat → (Nat → Nat) → Nat → Nat
  | 0, h => va_up h 0 p
  | n + 1, h => @ite _ (P (h n)) (Classical.propDecidable _) (iN P p n (va_up h (n + 1) (h n))) (va_up h (n + 1) p)
theorem iN_t {P : Nat → Prop} {p n : Nat} {h : Nat → Nat} (hp : P (h n)) : iN P p (n + 1) h = iN P p n (va_up h (n + 1) (h n)) := if_pos hp
theorem iN_f {P : Nat → Prop} {p n : Nat} {h : Nat → Nat} (hp : ¬ P (h n)) : iN P p (n + 1) h = va_up h (n + 1) p := if_neg hp
theorem iN_off {P : Nat → Prop} {p : Nat} : ∀ {n : Nat} {h : Nat → Nat} {j : Nat}, n < j → iN P p n h j = h j
  | 0, h, j, hj => va_up_ne _ _ (by omega)
  | n + 1, h, j, hj => by
    by_cases hp : P (h n)
    · rw [iN_t hp, iN_off (by omega), va_up_ne _ _ (by omega)]
    · rw [iN_f hp, va_up_ne _ _ (by omega)]
theorem iN_mem {P : Nat → Prop} {p : Nat} {R : Nat → Prop} (hp : R p) : ∀ {n : Nat} {h : Nat → Nat}, (∀ k, k < n → R (h k)) → ∀ k, k < n + 1 → R (iN P p n h k)
  | 0, h, _, k, hk => by
    rw [show k = 0 by omega]
    show R (va_up h 0 p 0)
    rw [va_up_self]; exact hp
  | n + 1, h, hh, k, hk => by
    by_cases hq : P (h n)
    · rw [iN_t hq]
      by_cases hk2 : k = n + 1
      · rw [hk2, iN_off (by omega), va_up_self]; exact hh n (by omega)
      · exact iN_mem hp (fun j hj => by rw [va_up_ne _ _ (by omega)]; exact hh j (by omega)) k (by omega)
    · rw [iN_f hq]
      by_cases hk2 : k = n + 1
      · rw [hk2, va_up_self]; exact hp
      · rw [va_up_ne _ _ hk2]; exact hh k (by omega)
noncomputable def fH (P : Nat → Prop) (Q : Nat → Nat → Prop) (h0 : Nat → Nat) : Nat → Nat × (Nat → Nat)
  | 0 => (0, h0)
  | i + 1 => @ite _ (P i) (Classical.propDecidable _) ((fH P Q h0 i).1 + 1, iN (Q i) i (fH P Q h0 i).1 (fH P Q h0 i).2) (fH P Q h0 i)
theorem fH_t {P : Nat → Prop} {Q : Nat → Nat → Prop} {h0 : Nat → Nat} {i : Nat} (h : P i) : fH P Q h0 (i + 1) = ((fH P Q h0 i).1 + 1, iN (Q i) i (fH P Q h0 i).1 (fH P Q h0 i).2) := if_pos h
theorem fH_f {P : Nat → Prop} {Q : Nat → Nat → Prop} {h0 : Nat → Nat} {i : Nat} (h : ¬ P i) : fH P Q h0 (i + 1) = fH P Q h0 i := if_neg h
theorem fH_mem {P : Nat → Prop} {Q : Nat → Nat → Prop} {h0 : Nat → Nat} : ∀ i, (fH P Q h0 i).1 ≤ i ∧ ∀ k, k < (fH P Q h0 i).1 → (fH P Q h0 i).2 k < i ∧ P ((fH P Q h0 i).2 k)
  | 0 => ⟨Nat.le_refl _, fun k hk => absurd hk (Nat.not_lt_zero _)⟩
  | i + 1 => by
    have ih := fH_mem (P := P) (Q := Q) (h0 := h0) i
    by_cases h : P i
    · rw [fH_t h]
      refine ⟨Nat.succ_le_succ ih.1, fun k hk => ?_⟩
      exact iN_mem (R := fun z => z < i + 1 ∧ P z) ⟨by omega, h⟩ (fun k hk => ⟨Nat.lt_succ_of_lt (ih.2 k hk).1, (ih.2 k hk).2⟩) k hk
    · rw [fH_f h]
      exact ⟨Nat.le_succ_of_le ih.1, fun k hk => ⟨Nat.lt_succ_of_lt (ih.2 k hk).1, (ih.2 k hk).2⟩⟩
def I_alt (b : BD) (p q : Int32) : Prop := okx p (bN b) ∧ okx q (bRc b)
def K_alt (b : BD) (p q r : Int32) (b1 : BD) : Prop := ∃ i j F, i < bN b ∧ p = nI i ∧ j < bRc b ∧ q = nI j ∧ F = fH (fun k => AL b k i j) (gb b none) (bHi b) (bN b) ∧ r = nI F.1 ∧ b1 = bHiS b F.1 F.2
/-- the value is at least a / c and at most d / e -/
def sP (b : BD) (n a c d e : Nat) (k : Nat) : Prop := pVb (bD b k) n ≠ 0 ∧ ¬ cq_i ((pVa (bD b k) n : Int) * (c : Int) - (a : Int) * (pVb (bD b k) n : Int)) < 0 ∧ ¬ 0 < cq_i ((pVa (bD b k) n : Int) * (e : Int) - (d : Int) * (pVb (bD b k) n : Int))
def N_search (x y z w : Int64) : Prop := fr x y ∧ fr z w
def K_search (b : BD) (n : Int32) (x y z w : Int64) (r : Int32) (b1 : BD) : Prop := ∃ j a c d e F, j < 12 ∧ n = nI j ∧ a ≤ 1000000000 ∧ x = lN a ∧ 1 ≤ c ∧ c ≤ 1000000 ∧ y = lN c ∧ d ≤ 1000000000 ∧ z = lN d ∧ 1 ≤ e ∧ e ≤ 1000000 ∧ w = lN e ∧ F = fH (sP b j a c d e) (gb b (some j)) (bHi b) (bN b) ∧ r = nI F.1 ∧ b1 = bHiS b F.1 F.2
