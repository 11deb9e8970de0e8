/-! What a call does to the book: one relation a method. -/
abbrev bRcS (b : BD) (n : Nat) : BD := (bN b, n, bHc b, bD b, bPl b, bAs b, bRa b, bHi b)
abbrev bHiS (b : BD) (n : Nat) (h : Nat → Nat) : BD := (bN b, bRc b, n, bD b, bPl b, bAs b, bRa b, h)
abbrev bPlS (b : BD) (k v : Nat) : BD := (bN b, bRc b, bHc b, bD b, va_up (bPl b) k v, bAs b, bRa b, bHi b)
abbrev bAsS (b : BD) (k : Nat) (v : Int32) : BD := (bN b, bRc b, bHc b, bD b, bPl b, va_up (bAs b) k v, bRa b, bHi b)
abbrev bRaS (b : BD) (k v : Nat) : BD := (bN b, bRc b, bHc b, bD b, bPl b, bAs b, va_up (bRa b) k v, bHi b)
/-- a part's data with other pieces, values, prices, days, packs -/
abbrev dPc (D : PD) (n : Nat) : PD := (pMk D, n, D.2.2)
abbrev dVa (D : PD) (j a b : Nat) : PD := (pMk D, pPc D, va_up (pVa D) j a, va_up (pVb D) j b, D.2.2.2.2)
abbrev dPr (D : PD) (n : Nat) (B C K : Nat → Nat) : PD := (pMk D, pPc D, pVa D, pVb D, (n, B, C, K), D.2.2.2.2.2)
abbrev dDy (D : PD) (n : Nat) (B : Nat → Int64) (K : Nat → Nat) : PD := (pMk D, pPc D, pVa D, pVb D, D.2.2.2.2.1, (n, B, K), D.2.2.2.2.2.2)
abbrev dPk (D : PD) (n : Nat) (pk w : Nat → Nat) : PD := (pMk D, pPc D, pVa D, pVb D, D.2.2.2.2.1, D.2.2.2.2.2.1, (n, pk, w))
def D0 (mk : Nat) : PD := (mk, 0, fun _ => 0, fun _ => 0, (0, fun _ => 0, fun _ => 0, fun _ => 0), (0, fun _ => 0, fun _ => 0), (0, fun _ => 0, w_0))
theorem upd_nI {g : Nat → Nat} {j v : Nat} : upd (fun k => nI (g k)) j (nI v) = fun k => nI (va_up g j v k) := by
  funext k
  by_cases h : k = j
  · subst h; simp [upd, va_up]
  · simp [upd, va_up, h]
theorem upd_va {g : Nat → Int32} {j : Nat} {v : Int32} : upd g j v = va_up g j v := by
  funext k
  by_cases h : k = j
  · subst h; simp [upd, va_up]
  · simp [upd, va_up, h]
theorem updL_lN {g : Nat → Nat} {j v : Nat} : vp_updL (fun k => lN (g k)) j (lN v) = fun k => lN (va_up g j v k) := by
  funext k
  by_cases h : k = j
  · subst h; simp [vp_updL, va_up]
  · simp [vp_updL, va_up, h]
theorem updL_va {g : Nat → Int64} {j : Nat} {v : Int64} : vp_updL g j v = va_up g j v := by
  funext k
  by_cases h : k = j
  · subst h; simp [vp_updL, va_up]
  · simp [vp_updL, va_up, h]
theorem up_all {α : Type} {g : Nat → α} {j : Nat} {v : α} {P : Nat → α → Prop} {n : Nat} (h : ∀ k, k < n → P k (g k)) (hv : P j v) : ∀ k, k < n → P k (va_up g j v k) := fun k hk => by
  by_cases h1 : k = j
  · rw [h1, va_up_self]; exact hv
  · rw [va_up_ne _ _ h1]; exact h k hk
/-- the book's own cells have changed, its parts stand -/
theorem bk_six {G : hG} {f u : hm} {x : Nat} {a : AD} {b b' : BD} (h : bk G f x a b) (hE1 : hE [x, aPl a, aAs a, aRa a, aHi a] f u) (h6 : bk6 G u x a b') (hN : bN b' = bN b) (hD : bD b' = bD b) (hok : bOK b') : bk G u x a b' := by
  obtain ⟨⟨b0, b1, b2, b3, b4, b5⟩, hp, hinj, hsi, -⟩ := h
  have hq : ∀ q e, f q = some e → kd e ≠ 3 → kd e ≠ 116 → kd e ≠ 220 → kd e ≠ 104 → kd e ≠ 140 → u q = f q := fun q e he k1 k2 k3 k4 k5 => hE1 q (fun hm => by
    simp only [List.mem_cons, List.not_mem_nil, or_false] at hm
    rcases hm with rfl | rfl | rfl | rfl | rfl
    · rw [b0] at he; cases he; exact k1 rfl
    · rw [b2] at he; cases he; exact k2 rfl
    · rw [b3] at he; cases he; exact k3 rfl
    · rw [b4] at he; cases he; exact k4 rfl
    · rw [b5] at he; cases he; exact k5 rfl)
  refine ⟨h6, fun i hi => ?_, by rw [hN]; exact hinj, by rw [hN]; exact hsi, hok⟩
  rw [hN] at hi
  rw [hD]
  refine pv_congr (hp i hi) (fun k hk => ?_) (fun q hs => ?_)
  · obtain ⟨e, he, h1⟩ := pv_kd (hp i hi) k hk
    exact hq _ e he (by omega) (by omega) (by omega) (by omega) (by omega)
  · exact hq q _ ((hp i hi).2.1 q hs) (by simp [kd]) (by simp [kd]) (by simp [kd]) (by simp [kd]) (by simp [kd])
/-- an index that a check lets pass -/
theorem ix_chk {x : Int32} {n : Nat} (hn : n < 2 ^ 31) : (¬ x < 0 ∧ x < nI n) ↔ ∃ j, j < n ∧ x = nI j := by
  constructor
  · rintro ⟨h1, h2⟩
    rcases pk_ix x hn with z | z | z
    · exact absurd z h1
    · exact absurd z (Int32.not_le.mpr h2)
    · exact z
  · rintro ⟨j, hj, rfl⟩
    exact ⟨nI_pos (by omega), nI_lt hj hn⟩
theorem nu_chk {x lo hi : Int32} {lo' hi' : Int64} (h1 : lo.toInt64 = lo') (h2 : hi.toInt64 = hi') : (lo' ≤ x.toInt64 ∧ x.toInt64 ≤ hi') ↔ (lo ≤ x ∧ x ≤ hi) := by
  subst h1; subst h2
  rw [Int64.le_iff_toInt_le, Int64.le_iff_toInt_le, Int32.le_iff_toInt_le, Int32.le_iff_toInt_le, Int32.toInt_toInt64, Int32.toInt_toInt64, Int32.toInt_toInt64]
theorem nu_nat {x hi : Int32} {n : Nat} (h : 0 ≤ x ∧ x ≤ hi) (hn : hi.toInt = n) : ∃ j, j ≤ n ∧ x = nI j := nI_of2 hn (Int32.not_lt.mpr h.1) h.2
theorem nu_nat1 {x hi : Int32} {n : Nat} (h : 1 ≤ x ∧ x ≤ hi) (hn : hi.toInt = n) : ∃ j, 1 ≤ j ∧ j ≤ n ∧ x = nI j := by
  obtain ⟨j, hj, rfl⟩ := nI_of2 hn (fun z => absurd (Int32.le_trans h.1 (Int32.le_of_lt z)) (by decide)) h.2
  refine ⟨j, Nat.pos_of_ne_zero fun z => ?_, hj, rfl⟩
  subst z
  exact absurd h.1 (by decide)
theorem lu_nat {x hi : Int64} {n : Nat} (h : 0 ≤ x ∧ x ≤ hi) (hn : hi.toInt = n) : ∃ j, j ≤ n ∧ x = lN j := by
  obtain ⟨j, hj, rfl⟩ := pk_lOf (Int64.not_lt.mpr h.1)
  refine ⟨j, ?_, rfl⟩
  have := Int64.le_iff_toInt_le.mp h.2
  rw [pk_lT hj, hn] at this
  omega
theorem lu_nat1 {x hi : Int64} {n : Nat} (h : 1 ≤ x ∧ x ≤ hi) (hn : hi.toInt = n) : ∃ j, 1 ≤ j ∧ j ≤ n ∧ x = lN j := by
  obtain ⟨j, hj, rfl⟩ := lu_nat ⟨Int64.le_trans (by decide) h.1, h.2⟩ hn
  refine ⟨j, Nat.pos_of_ne_zero fun z => ?_, hj, rfl⟩
  subst z
  exact absurd h.1 (by decide)
/-- no index, no number -/
def bad (I N : Prop) (E : String) : Prop := (E = eI ∧ ¬ I) ∨ (E = eA ∧ I ∧ ¬ N)
abbrev okx (x : Int32) (n : Nat) : Prop := ∃ j, j < n ∧ x = nI j
def K_rule (b : BD) (r : Int32) (b1 : BD) : Prop := (bRc b < 10 ∧ r = nI (bRc b) ∧ b1 = bRcS b (bRc b + 1)) ∨ (¬ bRc b < 10 ∧ r = -1 ∧ b1 = b)
def K_found (b : BD) (k : Int32) (r : Int32) : Prop := (∃ j, j < bHc b ∧ k = nI j ∧ r = nI (bHi b j)) ∨ (¬ okx k (bHc b) ∧ r = -1)
def I_rate (c : Int32) : Prop := okx c 4
def N_rate (r : Int64) : Prop := 1 ≤ r ∧ r ≤ 1000000
def K_rate (b : BD) (c : Int32) (x : Int64) (r : Int32) (b1 : BD) : Prop := ∃ j v, j < 4 ∧ c = nI j ∧ 1 ≤ v ∧ v ≤ 1000000 ∧ x = lN v ∧ r = (if bRa b j = v then 0 else 1) ∧ b1 = bRaS b j v
def N_maker (k v : Int32) : Prop := (0 ≤ k ∧ k ≤ 15) ∧ (0 ≤ v ∧ v ≤ 99)
def K_maker (b : BD) (k v r : Int32) (b1 : BD) : Prop := ∃ j w, j < 16 ∧ k = nI j ∧ w ≤ 99 ∧ v = nI w ∧ r = (if bPl b j = w then 0 else 1) ∧ b1 = bPlS b j w
def I_ask (b : BD) (q n : Int32) : Prop := okx q (bRc b) ∧ okx n 12
def N_ask (h : Int32) : Prop := -1 ≤ h ∧ h ≤ 2
def K_ask (b : BD) (q n h r : Int32) (b1 : BD) : Prop := ∃ i j, i < bRc b ∧ q = nI i ∧ j < 12 ∧ n = nI j ∧ (h = -1 ∨ h = 0 ∨ h = 1 ∨ h = 2) ∧ r = (if bAs b (i * 12 + j) = h then 0 else 1) ∧ b1 = bAsS b (i * 12 + j) h
def N_stock (n : Int32) : Prop := 0 ≤ n ∧ n ≤ 20000
def K_stock (b : BD) (p n r : Int32) (b1 : BD) : Prop := ∃ i m, i < bN b ∧ p = nI i ∧ m ≤ 20000 ∧ n = nI m ∧ r = (if pPc (bD b i) = m then 0 else 1) ∧ b1 = bSet b i (dPc (bD b i) m)
def I_told (b : BD) (p n w : Int32) : Prop := okx p (bN b) ∧ okx n 12 ∧ okx w 2
def K_told (b : BD) (p n w : Int32) (r : Int64) : Prop := ∃ i j k, i < bN b ∧ p = nI i ∧ j < 12 ∧ n = nI j ∧ k < 2 ∧ w = nI k ∧ r = (if pVb (bD b i) j = 0 then -1 else if k = 0 then lN (pVa (bD b i) j) else lN (pVb (bD b i) j))
/-- the state on a day: that of the last beginning not behind it -/
def stD (D : PD) (d : Int64) (r : Nat) : Prop := ∃ k, k ≤ pN2 D ∧ (∀ j, j < k → pB2 D j ≤ d) ∧ (k < pN2 D → ¬ pB2 D k ≤ d) ∧ r = (if k = 0 then 0 else pK2 D (k - 1))
def K_state (b : BD) (p : Int32) (d : Int64) (r : Int32) : Prop := ∃ i v, i < bN b ∧ p = nI i ∧ stD (bD b i) d v ∧ r = nI v
def N_part (k : Int32) : Prop := 0 ≤ k ∧ k ≤ 15
def bAdd (b : BD) (mk : Nat) : BD := (bN b + 1, bRc b, bHc b, va_up (bD b) (bN b) (D0 mk), bPl b, bAs b, bRa b, bHi b)
def K_part (b : BD) (k r : Int32) (b1 : BD) : Prop := ∃ mk, mk < 16 ∧ k = nI mk ∧ ((bN b < 40 ∧ r = nI (bN b) ∧ b1 = bAdd b mk) ∨ (¬ bN b < 40 ∧ r = -1 ∧ b1 = b))
def I_pn (b : BD) (p n : Int32) : Prop := okx p (bN b) ∧ okx n 12
def N_value (x y : Int64) (un : Int32) : Prop := fr x y ∧ (-9 ≤ un ∧ un ≤ 9)
/-- the value with its unit, not yet in lowest terms -/
def uA (a : Nat) (un : Int32) : Nat := if 0 < un then a * 10 ^ un.toInt.toNat else a
def uB (c : Nat) (un : Int32) : Nat := if un < 0 then c * 10 ^ (-un.toInt).toNat else c
def K_value (b : BD) (p n : Int32) (x y : Int64) (un r : Int32) (b1 : BD) : Prop := ∃ i j a c A B, i < bN b ∧ p = nI i ∧ j < 12 ∧ n = nI j ∧ a ≤ 1000000000 ∧ x = lN a ∧ 1 ≤ c ∧ c ≤ 1000000 ∧ y = lN c ∧ A = uA a un / Nat.gcd (uA a un) (uB c un) ∧ B = uB c un / Nat.gcd (uA a un) (uB c un) ∧ r = (if pVa (bD b i) j = A ∧ pVb (bD b i) j = B then 0 else 1) ∧ b1 = bSet b i (dVa (bD b i) j A B)
