/-! The reference: rows of prices, days, packs, values that change. -/
theorem bD_8 {b : BD} (hok : bOK b) (h0 : ∀ i, bN b ≤ i → bD b i = D0 0) (i : Nat) : pN1 (bD b i) ≤ 8 ∧ pN2 (bD b i) ≤ 8 ∧ pNp (bD b i) ≤ 6 := by
  rcases Nat.lt_or_ge i (bN b) with z | z
  · exact (hok.2.1 i z).1.2.2
  · rw [h0 i z]; exact ⟨Nat.zero_le _, Nat.zero_le _, Nat.zero_le _⟩
theorem srt_inj {n : Nat} {B : Nat → Nat} (h : ∀ i j, i < j → j < n → B i < B j) : ∀ i j, i < n → j < n → B i = B j → i = j := fun i j hi hj e => by
  rcases Nat.lt_trichotomy i j with z | z | z
  · have := h i j z hj; omega
  · exact z
  · have := h j i z hi; omega
theorem srt_injL {n : Nat} {B : Nat → Int64} (h : ∀ i j, i < j → j < n → B i < B j) : ∀ i j, i < n → j < n → B i = B j → i = j := fun i j hi hj e => by
  rcases Nat.lt_trichotomy i j with z | z | z
  · have := h i j z hj; rw [e] at this; exact (Int64.lt_irrefl this).elim
  · exact z
  · have := h j i z hi; rw [e] at this; exact (Int64.lt_irrefl this).elim
theorem telP_found {D D1 : PD} {x y z : Nat} {r0 : Int32} (h : telP D x y z r0 D1) (hD : pOK D) {kk : Nat} (hk : kk < pN1 D) (he : pB1 D kk = x) : r0 = (if pC1 D kk = y ∧ pK1 D kk = z then 0 else 1) ∧ D1 = dPr D (pN1 D) (pB1 D) (va_up (pC1 D) kk y) (va_up (pK1 D) kk z) := by
  have hs := hD.2.2.2.1
  obtain ⟨k, ⟨h1, h2, h3⟩, h4⟩ := h
  have hlt : kk < k := Nat.lt_of_not_le fun w => by
    have h5 := h3 (by omega)
    rcases Nat.lt_or_ge k kk with v | v
    · have := hs k kk v hk; omega
    · exact h5 (by rw [show k = kk by omega]; omega)
  have hk1 : kk = k - 1 := Nat.le_antisymm (by omega) (Nat.le_of_not_lt fun w => by
    have := hs kk (k - 1) w (by omega)
    have := h2 (k - 1) (by omega)
    omega)
  rcases h4 with ⟨j, rfl, e1, e2, e3⟩ | ⟨e1, -⟩ | ⟨e1, -⟩
  · have : kk = j := by omega
    subst this
    exact ⟨e2, e3⟩
  · rcases e1 with e1 | e1
    · omega
    · exact absurd (hk1 ▸ he) e1
  · rcases e1 with e1 | e1
    · omega
    · exact absurd (hk1 ▸ he) e1
theorem telP_new {D D1 : PD} {x y z : Nat} {r0 : Int32} (h : telP D x y z r0 D1) (hno : ∀ k, k < pN1 D → pB1 D k ≠ x) : (pN1 D = 8 ∧ r0 = 0 ∧ D1 = D) ∨ (pN1 D < 8 ∧ r0 = 1 ∧ ∃ k, k ≤ pN1 D ∧ D1 = dPr D (pN1 D + 1) (ins (pB1 D) k (pN1 D) x) (ins (pC1 D) k (pN1 D) y) (ins (pK1 D) k (pN1 D) z)) := by
  obtain ⟨k, ⟨h1, h2, h3⟩, h4⟩ := h
  rcases h4 with ⟨j, rfl, e1, e2, e3⟩ | ⟨-, e2⟩ | ⟨-, e2, e3, e4⟩
  · exact absurd e1 (hno j (by omega))
  · exact Or.inl e2
  · exact Or.inr ⟨e2, e3, k, h1, e4⟩
theorem telD_found {D D1 : PD} {x : Int64} {z : Nat} {r0 : Int32} (h : telD D x z r0 D1) (hD : pOK D) {kk : Nat} (hk : kk < pN2 D) (he : pB2 D kk = x) : r0 = (if pK2 D kk = z then 0 else 1) ∧ D1 = dDy D (pN2 D) (pB2 D) (va_up (pK2 D) kk z) := by
  have hs := hD.2.2.2.2.2.1
  obtain ⟨k, ⟨h1, h2, h3⟩, h4⟩ := h
  have hlt : kk < k := Nat.lt_of_not_le fun w => by
    have h5 := h3 (by omega)
    rcases Nat.lt_or_ge k kk with v | v
    · have h6 := hs k kk v hk; rw [he] at h6; exact h5 (Int64.le_of_lt h6)
    · exact h5 (by rw [show k = kk by omega, he]; exact Int64.le_refl _)
  have hk1 : kk = k - 1 := Nat.le_antisymm (by omega) (Nat.le_of_not_lt fun w => by
    have h5 := hs kk (k - 1) w (by omega)
    have h6 := h2 (k - 1) (by omega)
    rw [he] at h5
    exact absurd h6 (Int64.not_le.mpr h5))
  rcases h4 with ⟨j, rfl, e1, e2, e3⟩ | ⟨e1, -⟩ | ⟨e1, -⟩
  · have : kk = j := by omega
    subst this
    exact ⟨e2, e3⟩
  · rcases e1 with e1 | e1
    · omega
    · exact absurd (hk1 ▸ he) e1
  · rcases e1 with e1 | e1
    · omega
    · exact absurd (hk1 ▸ he) e1
theorem telD_new {D D1 : PD} {x : Int64} {z : Nat} {r0 : Int32} (h : telD D x z r0 D1) (hno : ∀ k, k < pN2 D → pB2 D k ≠ x) : (pN2 D = 8 ∧ r0 = 0 ∧ D1 = D) ∨ (pN2 D < 8 ∧ r0 = 1 ∧ ∃ k, k ≤ pN2 D ∧ D1 = dDy D (pN2 D + 1) (ins (pB2 D) k (pN2 D) x) (ins (pK2 D) k (pN2 D) z)) := by
  obtain ⟨k, ⟨h1, h2, h3⟩, h4⟩ := h
  rcases h4 with ⟨j, rfl, e1, e2, e3⟩ | ⟨-, e2⟩ | ⟨-, e2, e3, e4⟩
  · exact absurd e1 (hno j (by omega))
  · exact Or.inl e2
  · exact Or.inr ⟨e2, e3, k, h1, e4⟩
theorem up_pair {α β : Type} (C : Nat → α) (K : Nat → β) (k : Nat) (c9 : α) (z : β) : va_up (fun j => (C j, K j)) k (c9, z) = fun j => (va_up C k c9 j, va_up K k z j) := by
  funext j
  by_cases e : j = k
  · rw [e, va_up_self, va_up_self, va_up_self]
  · rw [va_up_ne _ _ e, va_up_ne _ _ e, va_up_ne _ _ e]
theorem ins_pair {α β : Type} (C : Nat → α) (K : Nat → β) (k n : Nat) (c9 : α) (z : β) : ins (fun j => (C j, K j)) k n (c9, z) = fun j => (ins C k n c9 j, ins K k n z j) := by
  unfold ins
  rw [show sh (fun j => (C j, K j)) k n = fun j => (sh C k n j, sh K k n j) from funext fun j => by
    unfold sh
    by_cases h : k < j ∧ j ≤ n
    · rw [if_pos h, if_pos h, if_pos h]
    · rw [if_neg h, if_neg h, if_neg h]]
  exact up_pair _ _ _ _ _
theorem mRp_off {D : PD} {i i2 j : Nat} {PC PF : Nat → Int32} {PT : Nat → Int64} {PU : Nat → Int32} (h : mRp D i PC PF PT PU) (h8 : pN1 D ≤ 8) (hj : j < 8) (hne : i ≠ i2) (x : Int32) (y : Int64) (z : Int32) : mRp D i PC (upd PF (8 * i2 + j) x) (vp_updL PT (8 * i2 + j) y) (upd PU (8 * i2 + j) z) := by
  obtain ⟨h1, B', C', K', h2, h3⟩ := h
  exact ⟨h1, B', C', K', h2, fun k hk => by rw [pk_un (by omega), pk_uLn (by omega), pk_un (by omega)]; exact h3 k hk⟩
theorem mRp_pc {D : PD} {i i2 : Nat} {PC PF : Nat → Int32} {PT : Nat → Int64} {PU : Nat → Int32} (h : mRp D i PC PF PT PU) (hne : i ≠ i2) (x : Int32) : mRp D i (upd PC i2 x) PF PT PU := by
  obtain ⟨h1, h2⟩ := h
  exact ⟨(pk_un hne).trans h1, h2⟩
theorem mRp_set {D : PD} (hD : pOK D) {i j kk : Nat} {PC PF : Nat → Int32} {PT : Nat → Int64} {PU : Nat → Int32} {B' C' K' : Nat → Nat} (h1 : PC i = nI (pN1 D)) (h2 : row (pN1 D) (pB1 D) (fun j => (pC1 D j, pK1 D j)) B' (fun j => (C' j, K' j))) (h3 : ∀ j, j < pN1 D → PF (8 * i + j) = nI (B' j) ∧ PT (8 * i + j) = lN (C' j) ∧ PU (8 * i + j) = nI (K' j)) (hj : j < pN1 D) (hk : kk < pN1 D) (e : B' j = pB1 D kk) (x y z : Nat) (hx : B' j = x) : mRp (dPr D (pN1 D) (pB1 D) (va_up (pC1 D) kk y) (va_up (pK1 D) kk z)) i PC (upd PF (8 * i + j) (nI x)) (vp_updL PT (8 * i + j) (lN y)) (upd PU (8 * i + j) (nI z)) := by
  have g := row_set h2 (srt_inj hD.2.2.2.1) hk hj e (y, z)
  rw [up_pair, up_pair] at g
  refine ⟨h1, B', va_up C' j y, va_up K' j z, g, fun j2 hj2 => ?_⟩
  by_cases e2 : j2 = j
  · rw [e2, pk_us, pk_uLs, pk_us, va_up_self, va_up_self, hx]; exact ⟨rfl, rfl, rfl⟩
  · rw [pk_un (by omega), pk_uLn (by omega), pk_un (by omega), va_up_ne _ _ e2, va_up_ne _ _ e2]; exact h3 j2 hj2
theorem mRp_new {D : PD} {i k : Nat} {PC PF : Nat → Int32} {PT : Nat → Int64} {PU : Nat → Int32} {B' C' K' : Nat → Nat} (h2 : row (pN1 D) (pB1 D) (fun j => (pC1 D j, pK1 D j)) B' (fun j => (C' j, K' j))) (h3 : ∀ j, j < pN1 D → PF (8 * i + j) = nI (B' j) ∧ PT (8 * i + j) = lN (C' j) ∧ PU (8 * i + j) = nI (K' j)) (hk : k ≤ pN1 D) (x y z : Nat) (hx : ∀ j, j < pN1 D → B' j ≠ x) : mRp (dPr D (pN1 D + 1) (ins (pB1 D) k (pN1 D) x) (ins (pC1 D) k (pN1 D) y) (ins (pK1 D) k (pN1 D) z)) i (upd PC i (nI (pN1 D + 1))) (upd PF (8 * i + pN1 D) (nI x)) (vp_updL PT (8 * i + pN1 D) (lN y)) (upd PU (8 * i + pN1 D) (nI z)) := by
  have g := row_add h2 hk hx (y, z)
  rw [ins_pair, up_pair] at g
  refine ⟨pk_us, va_up B' (pN1 D) x, va_up C' (pN1 D) y, va_up K' (pN1 D) z, g, fun j2 hj2 => ?_⟩
  replace hj2 : j2 < pN1 D + 1 := hj2
  by_cases e2 : j2 = pN1 D
  · rw [e2, pk_us, pk_uLs, pk_us, va_up_self, va_up_self, va_up_self]; exact ⟨rfl, rfl, rfl⟩
  · rw [pk_un (by omega), pk_uLn (by omega), pk_un (by omega), va_up_ne _ _ e2, va_up_ne _ _ e2, va_up_ne _ _ e2]; exact h3 j2 (by omega)
theorem mRd_off {D : PD} {i i2 j : Nat} {DC : Nat → Int32} {DY : Nat → Int64} {DS : Nat → Int32} (h : mRd D i DC DY DS) (h8 : pN2 D ≤ 8) (hj : j < 8) (hne : i ≠ i2) (y : Int64) (z : Int32) : mRd D i DC (vp_updL DY (8 * i2 + j) y) (upd DS (8 * i2 + j) z) := by
  obtain ⟨h1, K', ⟨g1, g2, g3⟩, h3⟩ := h
  have e : ∀ k, k < pN2 D → vp_updL DY (8 * i2 + j) y (8 * i + k) = DY (8 * i + k) := fun k hk => pk_uLn (by omega)
  refine ⟨h1, K', ⟨fun k hk => ?_, fun k hk => ?_, fun k k2 hk hk2 he => ?_⟩, fun k hk => by rw [pk_un (by omega)]; exact h3 k hk⟩
  · obtain ⟨k2, a1, a2, a3⟩ := g1 k hk
    exact ⟨k2, a1, (e k hk).trans a2, a3⟩
  · obtain ⟨k2, a1, a2, a3⟩ := g2 k hk
    exact ⟨k2, a1, (e k2 a1).trans a2, a3⟩
  · exact g3 k k2 hk hk2 ((e k hk).symm.trans (he.trans (e k2 hk2)))
theorem mRd_dc {D : PD} {i i2 : Nat} {DC : Nat → Int32} {DY : Nat → Int64} {DS : Nat → Int32} (h : mRd D i DC DY DS) (hne : i ≠ i2) (x : Int32) : mRd D i (upd DC i2 x) DY DS := by
  obtain ⟨h1, h2⟩ := h
  exact ⟨(pk_un hne).trans h1, h2⟩
theorem row_eq {α β : Type} {n : Nat} {B : Nat → α} {V : Nat → β} {B' B'' : Nat → α} {V' : Nat → β} (h : row n B V B' V') (e : ∀ j, j < n → B'' j = B' j) : row n B V B'' V' :=
  ⟨fun j hj => by rw [e j hj]; exact h.1 j hj, fun k hk => by
    obtain ⟨j, h1, h2, h3⟩ := h.2.1 k hk
    exact ⟨j, h1, (e j h1).trans h2, h3⟩, fun j j' hj hj' he => h.2.2 j j' hj hj' (by rw [← e j hj, ← e j' hj']; exact he)⟩
theorem mRd_set {D : PD} (hD : pOK D) {i j kk : Nat} {DC : Nat → Int32} {DY : Nat → Int64} {DS : Nat → Int32} {K' : Nat → Nat} (h1 : DC i = nI (pN2 D)) (h2 : row (pN2 D) (pB2 D) (pK2 D) (fun j => DY (8 * i + j)) K') (h3 : ∀ j, j < pN2 D → DS (8 * i + j) = nI (K' j)) (hj : j < pN2 D) (hk : kk < pN2 D) (e : DY (8 * i + j) = pB2 D kk) (x : Int64) (z : Nat) (hx : DY (8 * i + j) = x) : mRd (dDy D (pN2 D) (pB2 D) (va_up (pK2 D) kk z)) i DC (vp_updL DY (8 * i + j) x) (upd DS (8 * i + j) (nI z)) := by
  have g := row_set h2 (srt_injL hD.2.2.2.2.2.1) hk hj e z
  refine ⟨h1, va_up K' j z, row_eq g (fun j2 hj2 => by rw [updL_va, up_id hx]), fun j2 hj2 => ?_⟩
  by_cases e2 : j2 = j
  · rw [e2, pk_us, va_up_self]
  · rw [pk_un (by omega), va_up_ne _ _ e2]; exact h3 j2 hj2
theorem mRd_new {D : PD} {i k : Nat} {DC : Nat → Int32} {DY : Nat → Int64} {DS : Nat → Int32} {K' : Nat → Nat} (h2 : row (pN2 D) (pB2 D) (pK2 D) (fun j => DY (8 * i + j)) K') (h3 : ∀ j, j < pN2 D → DS (8 * i + j) = nI (K' j)) (hk : k ≤ pN2 D) (x : Int64) (z : Nat) (hx : ∀ j, j < pN2 D → DY (8 * i + j) ≠ x) : mRd (dDy D (pN2 D + 1) (ins (pB2 D) k (pN2 D) x) (ins (pK2 D) k (pN2 D) z)) i (upd DC i (nI (pN2 D + 1))) (vp_updL DY (8 * i + pN2 D) x) (upd DS (8 * i + pN2 D) (nI z)) := by
  have g := row_add h2 hk hx z
  refine ⟨pk_us, va_up K' (pN2 D) z, row_eq g (fun j2 hj2 => ?_), fun j2 hj2 => ?_⟩
  · by_cases e2 : j2 = pN2 D
    · rw [e2, pk_uLs, va_up_self]
    · rw [pk_uLn (by omega), va_up_ne _ _ e2]
  · replace hj2 : j2 < pN2 D + 1 := hj2
    by_cases e2 : j2 = pN2 D
    · rw [e2, pk_us, va_up_self]
    · rw [pk_un (by omega), va_up_ne _ _ e2]; exact h3 j2 (by omega)
theorem mR_prc {b : BD} {MK : Nat → Int32} {PL : Nat → Int32} {AB : Nat → Int64} {BE : Nat → Int64} {AS : Nat → Int32} {FP : Nat → Int32} {PC : Nat → Int32} {PF : Nat → Int32} {PT : Nat → Int64} {PU : Nat → Int32} {RA : Nat → Int64} {KC : Nat → Int32} {PK : Nat → Int32} {ST : Nat → Int32} {DC : Nat → Int32} {DY : Nat → Int64} {DS : Nat → Int32} (h : mR b MK PL AB BE AS FP PC PF PT PU RA KC PK ST DC DY DS) {PC9 PF9 : Nat → Int32} {PT9 : Nat → Int64} {PU9 : Nat → Int32} {i n : Nat} {B C K : Nat → Nat} (hi : i < bN b) (hN : bN b ≤ 40) (hn : mRp (dPr (bD b i) n B C K) i PC9 PF9 PT9 PU9) (ho : ∀ k, k < 40 → k ≠ i → mRp (bD b k) k PC9 PF9 PT9 PU9) : mR (bSet b i (dPr (bD b i) n B C K)) MK PL AB BE AS FP PC9 PF9 PT9 PU9 RA KC PK ST DC DY DS := by
  obtain ⟨⟨h1, h2, h3, h4, h5⟩, hv, hs, hp, hk, hd⟩ := h
  exact ⟨⟨h1, h2, h3, h4, set_0 h5 hi⟩, set_D (P := fun k D => mRv D k MK AB BE) (fun k hk9 _ => hv k hk9) (hv i hi), set_D (P := fun k D => ST k = nI (pPc D)) (fun k hk9 _ => hs k hk9) (hs i (by omega)), set_D (P := fun k D => mRp D k PC9 PF9 PT9 PU9) ho hn, set_D (P := fun k D => mRk D k KC PK) (fun k hk9 _ => hk k hk9) (hk i (by omega)), set_D (P := fun k D => mRd D k DC DY DS) (fun k hk9 _ => hd k hk9) (hd i (by omega))⟩
theorem mR_dyc {b : BD} {MK : Nat → Int32} {PL : Nat → Int32} {AB : Nat → Int64} {BE : Nat → Int64} {AS : Nat → Int32} {FP : Nat → Int32} {PC : Nat → Int32} {PF : Nat → Int32} {PT : Nat → Int64} {PU : Nat → Int32} {RA : Nat → Int64} {KC : Nat → Int32} {PK : Nat → Int32} {ST : Nat → Int32} {DC : Nat → Int32} {DY : Nat → Int64} {DS : Nat → Int32} (h : mR b MK PL AB BE AS FP PC PF PT PU RA KC PK ST DC DY DS) {DC9 : Nat → Int32} {DY9 : Nat → Int64} {DS9 : Nat → Int32} {i n : Nat} {B : Nat → Int64} {K : Nat → Nat} (hi : i < bN b) (hN : bN b ≤ 40) (hn : mRd (dDy (bD b i) n B K) i DC9 DY9 DS9) (ho : ∀ k, k < 40 → k ≠ i → mRd (bD b k) k DC9 DY9 DS9) : mR (bSet b i (dDy (bD b i) n B K)) MK PL AB BE AS FP PC PF PT PU RA KC PK ST DC9 DY9 DS9 := by
  obtain ⟨⟨h1, h2, h3, h4, h5⟩, hv, hs, hp, hk, hd⟩ := h
  exact ⟨⟨h1, h2, h3, h4, set_0 h5 hi⟩, set_D (P := fun k D => mRv D k MK AB BE) (fun k hk9 _ => hv k hk9) (hv i hi), set_D (P := fun k D => ST k = nI (pPc D)) (fun k hk9 _ => hs k hk9) (hs i (by omega)), set_D (P := fun k D => mRp D k PC PF PT PU) (fun k hk9 _ => hp k hk9) (hp i (by omega)), set_D (P := fun k D => mRk D k KC PK) (fun k hk9 _ => hk k hk9) (hk i (by omega)), set_D (P := fun k D => mRd D k DC9 DY9 DS9) ho hn⟩
theorem mR_pkc {b : BD} {MK : Nat → Int32} {PL : Nat → Int32} {AB : Nat → Int64} {BE : Nat → Int64} {AS : Nat → Int32} {FP : Nat → Int32} {PC : Nat → Int32} {PF : Nat → Int32} {PT : Nat → Int64} {PU : Nat → Int32} {RA : Nat → Int64} {KC : Nat → Int32} {PK : Nat → Int32} {ST : Nat → Int32} {DC : Nat → Int32} {DY : Nat → Int64} {DS : Nat → Int32} (h : mR b MK PL AB BE AS FP PC PF PT PU RA KC PK ST DC DY DS) {i t : Nat} {w : Nat → Nat} (hi : i < bN b) (hN : bN b ≤ 40) (h6 : pNp (bD b i) < 6) (hall : ∀ k, pNp (bD b k) ≤ 6) : mR (bSet b i (dPk (bD b i) (pNp (bD b i) + 1) (va_up (pPk (bD b i)) (pNp (bD b i)) t) w)) MK PL AB BE AS FP PC PF PT PU RA (upd KC i (nI (pNp (bD b i) + 1))) (upd PK (6 * i + pNp (bD b i)) (nI t)) ST DC DY DS := by
  obtain ⟨⟨h1, h2, h3, h4, h5⟩, hv, hs, hp, hk, hd⟩ := h
  refine ⟨⟨h1, h2, h3, h4, set_0 h5 hi⟩, set_D (P := fun k D => mRv D k MK AB BE) (fun k hk9 _ => hv k hk9) (hv i hi), set_D (P := fun k D => ST k = nI (pPc D)) (fun k hk9 _ => hs k hk9) (hs i (by omega)), set_D (P := fun k D => mRp D k PC PF PT PU) (fun k hk9 _ => hp k hk9) (hp i (by omega)), set_D (P := fun k D => mRk D k _ _) (fun k hk9 e => ?_) ?_, set_D (P := fun k D => mRd D k DC DY DS) (fun k hk9 _ => hd k hk9) (hd i (by omega))⟩
  · obtain ⟨g1, g2⟩ := hk k hk9
    have := hall k
    exact ⟨(pk_un e).trans g1, fun j hj => (pk_un (by omega)).trans (g2 j hj)⟩
  · obtain ⟨g1, g2⟩ := hk i (by omega)
    refine ⟨pk_us, fun j hj => ?_⟩
    replace hj : j < pNp (bD b i) + 1 := hj
    show _ = nI (va_up (pPk (bD b i)) (pNp (bD b i)) t j)
    by_cases e : j = pNp (bD b i)
    · rw [e, pk_us, va_up_self]
    · rw [pk_un (by omega), va_up_ne _ _ e]; exact g2 j (by omega)
theorem mR_val {b : BD} {MK : Nat → Int32} {PL : Nat → Int32} {AB : Nat → Int64} {BE : Nat → Int64} {AS : Nat → Int32} {FP : Nat → Int32} {PC : Nat → Int32} {PF : Nat → Int32} {PT : Nat → Int64} {PU : Nat → Int32} {RA : Nat → Int64} {KC : Nat → Int32} {PK : Nat → Int32} {ST : Nat → Int32} {DC : Nat → Int32} {DY : Nat → Int64} {DS : Nat → Int32} (h : mR b MK PL AB BE AS FP PC PF PT PU RA KC PK ST DC DY DS) {i n A B : Nat} (hi : i < bN b) (hN : bN b ≤ 40) (hn : n < 12) (hB : B ≠ 0) : mR (bSet b i (dVa (bD b i) n A B)) MK PL (vp_updL AB (12 * i + n) (lN A)) (vp_updL BE (12 * i + n) (lN B)) AS FP PC PF PT PU RA KC PK ST DC DY DS := by
  obtain ⟨⟨h1, h2, h3, h4, h5⟩, hv, hs, hp, hk, hd⟩ := h
  refine ⟨⟨h1, h2, h3, h4, set_0 h5 hi⟩, set_D (P := fun k D => mRv D k MK _ _) (fun k hk9 e => ?_) ?_, set_D (P := fun k D => ST k = nI (pPc D)) (fun k hk9 _ => hs k hk9) (hs i (by omega)), set_D (P := fun k D => mRp D k PC PF PT PU) (fun k hk9 _ => hp k hk9) (hp i (by omega)), set_D (P := fun k D => mRk D k KC PK) (fun k hk9 _ => hk k hk9) (hk i (by omega)), set_D (P := fun k D => mRd D k DC DY DS) (fun k hk9 _ => hd k hk9) (hd i (by omega))⟩
  · obtain ⟨g1, g2⟩ := hv k hk9
    exact ⟨g1, fun j hj => by rw [pk_uLn (by omega), pk_uLn (by omega)]; exact g2 j hj⟩
  · obtain ⟨g1, g2⟩ := hv i hi
    refine ⟨g1, fun j hj => ?_⟩
    show (_ = if va_up (pVb (bD b i)) n B j = 0 then -1 else lN (va_up (pVa (bD b i)) n A j)) ∧ (va_up (pVb (bD b i)) n B j ≠ 0 → _ = lN (va_up (pVb (bD b i)) n B j))
    by_cases e : j = n
    · rw [e, pk_uLs, pk_uLs, va_up_self, va_up_self, if_neg hB]; exact ⟨rfl, fun _ => rfl⟩
    · rw [pk_uLn (by omega), pk_uLn (by omega), va_up_ne _ _ e, va_up_ne _ _ e]; exact g2 j hj
theorem st_row {D : PD} (hD : pOK D) {d : Int64} {Y : Nat → Int64} {K' : Nat → Nat} (h : row (pN2 D) (pB2 D) (pK2 D) Y K') : ((∀ j, j < pN2 D → ¬ Y j ≤ d) → stD D d 0) ∧ (∀ jb, jb < pN2 D → Y jb ≤ d → (∀ j, j < pN2 D → Y j ≤ d → Y j ≤ Y jb) → stD D d (K' jb)) := by
  have hs := hD.2.2.2.2.2.1
  refine ⟨fun hno => ⟨0, Nat.zero_le _, fun j hj => absurd hj (Nat.not_lt_zero _), fun h0 hle => ?_, rfl⟩, fun jb hjb hle hmx => ?_⟩
  · obtain ⟨j, h1, h2, -⟩ := h.2.1 0 h0
    exact hno j h1 (h2 ▸ hle)
  · obtain ⟨k, h1, h2, h3⟩ := h.1 jb hjb
    refine ⟨k + 1, h1, fun j hj => ?_, fun hk hle2 => ?_, by rw [if_neg (by omega)]; exact h3⟩
    · rcases Nat.lt_or_ge j k with z | z
      · exact Int64.le_trans (Int64.le_of_lt (hs j k z h1)) (h2 ▸ hle)
      · rw [show j = k by omega, ← h2]; exact hle
    · obtain ⟨j, g1, g2, -⟩ := h.2.1 (k + 1) hk
      have g3 := hmx j g1 (g2 ▸ hle2)
      rw [g2, h2] at g3
      exact absurd (hs k (k + 1) (by omega) hk) (Int64.not_lt.mpr g3)
