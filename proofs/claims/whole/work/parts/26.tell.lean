/-! Rows of prices and days: a row set or put in its place; a part's data with one thing changed. -/
theorem sh_f {α β : Type} (F : α → β) (g : Nat → α) (k n : Nat) : sh (fun j => F (g j)) k n = fun j => F (sh g k n j) := by
  funext j
  unfold sh
  by_cases h : k < j ∧ j ≤ n
  · rw [if_pos h, if_pos h]
  · rw [if_neg h, if_neg h]
/-- the row's place among beginnings that rise -/
def pl_ {α : Type} (le : α → α → Prop) (n : Nat) (B : Nat → α) (x : α) (k : Nat) : Prop := k ≤ n ∧ (∀ j, j < k → le (B j) x) ∧ (k < n → ¬ le (B k) x)
def ins {α : Type} (g : Nat → α) (k n : Nat) (x : α) : Nat → α := va_up (sh g k n) k x
theorem ins_lt {α : Type} {g : Nat → α} {k n : Nat} {x : α} {j : Nat} (h : j < k) : ins g k n x j = g j := by
  unfold ins sh; rw [va_up_ne _ _ (by omega), if_neg (by omega)]
theorem ins_eq {α : Type} {g : Nat → α} {k n : Nat} {x : α} : ins g k n x k = x := va_up_self _ _ _
theorem ins_gt {α : Type} {g : Nat → α} {k n : Nat} {x : α} {j : Nat} (h : k < j) (h2 : j ≤ n) : ins g k n x j = g (j - 1) := by
  unfold ins sh; rw [va_up_ne _ _ (by omega), if_pos ⟨h, h2⟩]
theorem ins_all {α : Type} {g : Nat → α} {k n : Nat} {x : α} {P : α → Prop} (hk : k ≤ n) (h : ∀ j, j < n → P (g j)) (hx : P x) : ∀ j, j < n + 1 → P (ins g k n x j) := fun j hj => by
  rcases Nat.lt_trichotomy j k with h1 | h1 | h1
  · rw [ins_lt h1]; exact h j (by omega)
  · rw [h1, ins_eq]; exact hx
  · rw [ins_gt h1 (by omega)]; exact h _ (by omega)
theorem ins_srt {α : Type} {lt : α → α → Prop} {B : Nat → α} {n k : Nat} {x : α} (hk : k ≤ n) (hs : ∀ i j, i < j → j < n → lt (B i) (B j)) (h1 : ∀ j, j < k → lt (B j) x) (h2 : ∀ j, k ≤ j → j < n → lt x (B j)) : ∀ i j, i < j → j < n + 1 → lt (ins B k n x i) (ins B k n x j) := fun i j hij hj => by
  rcases Nat.lt_trichotomy i k with c1 | c1 | c1
  · rw [ins_lt c1]
    rcases Nat.lt_trichotomy j k with c2 | c2 | c2
    · rw [ins_lt c2]; exact hs i j hij (by omega)
    · rw [c2, ins_eq]; exact h1 i c1
    · rw [ins_gt c2 (by omega)]
      by_cases c3 : i = j - 1
      · omega
      · exact hs i (j - 1) (by omega) (by omega)
  · subst c1
    rw [ins_eq, ins_gt hij (by omega)]
    exact h2 (j - 1) (by omega) (by omega)
  · rw [ins_gt c1 (by omega), ins_gt (by omega) (by omega)]
    exact hs (i - 1) (j - 1) (by omega) (by omega)
theorem up_id {α : Type} {g : Nat → α} {j : Nat} {v : α} (h : g j = v) : va_up g j v = g := by
  funext k
  by_cases hk : k = j
  · rw [hk, va_up_self]; exact h.symm
  · rw [va_up_ne _ _ hk]
def telP (D : PD) (x y z : Nat) (r : Int32) (D1 : PD) : Prop := ∃ k, pl_ (· ≤ ·) (pN1 D) (pB1 D) x k ∧
  ((∃ j, k = j + 1 ∧ pB1 D j = x ∧ r = (if pC1 D j = y ∧ pK1 D j = z then 0 else 1) ∧ D1 = dPr D (pN1 D) (pB1 D) (va_up (pC1 D) j y) (va_up (pK1 D) j z)) ∨ ((k = 0 ∨ pB1 D (k - 1) ≠ x) ∧ pN1 D = 8 ∧ r = 0 ∧ D1 = D) ∨ ((k = 0 ∨ pB1 D (k - 1) ≠ x) ∧ pN1 D < 8 ∧ r = 1 ∧ D1 = dPr D (pN1 D + 1) (ins (pB1 D) k (pN1 D) x) (ins (pC1 D) k (pN1 D) y) (ins (pK1 D) k (pN1 D) z)))
def telD (D : PD) (x : Int64) (z : Nat) (r : Int32) (D1 : PD) : Prop := ∃ k, pl_ (· ≤ ·) (pN2 D) (pB2 D) x k ∧
  ((∃ j, k = j + 1 ∧ pB2 D j = x ∧ r = (if pK2 D j = z then 0 else 1) ∧ D1 = dDy D (pN2 D) (pB2 D) (va_up (pK2 D) j z)) ∨ ((k = 0 ∨ pB2 D (k - 1) ≠ x) ∧ pN2 D = 8 ∧ r = 0 ∧ D1 = D) ∨ ((k = 0 ∨ pB2 D (k - 1) ≠ x) ∧ pN2 D < 8 ∧ r = 1 ∧ D1 = dDy D (pN2 D + 1) (ins (pB2 D) k (pN2 D) x) (ins (pK2 D) k (pN2 D) z)))
theorem telP_ok {D D1 : PD} {x y z : Nat} {r : Int32} (h : telP D x y z r D1) (hD : pOK D) (hx : 1 ≤ x ∧ x ≤ 10000) (hy : 1 ≤ y ∧ y ≤ 1000000) (hz : z < 4) : pOK D1 := by
  obtain ⟨k, ⟨hk, hle, hgt⟩, h⟩ := h
  obtain ⟨⟨p1, p2, p3, p4, p5⟩, p6, p7, p8, p9⟩ := hD
  rcases h with ⟨j, hj, e1, -, rfl⟩ | ⟨-, -, -, rfl⟩ | ⟨hne, hn, -, rfl⟩
  · refine ⟨⟨p1, p2, p3, p4, p5⟩, p6, fun i hi => ⟨(p7 i hi).1, ?_, ?_⟩, p8, p9⟩
    · exact up_all (P := fun _ v => 1 ≤ v ∧ v ≤ 1000000) (fun i hi => (p7 i hi).2.1) hy i hi
    · exact up_all (P := fun _ v => v < 4) (fun i hi => (p7 i hi).2.2) hz i hi
  · exact ⟨⟨p1, p2, p3, p4, p5⟩, p6, p7, p8, p9⟩
  · have hlt : ∀ j, j < k → pB1 D j < x := fun j hj => by
      have h1 := hle j hj
      have h2 := hle (k - 1) (by omega)
      rcases Nat.lt_or_ge j (k - 1) with h3 | h3
      · have := p8 j (k - 1) h3 (by omega); omega
      · have e : j = k - 1 := by omega
        subst e
        rcases hne with h4 | h4
        · omega
        · exact Nat.lt_of_le_of_ne h1 h4
    have hgt2 : ∀ j, k ≤ j → j < pN1 D → x < pB1 D j := fun j h1 h2 => by
      have h3 := Nat.lt_of_not_le (hgt (by omega))
      rcases Nat.lt_or_ge k j with h4 | h4
      · have := p8 k j h4 h2; omega
      · have e : j = k := by omega
        rw [e]; exact h3
    refine ⟨⟨p1, p2, by show pN1 D + 1 ≤ 8; omega, p4, p5⟩, p6, fun i hi => ⟨?_, ?_, ?_⟩, ins_srt hk p8 hlt hgt2, p9⟩
    · exact ins_all (P := fun v => 1 ≤ v ∧ v ≤ 10000) hk (fun i hi => (p7 i hi).1) hx i hi
    · exact ins_all (P := fun v => 1 ≤ v ∧ v ≤ 1000000) hk (fun i hi => (p7 i hi).2.1) hy i hi
    · exact ins_all (P := fun v => v < 4) hk (fun i hi => (p7 i hi).2.2) hz i hi
theorem telD_ok {D D1 : PD} {x : Int64} {z : Nat} {r : Int32} (h : telD D x z r D1) (hD : pOK D) (hz : z ≤ 3) : pOK D1 := by
  obtain ⟨k, ⟨hk, hle, hgt⟩, h⟩ := h
  obtain ⟨⟨p1, p2, p3, p4, p5⟩, p6, p7, p8, p9, p10, p11⟩ := hD
  rcases h with ⟨j, hj, e1, -, rfl⟩ | ⟨-, -, -, rfl⟩ | ⟨hne, hn, -, rfl⟩
  · exact ⟨⟨p1, p2, p3, p4, p5⟩, p6, p7, p8, fun i hi => up_all (P := fun _ v => v ≤ 3) p9 hz i hi, p10, p11⟩
  · exact ⟨⟨p1, p2, p3, p4, p5⟩, p6, p7, p8, p9, p10, p11⟩
  · have hlt : ∀ j, j < k → pB2 D j < x := fun j hj => by
      have h1 := hle j hj
      have h2 := hle (k - 1) (by omega)
      rcases Nat.lt_or_ge j (k - 1) with h3 | h3
      · exact Int64.lt_of_lt_of_le (p10 j (k - 1) h3 (by omega)) h2
      · have e : j = k - 1 := by omega
        subst e
        rcases hne with h4 | h4
        · omega
        · exact Int64.lt_of_le_of_ne h1 h4
    have hgt2 : ∀ j, k ≤ j → j < pN2 D → x < pB2 D j := fun j h1 h2 => by
      have h3 := Int64.not_le.mp (hgt (by omega))
      rcases Nat.lt_or_ge k j with h4 | h4
      · exact Int64.lt_trans h3 (p10 k j h4 h2)
      · have e : j = k := by omega
        rw [e]; exact h3
    exact ⟨⟨p1, p2, p3, by show pN2 D + 1 ≤ 8; omega, p5⟩, p6, p7, p8, fun i hi => ins_all (P := fun v => v ≤ 3) hk p9 hz i hi, ins_srt hk p10 hlt hgt2, p11⟩
/-- cells of a part that stand -/
theorem pV_off {G : hG} {f u : hm} {a : Nat → Nat} {i : Nat} {D : PD} {sm : Option Nat} (h : pV G f a i D sm) (hinj : ∀ j j2, j < 13 → j2 < 13 → a j = a j2 → i = i ∧ j = j2) {S : List Nat} {K : List Nat} (hE1 : hE S f u) (hS : ∀ q ∈ S, ∃ k, k ∈ K ∧ k < 13 ∧ q = a k) : (∀ k, k < 13 → k ∉ K → u (a k) = f (a k)) ∧ ∀ q, sm = some q → u q = f q := by
  refine ⟨fun k hk hn => hE1 _ (fun hm => ?_), fun q hq => hE1 _ (fun hm => ?_)⟩
  · obtain ⟨k2, h1, h2, h3⟩ := hS _ hm
    have := (hinj k k2 hk h2 h3).2
    exact hn (this ▸ h1)
  · obtain ⟨k2, h1, h2, h3⟩ := hS _ hm
    obtain ⟨e, he, hke⟩ := pv_kd h k2 h2
    rw [← h3, h.2.1 q hq] at he
    rw [← Option.some.inj he] at hke
    simp [kd] at hke
theorem pV_pr {G : hG} {f u : hm} {a : Nat → Nat} {i : Nat} {D : PD} {sm : Option Nat} (h : pV G f a i D sm) (hinj : ∀ j j2, j < 13 → j2 < 13 → a j = a j2 → i = i ∧ j = j2) (hE1 : hE [a 3, a 4, a 5, a 6] f u) {n : Nat} {B C K : Nat → Nat} (hs : sv G u (a 3) (a 4) (a 5) (a 6) n (fun j => lN (B j)) (fun j => lN (C j)) (fun j => nI (K j))) : pV G u a i (dPr D n B C K) sm := by
  obtain ⟨hk, hsm⟩ := pV_off (K := [3, 4, 5, 6]) h hinj hE1 (by simp only [List.mem_cons, List.not_mem_nil, or_false]; rintro q (rfl | rfl | rfl | rfl) <;> first | exact ⟨3, by simp, by omega, rfl⟩ | exact ⟨4, by simp, by omega, rfl⟩ | exact ⟨5, by simp, by omega, rfl⟩ | exact ⟨6, by simp, by omega, rfl⟩)
  obtain ⟨⟨h0, h1, h2, -, ⟨h7, h8, h9, h10⟩, h11, h12⟩, hq, hn⟩ := h
  exact ⟨⟨(hk 0 (by decide) (by decide)).trans h0, (hk 1 (by decide) (by decide)).trans h1, (hk 2 (by decide) (by decide)).trans h2, hs, ⟨(hk 7 (by decide) (by decide)).trans h7, (hk 8 (by decide) (by decide)).trans h8, (hk 9 (by decide) (by decide)).trans h9, (hk 10 (by decide) (by decide)).trans h10⟩, (hk 11 (by decide) (by decide)).trans h11, (hk 12 (by decide) (by decide)).trans h12⟩, fun q h => (hsm q h).trans (hq q h), hn⟩
theorem pV_dy {G : hG} {f u : hm} {a : Nat → Nat} {i : Nat} {D : PD} {sm : Option Nat} (h : pV G f a i D sm) (hinj : ∀ j j2, j < 13 → j2 < 13 → a j = a j2 → i = i ∧ j = j2) (hE1 : hE [a 7, a 8, a 9, a 10] f u) {n : Nat} {B : Nat → Int64} {K : Nat → Nat} (hs : sv G u (a 7) (a 8) (a 9) (a 10) n B (fun _ => 0) (fun j => nI (K j))) : pV G u a i (dDy D n B K) sm := by
  obtain ⟨hk, hsm⟩ := pV_off (K := [7, 8, 9, 10]) h hinj hE1 (by simp only [List.mem_cons, List.not_mem_nil, or_false]; rintro q (rfl | rfl | rfl | rfl) <;> first | exact ⟨7, by simp, by omega, rfl⟩ | exact ⟨8, by simp, by omega, rfl⟩ | exact ⟨9, by simp, by omega, rfl⟩ | exact ⟨10, by simp, by omega, rfl⟩)
  obtain ⟨⟨h0, h1, h2, ⟨h3, h4, h5, h6⟩, -, h11, h12⟩, hq, hn⟩ := h
  exact ⟨⟨(hk 0 (by decide) (by decide)).trans h0, (hk 1 (by decide) (by decide)).trans h1, (hk 2 (by decide) (by decide)).trans h2, ⟨(hk 3 (by decide) (by decide)).trans h3, (hk 4 (by decide) (by decide)).trans h4, (hk 5 (by decide) (by decide)).trans h5, (hk 6 (by decide) (by decide)).trans h6⟩, hs, (hk 11 (by decide) (by decide)).trans h11, (hk 12 (by decide) (by decide)).trans h12⟩, fun q h => (hsm q h).trans (hq q h), hn⟩
theorem pV_va {G : hG} {f u : hm} {a : Nat → Nat} {i : Nat} {D : PD} {sm : Option Nat} (h : pV G f a i D sm) (hinj : ∀ j j2, j < 13 → j2 < 13 → a j = a j2 → i = i ∧ j = j2) (hE1 : hE [a 1, a 2] f u) {j A B : Nat} (h1' : u (a 1) = some (aL G 12 (vp_updL (fun j => lN (pVa D j)) j (lN A)))) (h2' : u (a 2) = some (aL G 12 (vp_updL (fun j => lN (pVb D j)) j (lN B)))) : pV G u a i (dVa D j A B) sm := by
  obtain ⟨hk, hsm⟩ := pV_off (K := [1, 2]) h hinj hE1 (by simp only [List.mem_cons, List.not_mem_nil, or_false]; rintro q (rfl | rfl) <;> first | exact ⟨1, by simp, by omega, rfl⟩ | exact ⟨2, by simp, by omega, rfl⟩)
  obtain ⟨⟨h0, h1, h2, ⟨h3, h4, h5, h6⟩, ⟨h7, h8, h9, h10⟩, h11, h12⟩, hq, hn⟩ := h
  rw [updL_lN] at h1' h2'
  exact ⟨⟨(hk 0 (by decide) (by decide)).trans h0, h1', h2', ⟨(hk 3 (by decide) (by decide)).trans h3, (hk 4 (by decide) (by decide)).trans h4, (hk 5 (by decide) (by decide)).trans h5, (hk 6 (by decide) (by decide)).trans h6⟩, ⟨(hk 7 (by decide) (by decide)).trans h7, (hk 8 (by decide) (by decide)).trans h8, (hk 9 (by decide) (by decide)).trans h9, (hk 10 (by decide) (by decide)).trans h10⟩, (hk 11 (by decide) (by decide)).trans h11, (hk 12 (by decide) (by decide)).trans h12⟩, fun q h => (hsm q h).trans (hq q h), hn⟩
theorem PS_congr {pk pk' : Nat → Nat} : ∀ {n : Nat}, (∀ j, j < n → pk' j = pk j) → ∀ t, PS n pk' t ↔ PS n pk t
  | 0, _, t => Iff.rfl
  | n + 1, h, t => by
    unfold PS
    constructor
    · rintro ⟨j, h1, h2⟩
      rw [h n (by omega)] at h1 h2
      exact ⟨j, h1, (PS_congr (fun j hj => h j (by omega)) _).mp h2⟩
    · rintro ⟨j, h1, h2⟩
      refine ⟨j, by rw [h n (by omega)]; exact h1, ?_⟩
      rw [h n (by omega)]
      exact (PS_congr (fun j hj => h j (by omega)) _).mpr h2
theorem w_0_bit {t : Nat} : bi w_0 t = true ↔ t = 0 := by
  unfold bi w_0
  by_cases h : t / 64 = 0
  · rw [if_pos h]
    by_cases h0 : t = 0
    · subst h0; simp
    · have : t % 64 ≠ 0 := by omega
      simp [Nat.testBit_one_eq_true_iff_self_eq_zero, this, h0]
  · rw [if_neg h]
    have : t ≠ 0 := by intro z; subst z; exact h rfl
    simp [this]
theorem D0_ok {mk : Nat} (h : mk < 16) : pOK (D0 mk) := by
  refine ⟨⟨h, Nat.zero_le _, Nat.zero_le _, Nat.zero_le _, Nat.zero_le _⟩, fun j => ⟨Nat.two_pow_pos 63, Nat.two_pow_pos 50⟩, fun j hj => absurd hj (Nat.not_lt_zero _), fun i j _ hj => absurd hj (Nat.not_lt_zero _), fun j hj => absurd hj (Nat.not_lt_zero _), fun i j _ hj => absurd hj (Nat.not_lt_zero _), fun j hj => absurd hj (Nat.not_lt_zero _), fun j => ?_, fun _ => rfl, fun t _ => w_0_bit⟩
  show w_0 j < 2 ^ 64
  unfold w_0
  by_cases hj : j = 0
  · rw [if_pos hj]; decide
  · rw [if_neg hj]; decide
/-- one part more -/
abbrev aAdd (a : AD) (i : Nat) (aa : Nat → Nat) : AD := (aPa a, aPl a, aAs a, aRa a, aHi a, va_up (aAd a) i aa, va_up (aSm a) i none)
theorem bk_add {G : hG} {f u : hm} {x : Nat} {a : AD} {b : BD} (h : bk G f x a b) (hN : bN b < 40) {mk : Nat} (hmk : mk < 16) {aa : Nat → Nat} (hinj2 : ∀ i j, i < 13 → j < 13 → aa i = aa j → i = j) (hfr : ∀ i, i < 13 → f (aa i) = none) (hv : pV G u aa (bN b) (D0 mk) none) (hx : u x = some (ob 3 [.ref (aPa a), .int (nI (bN b + 1)), .ref (aPl a), .ref (aAs a), .int (nI (bRc b)), .ref (aRa a), .ref (aHi a), .int (nI (bHc b))])) (hpa : u (aPa a) = some (aP G 40 (va_up (fun i => if i < bN b then some (aAd a i 0) else none) (bN b) (some (aa 0))))) (hoff : ∀ q e, f q = some e → q ≠ x → q ≠ aPa a → u q = some e) : bk G u x (aAdd a (bN b) aa) (bAdd b mk) := by
  obtain ⟨⟨b0, b1, b2, b3, b4, b5⟩, hp, hinj, hsi, ⟨⟨k1, k2, k3⟩, k4, k5, k6, k7, k8⟩⟩ := h
  have hkp : ∀ q e, f q = some e → kd e ≠ 3 → kd e ≠ 140 → u q = some e := fun q e he n1 n2 => hoff q e he (fun z => by rw [z, b0] at he; cases he; exact n1 rfl) (fun z => by rw [z, b1] at he; cases he; exact n2 rfl)
  have hpx : ∀ q, f q = some (aI G 40 (fun k => nI (bHi b k))) → u q = some (aI G 40 (fun k => nI (bHi b k))) := fun q he => hoff q _ he (fun z => by rw [z, b0] at he; simp at he) (fun z => by rw [z, b1] at he; simp at he)
  have lt1 : ∀ i, i < bN b + 1 → i ≠ bN b → i < bN b := fun i h1 h2 => by omega
  refine ⟨⟨hx, ?_, hkp _ _ b2 (by simp [kd]) (by simp [kd]), hkp _ _ b3 (by simp [kd]) (by simp [kd]), hkp _ _ b4 (by simp [kd]) (by simp [kd]), hpx _ b5⟩, fun i hi => ?_, fun i j i2 j2 hi hj hi2 hj2 he => ?_, fun i i2 q hi hi2 h1 h2 => ?_, ⟨hN, k2, k3⟩, fun i hi => ?_, k5, k6, k7, fun k hk => Nat.lt_succ_of_lt (k8 k hk)⟩
  · rw [hpa]
    congr 6
    funext i
    show va_up _ _ _ i = if i < bN b + 1 then some (va_up (aAd a) (bN b) aa i 0) else none
    by_cases e : i = bN b
    · rw [e, va_up_self, va_up_self, if_pos (by omega)]
    · rw [va_up_ne _ _ e, va_up_ne _ _ e]
      by_cases e2 : i < bN b
      · rw [if_pos e2, if_pos (by omega)]
      · rw [if_neg e2, if_neg (by omega)]
  · show pV G u (va_up (aAd a) (bN b) aa i) i (va_up (bD b) (bN b) (D0 mk) i) (va_up (aSm a) (bN b) none i)
    by_cases e : i = bN b
    · rw [e, va_up_self, va_up_self, va_up_self]; exact hv
    · rw [va_up_ne _ _ e, va_up_ne _ _ e, va_up_ne _ _ e]
      have hpi := hp i (lt1 i hi e)
      refine pv_congr hpi (fun k hk => ?_) (fun q hs => ?_)
      · obtain ⟨e2, he2, hke⟩ := pv_kd hpi k hk
        rw [he2]; exact hkp _ _ he2 (by omega) (by omega)
      · have := hpi.2.1 q hs
        rw [this]; exact hkp _ _ this (by simp [kd]) (by simp [kd])
  · have fz : ∀ i j, i < bN b → j < 13 → ∀ k, k < 13 → aAd a i j ≠ aa k := fun i j hi hj k hk z => by
      obtain ⟨e2, he2, -⟩ := pv_kd (hp i hi) j hj
      rw [z, hfr k hk] at he2; cases he2
    replace he : va_up (aAd a) (bN b) aa i j = va_up (aAd a) (bN b) aa i2 j2 := he
    by_cases e : i = bN b
    · by_cases e2 : i2 = bN b
      · rw [e, e2, va_up_self] at he
        exact ⟨e.trans e2.symm, hinj2 j j2 hj hj2 he⟩
      · rw [e, va_up_self, va_up_ne _ _ e2] at he
        exact absurd he.symm (fz i2 j2 (lt1 i2 hi2 e2) hj2 j hj)
    · by_cases e2 : i2 = bN b
      · rw [e2, va_up_self, va_up_ne _ _ e] at he
        exact absurd he (fz i j (lt1 i hi e) hj j2 hj2)
      · rw [va_up_ne _ _ e, va_up_ne _ _ e2] at he
        exact hinj i j i2 j2 (lt1 i hi e) hj (lt1 i2 hi2 e2) hj2 he
  · replace h1 : va_up (aSm a) (bN b) none i = some q := h1
    replace h2 : va_up (aSm a) (bN b) none i2 = some q := h2
    by_cases e : i = bN b
    · rw [e, va_up_self] at h1; cases h1
    · by_cases e2 : i2 = bN b
      · rw [e2, va_up_self] at h2; cases h2
      · rw [va_up_ne _ _ e] at h1
        rw [va_up_ne _ _ e2] at h2
        exact hsi i i2 q (lt1 i hi e) (lt1 i2 hi2 e2) h1 h2
  · show pOK (va_up (bD b) (bN b) (D0 mk) i)
    by_cases e : i = bN b
    · rw [e, va_up_self]; exact D0_ok hmk
    · rw [va_up_ne _ _ e]; exact k4 i (lt1 i hi e)
section HV
variable {G : hG} {own : String} {hw : Cond} {cc : ByteArray} {nL : Nat} {ret : Option FieldType} {p : Program} {l : Launch} {e : Env} {R : Room} {s : State} {m : MethodId} {args : Array Value} {below : List Frame} {meth : Method} {c : Code} {H H0 : Heap} {locs : List Loc} {cells slots : Nat} {Q : State → Prop}
variable {A : Nat → Prop} {f : hm} {pc a : Nat} {ls : Array Slot} {rest : List Value}
theorem g_aastN (C : hC G own (hw :: bw) cc nL ret p s m args meth c) (hP : hH G A f H) (hS : va_S A H0 H locs) {n v : Nat} {vs : List Value} {g : Nat → Option Nat} (ha : f a = some (aP G n g)) (hv : f v = some (ob 1 vs)) {j : Nat} (hj : j < n) (hn : n < 2 ^ 31) (hdg : decode cc pc = .ok (.aastore, 1)) (kk : ∀ (H1 : Heap) (locs1 : List Loc), hH G A (va_up f a (some (aP G n (va_up g j (some v))))) H1 → va_S A H0 H1 locs1 → W p l e R s m args below meth c H1 locs1 cells slots Q (F0 m (pc + 1) ls rest)) : W p l e R s m args below meth c H locs cells slots Q (F0 m pc ls (.ref v :: .int (nI j) :: .ref a :: rest)) :=
  g_aast C hP hS ha hv (vp_in_nI hj hn) hdg (by rw [nI_clamp (by omega)]; exact kk)
end HV
/-- what price, life, pack, derate do -/
def I_price (b : BD) (p c : Int32) : Prop := okx p (bN b) ∧ okx c 4
def N_price (fm : Int32) (cn : Int64) : Prop := (1 ≤ fm ∧ fm ≤ 10000) ∧ (1 ≤ cn ∧ cn ≤ 1000000)
def K_price (b : BD) (p fm : Int32) (cn : Int64) (cu r : Int32) (b1 : BD) : Prop := ∃ i x y z D1, i < bN b ∧ p = nI i ∧ (1 ≤ x ∧ x ≤ 10000) ∧ fm = nI x ∧ (1 ≤ y ∧ y ≤ 1000000) ∧ cn = lN y ∧ z < 4 ∧ cu = nI z ∧ telP (bD b i) x y z r D1 ∧ b1 = bSet b i D1
def N_life (st : Int32) : Prop := 0 ≤ st ∧ st ≤ 3
def K_life (b : BD) (p : Int32) (x : Int64) (st r : Int32) (b1 : BD) : Prop := ∃ i z D1, i < bN b ∧ p = nI i ∧ z ≤ 3 ∧ st = nI z ∧ telD (bD b i) x z r D1 ∧ b1 = bSet b i D1
def N_pack (s : Int32) : Prop := 1 ≤ s ∧ s ≤ 1000
def pakP (D : PD) (t : Nat) (r : Int32) (D1 : PD) : Prop := (r = 0 ∧ D1 = D ∧ (pNp D = 6 ∨ ∃ j, j < pNp D ∧ pPk D j = t)) ∨ (r = 1 ∧ pNp D < 6 ∧ (∀ j, j < pNp D → pPk D j ≠ t) ∧ ∃ w, D1 = dPk D (pNp D + 1) (va_up (pPk D) (pNp D) t) w)
def K_pack (b : BD) (p s r : Int32) (b1 : BD) : Prop := ∃ i t D1, i < bN b ∧ p = nI i ∧ 1 ≤ t ∧ t ≤ 1000 ∧ s = nI t ∧ pakP (bD b i) t r D1 ∧ b1 = bSet b i D1
def N_derate (x y : Int64) (q : Int32) : Prop := fr x y ∧ (1 ≤ q ∧ q ≤ 100)
def K_derate (b : BD) (p n : Int32) (x y : Int64) (q r : Int32) : Prop := ∃ i j a c w, i < bN b ∧ p = nI i ∧ j < 12 ∧ n = nI j ∧ a ≤ 1000000000 ∧ x = lN a ∧ 1 ≤ c ∧ c ≤ 1000000 ∧ y = lN c ∧ 1 ≤ w ∧ w ≤ 100 ∧ q = nI w ∧ r = (if pVb (bD b i) j = 0 then -1 else if (a * 100) * pVb (bD b i) j ≤ pVa (bD b i) j * (c * w) then 1 else 0)
