/-! PartBook: part, value, price, life, pack, derate. -/
theorem if_cg {P Q : Prop} [Decidable P] [Decidable Q] {a b : Int32} (h : P ↔ Q) : (if P then a else b) = if Q then a else b := by
  by_cases hP : P
  · rw [if_pos hP, if_pos (h.mp hP)]
  · rw [if_neg hP, if_neg (fun z => hP (h.mpr z))]
theorem if_01 {r : Int32} {P : Prop} [Decidable P] (h : r = if P then 0 else 1) : r = 0 ∨ r = 1 := by
  by_cases hP : P
  · rw [if_pos hP] at h; exact Or.inl h
  · rw [if_neg hP] at h; exact Or.inr h
theorem mem_4 {a : AD} {f : hm} {i k1 k2 k3 k4 : Nat} (h1 : k1 < 13) (h2 : k2 < 13) (h3 : k3 < 13) (h4 : k4 < 13) : ∀ q ∈ [aAd a i k1, aAd a i k2, aAd a i k3, aAd a i k4], (∃ k, k < 13 ∧ q = aAd a i k) ∨ aSm a i = some q ∨ f q = none := by
  simp only [List.mem_cons, List.not_mem_nil, or_false]
  rintro q (rfl | rfl | rfl | rfl)
  · exact Or.inl ⟨k1, h1, rfl⟩
  · exact Or.inl ⟨k2, h2, rfl⟩
  · exact Or.inl ⟨k3, h3, rfl⟩
  · exact Or.inl ⟨k4, h4, rfl⟩
theorem mem_2 {a : AD} {f : hm} {i k1 k2 : Nat} (h1 : k1 < 13) (h2 : k2 < 13) : ∀ q ∈ [aAd a i k1, aAd a i k2], (∃ k, k < 13 ∧ q = aAd a i k) ∨ aSm a i = some q ∨ f q = none := by
  simp only [List.mem_cons, List.not_mem_nil, or_false]
  rintro q (rfl | rfl)
  · exact Or.inl ⟨k1, h1, rfl⟩
  · exact Or.inl ⟨k2, h2, rfl⟩
theorem cq_nn {x y z w : Nat} (h : cq_i ((x : Int) * (y : Int) - (z : Int) * (w : Int)) < 0) : ¬ z * w ≤ x * y := fun hle => by
  have h1 : (z : Int) * (w : Int) ≤ (x : Int) * (y : Int) := by exact_mod_cast hle
  unfold cq_i at h
  rw [if_neg (by omega)] at h
  by_cases h2 : 0 < (x : Int) * (y : Int) - (z : Int) * (w : Int)
  · rw [if_pos h2] at h; exact absurd h (by decide)
  · rw [if_neg h2] at h; exact absurd h (by decide)
theorem cq_ge {x y z w : Nat} (h : ¬ cq_i ((x : Int) * (y : Int) - (z : Int) * (w : Int)) < 0) : z * w ≤ x * y := by
  have h1 : ¬ (x : Int) * (y : Int) - (z : Int) * (w : Int) < 0 := fun z9 => h (by unfold cq_i; rw [if_pos z9]; decide)
  have h2 : (z : Int) * (w : Int) ≤ (x : Int) * (y : Int) := by omega
  exact_mod_cast h2
theorem u_int {un : Int32} (h : -9 ≤ un ∧ un ≤ 9) : -9 ≤ un.toInt ∧ un.toInt ≤ 9 := by
  have h1 := Int32.le_iff_toInt_le.mp h.1
  have h2 := Int32.le_iff_toInt_le.mp h.2
  exact ⟨h1, h2⟩
theorem u_pos {un : Int32} {a : Nat} (h : -9 ≤ un ∧ un ≤ 9) (h0 : ¬ un ≤ 0) : ∃ k, k ≤ 9 ∧ un = nI k ∧ a * 10 ^ k = uA a un := by
  have h1 := u_int h
  have h2 : 0 < un := Int32.not_le.mp h0
  have h3 : 0 < un.toInt := Int32.lt_iff_toInt_lt.mp h2
  refine ⟨un.toInt.toNat, by omega, Int32.toInt_inj.mp ?_, by unfold uA; rw [if_pos h2]⟩
  rw [nI_toInt (by omega)]; omega
theorem u_np {un : Int32} {a : Nat} (h0 : un ≤ 0) : uA a un = a := by unfold uA; rw [if_neg (Int32.not_lt.mpr h0)]
theorem u_nn {un : Int32} {c : Nat} (h0 : 0 ≤ un) : uB c un = c := by unfold uB; rw [if_neg (Int32.not_lt.mpr h0)]
theorem u_neg {un : Int32} {c : Nat} (h : -9 ≤ un ∧ un ≤ 9) (h0 : ¬ 0 ≤ un) : ∃ k, k ≤ 9 ∧ -un = nI k ∧ c * 10 ^ k = uB c un := by
  have h1 := u_int h
  have h2 : un < 0 := Int32.not_le.mp h0
  have h3 : un.toInt < 0 := Int32.lt_iff_toInt_lt.mp h2
  refine ⟨(-un.toInt).toNat, by omega, Int32.toInt_inj.mp ?_, by unfold uB; rw [if_pos h2]⟩
  rw [nI_toInt (by omega), Int32.toInt_neg, Int.bmod_eq_of_le (by omega) (by omega)]; omega
theorem u_bd {un : Int32} {a c : Nat} (h : -9 ≤ un ∧ un ≤ 9) (ha : a ≤ 1000000000) (hc1 : 1 ≤ c) (hc2 : c ≤ 1000000) : uA a un < 2 ^ 63 ∧ 0 < uB c un ∧ uB c un < 2 ^ 50 := by
  have h10 : ∀ k, k ≤ 9 → 10 ^ k ≤ 10 ^ 9 := fun k hk => Nat.pow_le_pow_right (by decide) hk
  refine ⟨?_, ?_, ?_⟩
  · by_cases h0 : un ≤ 0
    · rw [u_np h0]; omega
    · obtain ⟨k, hk, -, e⟩ := u_pos (a := a) h h0
      rw [← e]
      exact Nat.lt_of_le_of_lt (Nat.mul_le_mul ha (h10 k hk)) (by decide)
  · by_cases h0 : 0 ≤ un
    · rw [u_nn h0]; exact hc1
    · obtain ⟨k, hk, -, e⟩ := u_neg (c := c) h h0
      rw [← e]
      exact Nat.mul_pos hc1 (Nat.pow_pos (by decide))
  · by_cases h0 : 0 ≤ un
    · rw [u_nn h0]; omega
    · obtain ⟨k, hk, -, e⟩ := u_neg (c := c) h h0
      rw [← e]
      exact Nat.lt_of_le_of_lt (Nat.mul_le_mul hc2 (h10 k hk)) (by decide)
theorem va_ok {D : PD} (h : pOK D) {j A B g : Nat} (hA : A < 2 ^ 63) (hB : B < 2 ^ 50) : pOK (dVa D j (A / g) (B / g)) := by
  refine ⟨h.1, fun k => ⟨?_, ?_⟩, h.2.2⟩
  · exact up_all (n := k + 1) (P := fun _ v => v < 2 ^ 63) (fun k _ => (h.2.1 k).1) (Nat.lt_of_le_of_lt (Nat.div_le_self _ _) hA) k (by omega)
  · exact up_all (n := k + 1) (P := fun _ v => v < 2 ^ 50) (fun k _ => (h.2.1 k).2) (Nat.lt_of_le_of_lt (Nat.div_le_self _ _) hB) k (by omega)
theorem pak_T {G : hG} {f u : hm} {x : Nat} {a : AD} {b : BD} (hk : bk G f x a b) {i : Nat} (hi : i < bN b) (hp : pV G f (aAd a i) i (bD b i) (aSm a i)) (hD : pOK (bD b i)) {t : Nat} (ht1 : 1 ≤ t) (ht2 : t ≤ 1000) {r : Int32}
    (hq : (r = 0 ∧ u = f ∧ (pNp (bD b i) = 6 ∨ ∃ j, j < pNp (bD b i) ∧ (fun j => nI (pPk (bD b i) j)) j = nI t)) ∨ (r = 1 ∧ pNp (bD b i) < 6 ∧ (∀ j, j < pNp (bD b i) → (fun j => nI (pPk (bD b i) j)) j ≠ nI t) ∧ ∃ q w1, u (aAd a i 11) = some (ob 0 [.ref (aAd a i 12), .int (nI (pNp (bD b i) + 1)), .ref q]) ∧ u (aAd a i 12) = some (aI G 6 (upd (fun j => nI (pPk (bD b i) j)) (pNp (bD b i)) (nI t))) ∧ u q = some (aL G 313 (fun j => lN (w1 j))) ∧ (∀ j, w1 j < 2 ^ 64) ∧ (aSm a i = some q ∨ (aSm a i = none ∧ f q = none)) ∧ hE [aAd a i 11, aAd a i 12, q] f u ∧ (∀ x, x ≤ 20000 → (bi w1 x = true ↔ ∃ j, j * t ≤ x ∧ bi (pW (bD b i)) (x - j * t) = true)))) :
    ∃ (D1 : PD) (sq : Option Nat) (Sx : List Nat), pakP (bD b i) t r D1 ∧ pV G u (aAd a i) i D1 sq ∧ hE Sx f u ∧ (∀ q ∈ Sx, (∃ k, k < 13 ∧ q = aAd a i k) ∨ aSm a i = some q ∨ f q = none) ∧ (sq = aSm a i ∨ ∃ q, sq = some q ∧ f q = none) ∧ pOK D1 := by
  rcases hq with ⟨e1, e2, e3⟩ | ⟨e1, e2, e3, q, w1, u1, u2, u3, hw, hs, hE1, hb⟩
  · subst e2
    refine ⟨bD b i, aSm a i, [], Or.inl ⟨e1, rfl, e3.imp id (fun ⟨j, h1, h2⟩ => ⟨j, h1, ?_⟩)⟩, hp, hE.rf, fun q h => absurd h (List.not_mem_nil), Or.inl rfl, hD⟩
    exact (nI_eq (by have := hD.2.2.2.2.2.2.1 j h1; omega) (by omega)).mp h2
  · have hqn : ∀ k, k < 13 → aAd a i k ≠ q := fun k hk2 z => by
      obtain ⟨e, he, hke⟩ := pv_kd hp k hk2
      rcases hs with h1 | h1
      · rw [z, hp.2.1 q h1] at he
        rw [← Option.some.inj he] at hke
        simp [kd] at hke
      · rw [z, h1.2] at he; cases he
    have hkp : ∀ k, k < 13 → k ≠ 11 → k ≠ 12 → u (aAd a i k) = f (aAd a i k) := fun k hk2 n1 n2 => hE1 _ (by
      simp only [List.mem_cons, List.not_mem_nil, or_false, not_or]
      exact ⟨fun z => n1 (hk.2.2.1 i k i 11 hi hk2 hi (by decide) z).2, fun z => n2 (hk.2.2.1 i k i 12 hi hk2 hi (by decide) z).2, hqn k hk2⟩)
    refine ⟨dPk (bD b i) (pNp (bD b i) + 1) (va_up (pPk (bD b i)) (pNp (bD b i)) t) w1, some q, [aAd a i 11, aAd a i 12, q], Or.inr ⟨e1, e2, fun j hj z => e3 j hj (by show nI _ = nI _; rw [z]), w1, rfl⟩, ?_, hE1, ?_, ?_, ?_⟩
    · obtain ⟨⟨h0, h1, h2, ⟨h3, h4, h5, h6⟩, ⟨h7, h8, h9, h10⟩, h11, h12⟩, hq, hn⟩ := hp
      rw [upd_nI] at u2
      exact ⟨⟨(hkp 0 (by decide) (by decide) (by decide)).trans h0, (hkp 1 (by decide) (by decide) (by decide)).trans h1, (hkp 2 (by decide) (by decide) (by decide)).trans h2, ⟨(hkp 3 (by decide) (by decide) (by decide)).trans h3, (hkp 4 (by decide) (by decide) (by decide)).trans h4, (hkp 5 (by decide) (by decide) (by decide)).trans h5, (hkp 6 (by decide) (by decide) (by decide)).trans h6⟩, ⟨(hkp 7 (by decide) (by decide) (by decide)).trans h7, (hkp 8 (by decide) (by decide) (by decide)).trans h8, (hkp 9 (by decide) (by decide) (by decide)).trans h9, (hkp 10 (by decide) (by decide) (by decide)).trans h10⟩, u1, u2⟩, fun q2 h => by rw [← Option.some.inj h]; exact u3, ⟨fun h => (by cases h), fun h => (by cases h)⟩⟩
    · simp only [List.mem_cons, List.not_mem_nil, or_false]
      rintro z (rfl | rfl | rfl)
      · exact Or.inl ⟨11, by decide, rfl⟩
      · exact Or.inl ⟨12, by decide, rfl⟩
      · rcases hs with h1 | h1
        · exact Or.inr (Or.inl h1)
        · exact Or.inr (Or.inr h1.2)
    · rcases hs with h1 | h1
      · exact Or.inl h1.symm
      · exact Or.inr ⟨q, rfl, h1.2⟩
    · obtain ⟨⟨p1, p2, p3, p4, p5⟩, p6, p7, p8, p9, p10, p11, p12, p13, p14⟩ := hD
      refine ⟨⟨p1, p2, p3, p4, e2⟩, p6, p7, p8, p9, p10, fun j hj => ?_, hw, fun h => (by cases h), fun z hz => (hb z hz).trans ?_⟩
      · by_cases hj2 : j = pNp (bD b i)
        · show 1 ≤ va_up (pPk (bD b i)) (pNp (bD b i)) t j ∧ va_up (pPk (bD b i)) (pNp (bD b i)) t j ≤ 1000
          rw [hj2, va_up_self]; exact ⟨ht1, ht2⟩
        · show 1 ≤ va_up (pPk (bD b i)) (pNp (bD b i)) t j ∧ va_up (pPk (bD b i)) (pNp (bD b i)) t j ≤ 1000
          rw [va_up_ne _ _ hj2]; exact p11 j (by replace hj : j < pNp (bD b i) + 1 := hj; omega)
      · show _ ↔ PS (pNp (bD b i) + 1) (va_up (pPk (bD b i)) (pNp (bD b i)) t) z
        unfold PS
        rw [va_up_self]
        refine exists_congr fun j => and_congr_right fun h1 => (p14 _ (by omega)).trans (PS_congr (fun k hk2 => va_up_ne _ _ (by omega)) _).symm
set_option maxHeartbeats 4000000 in
set_option maxRecDepth 100000 in
theorem ct_B_price {l : Launch} {G : hG} {sa : xS} (hl0 : l.stackTraces = false) (f : hm) (x : Nat) (a : AD) (b : BD) (hk : bk G f x a b) (p0 m0 : Int32) (c0 : Int64) (u0 : Int32) : xi_ l G sa y_B_price w_B_price { frames := 7, cells := 4, slots := 24, locals := 120 } [.ref x, .int p0, .int m0, .long c0, .int u0] f (fun r u => I_price b p0 u0 ∧ N_price m0 c0 ∧ ∃ a1 b1, bk G u x a1 b1 ∧ K_price b p0 m0 c0 u0 r b1) (bad (I_price b p0 u0) (N_price m0 c0)) := by
  intro sz
  refine x_ofW (cc := c_B_price) (maxL := 7) (ret := (some .boolean)) (by decide) rfl (Nat.le_of_ble_eq_true rfl) ?_
  intro p e s m below meth c ls C hex hN hZ hsz hP hl
  obtain ⟨hx, hb, hml, hown, -, -, -, -⟩ := id C
  subst hsz
  have hA0 : ∀ q, s.heap.size ≤ q → hA f s.heap.size q := hA.new
  have hS : va_S (hA f s.heap.size) s.heap s.heap [] := va_S.rf
  replace hl : lv_has ls 7 [(0, .ref x), (1, .int p0), (2, .int m0), (3, .long c0), (5, .int u0)] := hl
  have hNN : bN b ≤ 40 := hk.2.2.2.2.1.1
  have hRC : bRc b ≤ 10 := hk.2.2.2.2.1.2.1
  have hHC : bHc b ≤ 40 := hk.2.2.2.2.1.2.2
  refine lv_aload_n hx hb d_B_price_0 rfl (lv_at hl 0 rfl) ?_
  refine lv_iload_n hx hb d_B_price_1 rfl (lv_at hl 1 rfl) ?_
  refine x_callq (x_runV C hN hZ hl.1 (ct_B_partOf (sa := sa) hl0 f x p0 (aPa a) (bN b) _ _ _ _ _ _ _ (fun i => aAd a i 0) hNN hk.1.1 hk.1.2.1 (fun j hj => if_pos hj) _) (cx_V C 1 wd_239 wd_241 wp_1 wd_1 wd_242 rfl rfl (by decide +kernel) ⟨Nat.le_of_ble_eq_true rfl, Nat.le_of_ble_eq_true rfl⟩) hP hS hA0 hk.1.1 rfl rfl rfl (Nat.le_of_ble_eq_true rfl) d_B_price_2 ⟨Nat.le_of_ble_eq_true rfl, Nat.le_of_ble_eq_true rfl⟩) hP hS hA0 (fun E ce q9 H locs hE hP hS h1 h2 h3 => x_out C hex hP hS (Or.inl ⟨hE.1, fun z9 => hE.2 z9.1⟩) h1 h2 h3 (Nat.le_of_ble_eq_true rfl) (Nat.le_of_ble_eq_true rfl)) (fun r2 f1 H locs hq hP hS => ?_)
  obtain ⟨hu, i, hi, rfl, rfl⟩ := hq
  rw [hu] at hP
  have hp_ := hk.2.1 i hi
  have hD_ := hk.2.2.2.2.2.1 i hi
  refine lv_astore (lv' := [(6, .ref (aAd a i 0)), (0, .ref x), (1, .int (nI i)), (2, .int m0), (3, .long c0), (5, .int u0)]) hx hb d_B_price_5 hl (by decide) rfl (fun ls hl => ?_)
  refine lv_iload hx hb d_B_price_7 (lv_at hl 5 rfl) ?_
  refine lv_iconst (v := 4) hx hb d_B_price_9 (by decide) ?_
  refine x_callv (x_runS C hN hZ hl.1 (ct_B_checkIndex (sa := sa) hl0 f u0 (nI 4) _) (cx_S C 2 wd_259 wd_260 wd_1 wd_261 rfl rfl (by decide +kernel) ⟨Nat.le_of_ble_eq_true rfl, Nat.le_of_ble_eq_true rfl⟩) hP hS hA0 rfl rfl (Nat.le_of_ble_eq_true rfl) d_B_price_10 ⟨Nat.le_of_ble_eq_true rfl, Nat.le_of_ble_eq_true rfl⟩) hP hS hA0 (fun E ce q9 H locs hE hP hS h1 h2 h3 => x_out C hex hP hS (Or.inl ⟨hE.1, fun z9 => hE.2 ((ix_chk (n := 4) (by omega)).mpr z9.2)⟩) h1 h2 h3 (Nat.le_of_ble_eq_true rfl) (Nat.le_of_ble_eq_true rfl)) (fun f3 H locs hq hP hS => ?_)
  obtain ⟨hu, q_z⟩ := hq
  obtain ⟨z1, hz1, rfl⟩ := (ix_chk (n := 4) (by omega)).mp q_z
  rw [hu] at hP
  refine lv_iload_n hx hb d_B_price_13 rfl (lv_at hl 3 rfl) ?_
  refine lv_i2l (v := m0.toInt64) hx hb d_B_price_14 rfl ?_
  refine lv_lconst (v := 1) hx hb d_B_price_15 (by decide) ?_
  refine lv_ldc2 hx hb hown (C.w wd_351) d_B_price_16 ?_
  refine x_callv (x_runS C hN hZ hl.1 (ct_B_checkNumber (sa := sa) hl0 f (m0).toInt64 1 10000 _) (cx_S C 3 wd_75 wd_76 wd_1 wd_77 rfl rfl (by decide +kernel) ⟨Nat.le_of_ble_eq_true rfl, Nat.le_of_ble_eq_true rfl⟩) hP hS hA0 rfl rfl (Nat.le_of_ble_eq_true rfl) d_B_price_19 ⟨Nat.le_of_ble_eq_true rfl, Nat.le_of_ble_eq_true rfl⟩) hP hS hA0 (fun E ce q9 H locs hE hP hS h1 h2 h3 => x_out C hex hP hS (Or.inr ⟨hE.1, ⟨⟨i, hi, rfl⟩, ⟨z1, hz1, rfl⟩⟩, fun z9 => hE.2 ((nu_chk (by decide) (by decide)).mpr z9.1)⟩) h1 h2 h3 (Nat.le_of_ble_eq_true rfl) (Nat.le_of_ble_eq_true rfl)) (fun f5 H locs hq hP hS => ?_)
  obtain ⟨hu, q_z⟩ := hq
  have hm0 : (1 : Int32) ≤ m0 ∧ m0 ≤ 10000 := (nu_chk (by decide) (by decide)).mp q_z
  rw [hu] at hP
  refine lv_lload_n hx hb d_B_price_22 rfl (lv_at hl 4 rfl) ?_
  refine lv_lconst (v := 1) hx hb d_B_price_23 (by decide) ?_
  refine lv_ldc2 hx hb hown (C.w wd_267) d_B_price_24 ?_
  refine x_callv (x_runS C hN hZ hl.1 (ct_B_checkNumber (sa := sa) hl0 f c0 1 1000000 _) (cx_S C 3 wd_75 wd_76 wd_1 wd_77 rfl rfl (by decide +kernel) ⟨Nat.le_of_ble_eq_true rfl, Nat.le_of_ble_eq_true rfl⟩) hP hS hA0 rfl rfl (Nat.le_of_ble_eq_true rfl) d_B_price_27 ⟨Nat.le_of_ble_eq_true rfl, Nat.le_of_ble_eq_true rfl⟩) hP hS hA0 (fun E ce q9 H locs hE hP hS h1 h2 h3 => x_out C hex hP hS (Or.inr ⟨hE.1, ⟨⟨i, hi, rfl⟩, ⟨z1, hz1, rfl⟩⟩, fun z9 => hE.2 z9.2⟩) h1 h2 h3 (Nat.le_of_ble_eq_true rfl) (Nat.le_of_ble_eq_true rfl)) (fun f7 H locs hq hP hS => ?_)
  obtain ⟨hu, hc0⟩ := hq
  rw [hu] at hP
  have hN0 : N_price m0 c0 := ⟨hm0, hc0⟩
  obtain ⟨x1, hx1, hx2, rfl⟩ := nu_nat1 (n := 10000) hm0 (by decide)
  obtain ⟨y1, hy1, hy2, rfl⟩ := lu_nat1 (n := 1000000) hc0 (by decide)
  refine lv_aload hx hb d_B_price_30 (lv_at hl 0 rfl) ?_
  refine g_get C i_P hP hp_.1.1 rfl 5 (by decide) wd_201 rfl rfl d_B_price_32 ?_
  refine lv_iload_n hx hb d_B_price_35 rfl (lv_at hl 3 rfl) ?_
  refine lv_i2l (v := (nI x1).toInt64) hx hb d_B_price_36 rfl ?_
  refine g_eql (y := lN x1) (nI_l (by omega)) ?_
  refine lv_lload_n hx hb d_B_price_37 rfl (lv_at hl 4 rfl) ?_
  refine lv_iload hx hb d_B_price_38 (lv_at hl 5 rfl) ?_
  refine g_calli (g_runV C hl.1 (ct_S_tell f (aAd a i 3) (aAd a i 4) (aAd a i 5) (aAd a i 6) (pN1 (bD b i)) _ _ _ hp_.1.2.2.2.1 (fun z => absurd (hk.2.2.1 i 4 i 5 hi (by decide) hi (by decide) z).2 (by decide)) hD_.1.2.2.1 (lN x1) (lN y1) (nI z1) _) (cx_V C 3 wd_352 wd_353 wd_354 wd_9 wd_355 rfl rfl (by decide +kernel) ⟨Nat.le_of_ble_eq_true rfl, Nat.le_of_ble_eq_true rfl⟩) hP hp_.1.2.2.2.1.1 rfl rfl rfl (Nat.le_of_ble_eq_true rfl) d_B_price_40 ⟨Nat.le_of_ble_eq_true rfl, Nat.le_of_ble_eq_true rfl⟩) hP hS hA0 (fun r10 f9 H locs hq hP hS => ?_)
  obtain ⟨⟨k, hk1, hk2, hk3, hk4⟩, hE1⟩ := hq
  have hT : ∃ D1, telP (bD b i) x1 y1 z1 r10 D1 ∧ pV G f9 (aAd a i) i D1 (aSm a i) := by
    have hpl : pl_ (· ≤ ·) (pN1 (bD b i)) (pB1 (bD b i)) x1 k := ⟨hk1, fun j hj => (pk_lLE (by have := (hD_.2.2.1 j (by omega)).1; omega) (by omega)).mp (hk2 j hj), fun hj z => hk3 hj ((pk_lLE (by have := (hD_.2.2.1 k hj).1; omega) (by omega)).mpr z)⟩
    have hne : (k = 0 ∨ lN (pB1 (bD b i) (k - 1)) ≠ lN x1) → (k = 0 ∨ pB1 (bD b i) (k - 1) ≠ x1) := fun h => h.imp id (fun h z => h (by rw [z]))
    rcases hk4 with ⟨j, rfl, e1, e2, e3⟩ | ⟨e1, e2, e3, e4⟩ | ⟨e1, e2, e3, e4⟩
    · have hj8 := hD_.2.2.1 j (by omega)
      have e1b : pB1 (bD b i) j = x1 := (pk_lEQ (by omega) (by omega)).mp e1
      refine ⟨_, ⟨j + 1, hpl, Or.inl ⟨j, rfl, e1b, ?_, rfl⟩⟩, pV_pr hp_ (hk.2.2.1 i · i · hi · hi ·) hE1 ?_⟩
      · rw [e2]; exact if_cg (and_congr (pk_lEQ (by omega) (by omega)) (nI_eq (by omega) (by omega)))
      · rw [updL_va, up_id (g := fun j => lN (pB1 (bD b i) j)) e1, updL_lN, upd_nI] at e3; exact e3
    · refine ⟨bD b i, ⟨k, hpl, Or.inr (Or.inl ⟨hne e1, e2, e3, rfl⟩)⟩, ?_⟩
      rw [e4]; exact hp_
    · refine ⟨_, ⟨k, hpl, Or.inr (Or.inr ⟨hne e1, e2, e3, rfl⟩)⟩, pV_pr hp_ (hk.2.2.1 i · i · hi · hi ·) hE1 ?_⟩
      rw [sh_f lN, sh_f lN, sh_f nI, updL_lN, updL_lN, upd_nI] at e4; exact e4
  obtain ⟨D1, hT1, hT2⟩ := hT
  have hDok := telP_ok hT1 hD_ ⟨hx1, hx2⟩ ⟨hy1, hy2⟩ hz1
  refine vx_ret ?_
  exact g_zret C ((by obtain ⟨k, -, h⟩ := hT1; rcases h with ⟨j, -, -, e, -⟩ | ⟨-, -, e, -⟩ | ⟨-, -, e, -⟩; exact if_01 e; exact Or.inl e; exact Or.inr e)) hP hS (⟨⟨⟨i, hi, rfl⟩, ⟨z1, hz1, rfl⟩⟩, hN0, _, _, bk_upd (S := [aAd a i 3, aAd a i 4, aAd a i 5, aAd a i 6]) hk hi hE1 (mem_4 (by decide) (by decide) (by decide) (by decide)) hT2 (Or.inl rfl) hDok, i, x1, y1, z1, D1, hi, rfl, ⟨hx1, hx2⟩, rfl, ⟨hy1, hy2⟩, rfl, hz1, rfl, hT1, rfl⟩) (Nat.le_of_ble_eq_true rfl) (Nat.le_of_ble_eq_true rfl) d_B_price_43
set_option maxHeartbeats 4000000 in
set_option maxRecDepth 100000 in
theorem ct_B_life {l : Launch} {G : hG} {sa : xS} (hl0 : l.stackTraces = false) (f : hm) (x : Nat) (a : AD) (b : BD) (hk : bk G f x a b) (p0 : Int32) (d0 : Int64) (s0 : Int32) : xi_ l G sa y_B_life w_B_life { frames := 7, cells := 2, slots := 12, locals := 120 } [.ref x, .int p0, .long d0, .int s0] f (fun r u => okx p0 (bN b) ∧ N_life s0 ∧ ∃ a1 b1, bk G u x a1 b1 ∧ K_life b p0 d0 s0 r b1) (bad (okx p0 (bN b)) (N_life s0)) := by
  intro sz
  refine x_ofW (cc := c_B_life) (maxL := 6) (ret := (some .boolean)) (by decide) rfl (Nat.le_of_ble_eq_true rfl) ?_
  intro p e s m below meth c ls C hex hN hZ hsz hP hl
  obtain ⟨hx, hb, hml, hown, -, -, -, -⟩ := id C
  subst hsz
  have hA0 : ∀ q, s.heap.size ≤ q → hA f s.heap.size q := hA.new
  have hS : va_S (hA f s.heap.size) s.heap s.heap [] := va_S.rf
  replace hl : lv_has ls 6 [(0, .ref x), (1, .int p0), (2, .long d0), (4, .int s0)] := hl
  have hNN : bN b ≤ 40 := hk.2.2.2.2.1.1
  have hRC : bRc b ≤ 10 := hk.2.2.2.2.1.2.1
  have hHC : bHc b ≤ 40 := hk.2.2.2.2.1.2.2
  refine lv_aload_n hx hb d_B_life_0 rfl (lv_at hl 0 rfl) ?_
  refine lv_iload_n hx hb d_B_life_1 rfl (lv_at hl 1 rfl) ?_
  refine x_callq (x_runV C hN hZ hl.1 (ct_B_partOf (sa := sa) hl0 f x p0 (aPa a) (bN b) _ _ _ _ _ _ _ (fun i => aAd a i 0) hNN hk.1.1 hk.1.2.1 (fun j hj => if_pos hj) _) (cx_V C 1 wd_239 wd_241 wp_1 wd_1 wd_242 rfl rfl (by decide +kernel) ⟨Nat.le_of_ble_eq_true rfl, Nat.le_of_ble_eq_true rfl⟩) hP hS hA0 hk.1.1 rfl rfl rfl (Nat.le_of_ble_eq_true rfl) d_B_life_2 ⟨Nat.le_of_ble_eq_true rfl, Nat.le_of_ble_eq_true rfl⟩) hP hS hA0 (fun E ce q9 H locs hE hP hS h1 h2 h3 => x_out C hex hP hS (Or.inl hE) h1 h2 h3 (Nat.le_of_ble_eq_true rfl) (Nat.le_of_ble_eq_true rfl)) (fun r2 f1 H locs hq hP hS => ?_)
  obtain ⟨hu, i, hi, rfl, rfl⟩ := hq
  rw [hu] at hP
  have hp_ := hk.2.1 i hi
  have hD_ := hk.2.2.2.2.2.1 i hi
  refine lv_astore (lv' := [(5, .ref (aAd a i 0)), (0, .ref x), (1, .int (nI i)), (2, .long d0), (4, .int s0)]) hx hb d_B_life_5 hl (by decide) rfl (fun ls hl => ?_)
  refine lv_iload hx hb d_B_life_7 (lv_at hl 4 rfl) ?_
  refine lv_i2l (v := s0.toInt64) hx hb d_B_life_9 rfl ?_
  refine lv_lconst (v := 0) hx hb d_B_life_10 (by decide) ?_
  refine lv_ldc2 hx hb hown (C.w wd_407) d_B_life_11 ?_
  refine x_callv (x_runS C hN hZ hl.1 (ct_B_checkNumber (sa := sa) hl0 f (s0).toInt64 0 3 _) (cx_S C 3 wd_75 wd_76 wd_1 wd_77 rfl rfl (by decide +kernel) ⟨Nat.le_of_ble_eq_true rfl, Nat.le_of_ble_eq_true rfl⟩) hP hS hA0 rfl rfl (Nat.le_of_ble_eq_true rfl) d_B_life_14 ⟨Nat.le_of_ble_eq_true rfl, Nat.le_of_ble_eq_true rfl⟩) hP hS hA0 (fun E ce q9 H locs hE hP hS h1 h2 h3 => x_out C hex hP hS (Or.inr ⟨hE.1, ⟨i, hi, rfl⟩, fun z9 => hE.2 ((nu_chk (by decide) (by decide)).mpr z9)⟩) h1 h2 h3 (Nat.le_of_ble_eq_true rfl) (Nat.le_of_ble_eq_true rfl)) (fun f3 H locs hq hP hS => ?_)
  obtain ⟨hu, q_z⟩ := hq
  have hs0 : (0 : Int32) ≤ s0 ∧ s0 ≤ 3 := (nu_chk (by decide) (by decide)).mp q_z
  rw [hu] at hP
  have hN0 : N_life s0 := hs0
  obtain ⟨z1, hz1, rfl⟩ := nu_nat (n := 3) hs0 (by decide)
  refine lv_aload hx hb d_B_life_17 (lv_at hl 0 rfl) ?_
  refine g_get C i_P hP hp_.1.1 rfl 6 (by decide) wd_203 rfl rfl d_B_life_19 ?_
  refine lv_lload_n hx hb d_B_life_22 rfl (lv_at hl 3 rfl) ?_
  refine lv_lconst (v := 0) hx hb d_B_life_23 (by decide) ?_
  refine lv_iload hx hb d_B_life_24 (lv_at hl 4 rfl) ?_
  refine g_calli (g_runV C hl.1 (ct_S_tell f (aAd a i 7) (aAd a i 8) (aAd a i 9) (aAd a i 10) (pN2 (bD b i)) _ _ _ hp_.1.2.2.2.2.1 (fun z => absurd (hk.2.2.1 i 8 i 9 hi (by decide) hi (by decide) z).2 (by decide)) hD_.1.2.2.2.1 d0 0 (nI z1) _) (cx_V C 3 wd_352 wd_353 wd_354 wd_9 wd_355 rfl rfl (by decide +kernel) ⟨Nat.le_of_ble_eq_true rfl, Nat.le_of_ble_eq_true rfl⟩) hP hp_.1.2.2.2.2.1.1 rfl rfl rfl (Nat.le_of_ble_eq_true rfl) d_B_life_26 ⟨Nat.le_of_ble_eq_true rfl, Nat.le_of_ble_eq_true rfl⟩) hP hS hA0 (fun r6 f5 H locs hq hP hS => ?_)
  obtain ⟨⟨k, hk1, hk2, hk3, hk4⟩, hE1⟩ := hq
  have hT : ∃ D1, telD (bD b i) d0 z1 r6 D1 ∧ pV G f5 (aAd a i) i D1 (aSm a i) := by
    have hpl : pl_ (· ≤ ·) (pN2 (bD b i)) (pB2 (bD b i)) d0 k := ⟨hk1, hk2, hk3⟩
    have hz0 : ∀ j, vp_updL (fun _ => (0 : Int64)) j 0 = fun _ => 0 := fun j => by rw [updL_va]; exact up_id rfl
    have hs0 : ∀ k n, sh (fun _ => (0 : Int64)) k n = fun _ => 0 := fun k n => by funext j; unfold sh; by_cases h : k < j ∧ j ≤ n; rw [if_pos h]; rw [if_neg h]
    rcases hk4 with ⟨j, rfl, e1, e2, e3⟩ | ⟨e1, e2, e3, e4⟩ | ⟨e1, e2, e3, e4⟩
    · have hj8 := hD_.2.2.2.2.1 j (by omega)
      refine ⟨_, ⟨j + 1, hpl, Or.inl ⟨j, rfl, e1, ?_, rfl⟩⟩, pV_dy hp_ (hk.2.2.1 i · i · hi · hi ·) hE1 ?_⟩
      · rw [e2]; exact if_cg ((and_iff_right rfl).trans (nI_eq (by omega) (by omega)))
      · rw [updL_va, up_id e1, hz0, upd_nI] at e3; exact e3
    · refine ⟨bD b i, ⟨k, hpl, Or.inr (Or.inl ⟨e1, e2, e3, rfl⟩)⟩, ?_⟩
      rw [e4]; exact hp_
    · refine ⟨_, ⟨k, hpl, Or.inr (Or.inr ⟨e1, e2, e3, rfl⟩)⟩, pV_dy hp_ (hk.2.2.1 i · i · hi · hi ·) hE1 ?_⟩
      rw [hs0, sh_f nI, updL_va, hz0, upd_nI] at e4; exact e4
  obtain ⟨D1, hT1, hT2⟩ := hT
  have hDok := telD_ok hT1 hD_ hz1
  refine vx_ret ?_
  exact g_zret C ((by obtain ⟨k, -, h⟩ := hT1; rcases h with ⟨j, -, -, e, -⟩ | ⟨-, -, e, -⟩ | ⟨-, -, e, -⟩; exact if_01 e; exact Or.inl e; exact Or.inr e)) hP hS (⟨⟨i, hi, rfl⟩, hN0, _, _, bk_upd (S := [aAd a i 7, aAd a i 8, aAd a i 9, aAd a i 10]) hk hi hE1 (mem_4 (by decide) (by decide) (by decide) (by decide)) hT2 (Or.inl rfl) hDok, i, z1, D1, hi, rfl, hz1, rfl, hT1, rfl⟩) (Nat.le_of_ble_eq_true rfl) (Nat.le_of_ble_eq_true rfl) d_B_life_29
set_option maxHeartbeats 4000000 in
set_option maxRecDepth 100000 in
theorem ct_B_pack {l : Launch} {G : hG} {sa : xS} (hl0 : l.stackTraces = false) (f : hm) (x : Nat) (a : AD) (b : BD) (hk : bk G f x a b) (p0 s0 : Int32) : xi_ l G sa y_B_pack w_B_pack { frames := 7, cells := 3, slots := 325, locals := 150 } [.ref x, .int p0, .int s0] f (fun r u => okx p0 (bN b) ∧ N_pack s0 ∧ ∃ a1 b1, bk G u x a1 b1 ∧ K_pack b p0 s0 r b1) (bad (okx p0 (bN b)) (N_pack s0)) := by
  intro sz
  refine x_ofW (cc := c_B_pack) (maxL := 4) (ret := (some .boolean)) (by decide) rfl (Nat.le_of_ble_eq_true rfl) ?_
  intro p e s m below meth c ls C hex hN hZ hsz hP hl
  obtain ⟨hx, hb, hml, hown, -, -, -, -⟩ := id C
  subst hsz
  have hA0 : ∀ q, s.heap.size ≤ q → hA f s.heap.size q := hA.new
  have hS : va_S (hA f s.heap.size) s.heap s.heap [] := va_S.rf
  replace hl : lv_has ls 4 [(0, .ref x), (1, .int p0), (2, .int s0)] := hl
  have hNN : bN b ≤ 40 := hk.2.2.2.2.1.1
  have hRC : bRc b ≤ 10 := hk.2.2.2.2.1.2.1
  have hHC : bHc b ≤ 40 := hk.2.2.2.2.1.2.2
  refine lv_aload_n hx hb d_B_pack_0 rfl (lv_at hl 0 rfl) ?_
  refine lv_iload_n hx hb d_B_pack_1 rfl (lv_at hl 1 rfl) ?_
  refine x_callq (x_runV C hN hZ hl.1 (ct_B_partOf (sa := sa) hl0 f x p0 (aPa a) (bN b) _ _ _ _ _ _ _ (fun i => aAd a i 0) hNN hk.1.1 hk.1.2.1 (fun j hj => if_pos hj) _) (cx_V C 1 wd_239 wd_241 wp_1 wd_1 wd_242 rfl rfl (by decide +kernel) ⟨Nat.le_of_ble_eq_true rfl, Nat.le_of_ble_eq_true rfl⟩) hP hS hA0 hk.1.1 rfl rfl rfl (Nat.le_of_ble_eq_true rfl) d_B_pack_2 ⟨Nat.le_of_ble_eq_true rfl, Nat.le_of_ble_eq_true rfl⟩) hP hS hA0 (fun E ce q9 H locs hE hP hS h1 h2 h3 => x_out C hex hP hS (Or.inl hE) h1 h2 h3 (Nat.le_of_ble_eq_true rfl) (Nat.le_of_ble_eq_true rfl)) (fun r2 f1 H locs hq hP hS => ?_)
  obtain ⟨hu, i, hi, rfl, rfl⟩ := hq
  rw [hu] at hP
  have hp_ := hk.2.1 i hi
  have hD_ := hk.2.2.2.2.2.1 i hi
  refine lv_astore_n (lv' := [(3, .ref (aAd a i 0)), (0, .ref x), (1, .int (nI i)), (2, .int s0)]) hx hb d_B_pack_5 rfl hl (by decide) rfl (fun ls hl => ?_)
  refine lv_iload_n hx hb d_B_pack_6 rfl (lv_at hl 3 rfl) ?_
  refine lv_i2l (v := s0.toInt64) hx hb d_B_pack_7 rfl ?_
  refine lv_lconst (v := 1) hx hb d_B_pack_8 (by decide) ?_
  refine lv_ldc2 hx hb hown (C.w wd_27) d_B_pack_9 ?_
  refine x_callv (x_runS C hN hZ hl.1 (ct_B_checkNumber (sa := sa) hl0 f (s0).toInt64 1 1000 _) (cx_S C 3 wd_75 wd_76 wd_1 wd_77 rfl rfl (by decide +kernel) ⟨Nat.le_of_ble_eq_true rfl, Nat.le_of_ble_eq_true rfl⟩) hP hS hA0 rfl rfl (Nat.le_of_ble_eq_true rfl) d_B_pack_12 ⟨Nat.le_of_ble_eq_true rfl, Nat.le_of_ble_eq_true rfl⟩) hP hS hA0 (fun E ce q9 H locs hE hP hS h1 h2 h3 => x_out C hex hP hS (Or.inr ⟨hE.1, ⟨i, hi, rfl⟩, fun z9 => hE.2 ((nu_chk (by decide) (by decide)).mpr z9)⟩) h1 h2 h3 (Nat.le_of_ble_eq_true rfl) (Nat.le_of_ble_eq_true rfl)) (fun f3 H locs hq hP hS => ?_)
  obtain ⟨hu, q_z⟩ := hq
  have hs0 : (1 : Int32) ≤ s0 ∧ s0 ≤ 1000 := (nu_chk (by decide) (by decide)).mp q_z
  rw [hu] at hP
  have hN0 : N_pack s0 := hs0
  obtain ⟨t1, ht1, ht2, rfl⟩ := nu_nat1 (n := 1000) hs0 (by decide)
  refine lv_aload_n hx hb d_B_pack_15 rfl (lv_at hl 0 rfl) ?_
  refine g_get C i_P hP hp_.1.1 rfl 7 (by decide) wd_205 rfl rfl d_B_pack_16 ?_
  refine lv_iload_n hx hb d_B_pack_19 rfl (lv_at hl 3 rfl) ?_
  refine g_calli (g_runV C hl.1 (ct_K_add f (aAd a i 11) (aAd a i 12) (pNp (bD b i)) t1 _ (aSm a i) (pW (bD b i)) hD_.1.2.2.2.2 ht1 ht2 hD_.2.2.2.2.2.2.2.1 hp_.1.2.2.2.2.2.1 hp_.1.2.2.2.2.2.2 (fun z => hD_.2.2.2.2.2.2.2.2.1 (hp_.2.2.mp z)) hp_.2.1 _) (cx_V C 1 wd_378 wd_379 wd_380 wd_10 wd_381 rfl rfl (by decide +kernel) ⟨Nat.le_of_ble_eq_true rfl, Nat.le_of_ble_eq_true rfl⟩) hP hp_.1.2.2.2.2.2.1 rfl rfl rfl (Nat.le_of_ble_eq_true rfl) d_B_pack_20 ⟨Nat.le_of_ble_eq_true rfl, Nat.le_of_ble_eq_true rfl⟩) hP hS hA0 (fun r6 f5 H locs hq hP hS => ?_)
  have hT := pak_T hk hi hp_ hD_ ht1 ht2 hq
  obtain ⟨D1, sq, Sx, hT1, hT2, hE1, hSx, hsq, hDok⟩ := hT
  refine vx_ret ?_
  exact g_zret C (by rcases hT1 with h | h; exact Or.inl h.1; exact Or.inr h.1) hP hS (⟨⟨i, hi, rfl⟩, hN0, _, _, bk_upd (S := Sx) hk hi hE1 hSx hT2 hsq hDok, i, t1, D1, hi, rfl, ht1, ht2, rfl, hT1, rfl⟩) (Nat.le_of_ble_eq_true rfl) (Nat.le_of_ble_eq_true rfl) d_B_pack_23
set_option maxHeartbeats 4000000 in
set_option maxRecDepth 100000 in
theorem ct_B_derate {l : Launch} {G : hG} {sa : xS} (hl0 : l.stackTraces = false) (f : hm) (x : Nat) (a : AD) (b : BD) (hk : bk G f x a b) (p0 n0 : Int32) (x0 y0 : Int64) (q0 : Int32) : xi_ l G sa y_B_derate w_B_derate { frames := 8, cells := 5, slots := 30, locals := 160 } [.ref x, .int p0, .int n0, .long x0, .long y0, .int q0] f (fun r u => I_pn b p0 n0 ∧ N_derate x0 y0 q0 ∧ K_derate b p0 n0 x0 y0 q0 r ∧ u = f) (bad (I_pn b p0 n0) (N_derate x0 y0 q0)) := by
  intro sz
  refine x_ofW (cc := c_B_derate) (maxL := 9) (ret := (some .int)) (by decide) rfl (Nat.le_of_ble_eq_true rfl) ?_
  intro p e s m below meth c ls C hex hN hZ hsz hP hl
  obtain ⟨hx, hb, hml, hown, -, -, -, -⟩ := id C
  subst hsz
  have hA0 : ∀ q, s.heap.size ≤ q → hA f s.heap.size q := hA.new
  have hS : va_S (hA f s.heap.size) s.heap s.heap [] := va_S.rf
  replace hl : lv_has ls 9 [(0, .ref x), (1, .int p0), (2, .int n0), (3, .long x0), (5, .long y0), (7, .int q0)] := hl
  have hNN : bN b ≤ 40 := hk.2.2.2.2.1.1
  have hRC : bRc b ≤ 10 := hk.2.2.2.2.1.2.1
  have hHC : bHc b ≤ 40 := hk.2.2.2.2.1.2.2
  refine lv_aload_n hx hb d_B_derate_0 rfl (lv_at hl 0 rfl) ?_
  refine lv_iload_n hx hb d_B_derate_1 rfl (lv_at hl 1 rfl) ?_
  refine x_callq (x_runV C hN hZ hl.1 (ct_B_partOf (sa := sa) hl0 f x p0 (aPa a) (bN b) _ _ _ _ _ _ _ (fun i => aAd a i 0) hNN hk.1.1 hk.1.2.1 (fun j hj => if_pos hj) _) (cx_V C 1 wd_239 wd_241 wp_1 wd_1 wd_242 rfl rfl (by decide +kernel) ⟨Nat.le_of_ble_eq_true rfl, Nat.le_of_ble_eq_true rfl⟩) hP hS hA0 hk.1.1 rfl rfl rfl (Nat.le_of_ble_eq_true rfl) d_B_derate_2 ⟨Nat.le_of_ble_eq_true rfl, Nat.le_of_ble_eq_true rfl⟩) hP hS hA0 (fun E ce q9 H locs hE hP hS h1 h2 h3 => x_out C hex hP hS (Or.inl ⟨hE.1, fun z9 => hE.2 z9.1⟩) h1 h2 h3 (Nat.le_of_ble_eq_true rfl) (Nat.le_of_ble_eq_true rfl)) (fun r2 f1 H locs hq hP hS => ?_)
  obtain ⟨hu, i, hi, rfl, rfl⟩ := hq
  rw [hu] at hP
  have hp_ := hk.2.1 i hi
  have hD_ := hk.2.2.2.2.2.1 i hi
  refine lv_astore (lv' := [(8, .ref (aAd a i 0)), (0, .ref x), (1, .int (nI i)), (2, .int n0), (3, .long x0), (5, .long y0), (7, .int q0)]) hx hb d_B_derate_5 hl (by decide) rfl (fun ls hl => ?_)
  refine lv_iload_n hx hb d_B_derate_7 rfl (lv_at hl 3 rfl) ?_
  refine lv_bipush (v := 12) hx hb d_B_derate_8 (by decide) ?_
  refine x_callv (x_runS C hN hZ hl.1 (ct_B_checkIndex (sa := sa) hl0 f n0 (nI 12) _) (cx_S C 2 wd_259 wd_260 wd_1 wd_261 rfl rfl (by decide +kernel) ⟨Nat.le_of_ble_eq_true rfl, Nat.le_of_ble_eq_true rfl⟩) hP hS hA0 rfl rfl (Nat.le_of_ble_eq_true rfl) d_B_derate_10 ⟨Nat.le_of_ble_eq_true rfl, Nat.le_of_ble_eq_true rfl⟩) hP hS hA0 (fun E ce q9 H locs hE hP hS h1 h2 h3 => x_out C hex hP hS (Or.inl ⟨hE.1, fun z9 => hE.2 ((ix_chk (n := 12) (by omega)).mpr z9.2)⟩) h1 h2 h3 (Nat.le_of_ble_eq_true rfl) (Nat.le_of_ble_eq_true rfl)) (fun f3 H locs hq hP hS => ?_)
  obtain ⟨hu, q_z⟩ := hq
  obtain ⟨j, hj, rfl⟩ := (ix_chk (n := 12) (by omega)).mp q_z
  rw [hu] at hP
  refine lv_lload_n hx hb d_B_derate_13 rfl (lv_at hl 4 rfl) ?_
  refine lv_lload hx hb d_B_derate_14 (lv_at hl 5 rfl) ?_
  refine x_callv (x_runS C hN hZ hl.1 (ct_B_checkFraction (sa := sa) hl0 f x0 y0 _) (cx_S C 2 wd_263 wd_264 wd_1 wd_265 rfl rfl (by decide +kernel) ⟨Nat.le_of_ble_eq_true rfl, Nat.le_of_ble_eq_true rfl⟩) hP hS hA0 rfl rfl (Nat.le_of_ble_eq_true rfl) d_B_derate_16 ⟨Nat.le_of_ble_eq_true rfl, Nat.le_of_ble_eq_true rfl⟩) hP hS hA0 (fun E ce q9 H locs hE hP hS h1 h2 h3 => x_out C hex hP hS (Or.inr ⟨hE.1, ⟨⟨i, hi, rfl⟩, ⟨j, hj, rfl⟩⟩, fun z9 => hE.2 z9.1⟩) h1 h2 h3 (Nat.le_of_ble_eq_true rfl) (Nat.le_of_ble_eq_true rfl)) (fun f5 H locs hq hP hS => ?_)
  obtain ⟨hu, hf0⟩ := hq
  rw [hu] at hP
  refine lv_iload hx hb d_B_derate_19 (lv_at hl 6 rfl) ?_
  refine lv_i2l (v := q0.toInt64) hx hb d_B_derate_21 rfl ?_
  refine lv_lconst (v := 1) hx hb d_B_derate_22 (by decide) ?_
  refine lv_ldc2 hx hb hown (C.w wd_498) d_B_derate_23 ?_
  refine x_callv (x_runS C hN hZ hl.1 (ct_B_checkNumber (sa := sa) hl0 f (q0).toInt64 1 100 _) (cx_S C 3 wd_75 wd_76 wd_1 wd_77 rfl rfl (by decide +kernel) ⟨Nat.le_of_ble_eq_true rfl, Nat.le_of_ble_eq_true rfl⟩) hP hS hA0 rfl rfl (Nat.le_of_ble_eq_true rfl) d_B_derate_26 ⟨Nat.le_of_ble_eq_true rfl, Nat.le_of_ble_eq_true rfl⟩) hP hS hA0 (fun E ce q9 H locs hE hP hS h1 h2 h3 => x_out C hex hP hS (Or.inr ⟨hE.1, ⟨⟨i, hi, rfl⟩, ⟨j, hj, rfl⟩⟩, fun z9 => hE.2 ((nu_chk (by decide) (by decide)).mpr z9.2)⟩) h1 h2 h3 (Nat.le_of_ble_eq_true rfl) (Nat.le_of_ble_eq_true rfl)) (fun f7 H locs hq hP hS => ?_)
  obtain ⟨hu, q_z⟩ := hq
  have hq0 : (1 : Int32) ≤ q0 ∧ q0 ≤ 100 := (nu_chk (by decide) (by decide)).mp q_z
  rw [hu] at hP
  have hN0 : N_derate x0 y0 q0 := ⟨hf0, hq0⟩
  obtain ⟨a1, ha1, rfl⟩ := lu_nat (n := 1000000000) hf0.1 (by decide)
  obtain ⟨c1, hc1, hc2, rfl⟩ := lu_nat1 (n := 1000000) hf0.2 (by decide)
  obtain ⟨w1, hw1, hw2, rfl⟩ := nu_nat1 (n := 100) hq0 (by decide)
  have hcw0 : 0 < c1 * w1 := Nat.mul_pos hc1 hw1
  have hcw : c1 * w1 ≤ 1000000 * 100 := Nat.mul_le_mul hc2 hw2
  refine lv_aload hx hb d_B_derate_29 (lv_at hl 0 rfl) ?_
  refine lv_iload_n hx hb d_B_derate_31 rfl (lv_at hl 3 rfl) ?_
  refine g_calli (g_runV C hl.1 (ct_P_has f _ _ _ _ _ _ _ _ _ hp_.1.1 _ hp_.1.2.2.1 j hj _) (cx_V C 1 wd_291 wd_292 wd_293 wd_8 wd_294 rfl rfl (by decide +kernel) ⟨Nat.le_of_ble_eq_true rfl, Nat.le_of_ble_eq_true rfl⟩) hP hp_.1.1 rfl rfl rfl (Nat.le_of_ble_eq_true rfl) d_B_derate_32 ⟨Nat.le_of_ble_eq_true rfl, Nat.le_of_ble_eq_true rfl⟩) hP hS hA0 (fun r10 f9 H locs hq hP hS => ?_)
  obtain ⟨rfl, hu⟩ := hq
  rw [hu] at hP
  refine lv_if_ne (tgt := 40) hx hb d_B_derate_35 (by decide) (fun c_35 => ?_) (fun c_35 => ?_)
  · have q_1 : ¬ pVb (bD b i) j = 0 := fun z9 => c_35 (if_pos (by show lN _ = 0; rw [z9]; rfl))
    refine lv_aload hx hb d_B_derate_40 (lv_at hl 0 rfl) ?_
    refine lv_iload_n hx hb d_B_derate_42 rfl (lv_at hl 3 rfl) ?_
    refine lv_lload_n hx hb d_B_derate_43 rfl (lv_at hl 4 rfl) ?_
    refine lv_ldc2 hx hb hown (C.w wd_498) d_B_derate_44 ?_
    refine lv_lmul hx hb d_B_derate_47 ?_
    refine g_eql (y := lN (a1 * 100)) (lN_mul _ _) ?_
    refine lv_lload hx hb d_B_derate_48 (lv_at hl 5 rfl) ?_
    refine lv_iload hx hb d_B_derate_50 (lv_at hl 6 rfl) ?_
    refine lv_i2l (v := (nI w1).toInt64) hx hb d_B_derate_52 rfl ?_
    refine g_eql (y := lN w1) (nI_l (by omega)) ?_
    refine lv_lmul hx hb d_B_derate_53 ?_
    refine g_eql (y := lN (c1 * w1)) (lN_mul _ _) ?_
    refine g_calli (g_runV C hl.1 (ct_P_against f _ _ _ _ _ _ _ _ _ hp_.1.1 _ _ hp_.1.2.1 hp_.1.2.2.1 j hj (pVa (bD b i) j) (pVb (bD b i) j) (a1 * 100) (c1 * w1) (hD_.2.1 j).1 (Nat.pos_of_ne_zero q_1) (hD_.2.1 j).2 (by omega) hcw0 (by omega) rfl rfl _) (cx_V C 3 wd_318 wd_319 wd_320 wd_8 wd_321 rfl rfl (by decide +kernel) ⟨Nat.le_of_ble_eq_true rfl, Nat.le_of_ble_eq_true rfl⟩) hP hp_.1.1 rfl rfl rfl (Nat.le_of_ble_eq_true rfl) d_B_derate_54 ⟨Nat.le_of_ble_eq_true rfl, Nat.le_of_ble_eq_true rfl⟩) hP hS hA0 (fun r12 f11 H locs hq hP hS => ?_)
    obtain ⟨rfl, hu⟩ := hq
    rw [hu] at hP
    refine lv_if_lt (tgt := 64) hx hb d_B_derate_57 (by decide) (fun c_57 => ?_) (fun c_57 => ?_)
    · have q_2 : ¬ (a1 * 100) * pVb (bD b i) j ≤ pVa (bD b i) j * (c1 * w1) := fun z9 => cq_nn c_57 z9
      refine lv_iconst (v := 0) hx hb d_B_derate_64 (by decide) ?_
      refine vx_ret ?_
      exact g_iret C hP hS (⟨⟨⟨i, hi, rfl⟩, ⟨j, hj, rfl⟩⟩, hN0, ⟨i, j, a1, c1, w1, hi, rfl, hj, rfl, ha1, rfl, hc1, hc2, rfl, hw1, hw2, rfl, by rw [if_neg q_1, if_neg q_2]⟩, rfl⟩) (Nat.le_of_ble_eq_true rfl) (Nat.le_of_ble_eq_true rfl) d_B_derate_65
    · have q_2 : (a1 * 100) * pVb (bD b i) j ≤ pVa (bD b i) j * (c1 * w1) := cq_ge c_57
      refine lv_iconst (v := 1) hx hb d_B_derate_60 (by decide) ?_
      refine lv_goto (tgt := 65) hx hb d_B_derate_61 (by decide) ?_
      refine vx_ret ?_
      exact g_iret C hP hS (⟨⟨⟨i, hi, rfl⟩, ⟨j, hj, rfl⟩⟩, hN0, ⟨i, j, a1, c1, w1, hi, rfl, hj, rfl, ha1, rfl, hc1, hc2, rfl, hw1, hw2, rfl, by rw [if_neg q_1, if_pos q_2]⟩, rfl⟩) (Nat.le_of_ble_eq_true rfl) (Nat.le_of_ble_eq_true rfl) d_B_derate_65
  · have q_1 : pVb (bD b i) j = 0 := has_0 (hD_.2.1 j).2 c_35
    refine lv_iconst (v := (-1)) hx hb d_B_derate_38 (by decide) ?_
    refine vx_ret ?_
    exact g_iret C hP hS (⟨⟨⟨i, hi, rfl⟩, ⟨j, hj, rfl⟩⟩, hN0, ⟨i, j, a1, c1, w1, hi, rfl, hj, rfl, ha1, rfl, hc1, hc2, rfl, hw1, hw2, rfl, by rw [if_pos q_1]⟩, rfl⟩) (Nat.le_of_ble_eq_true rfl) (Nat.le_of_ble_eq_true rfl) d_B_derate_39
set_option maxHeartbeats 4000000 in
set_option maxRecDepth 100000 in
theorem ct_B_value {l : Launch} {G : hG} {sa : xS} (hl0 : l.stackTraces = false) (f : hm) (x : Nat) (a : AD) (b : BD) (hk : bk G f x a b) (p0 n0 : Int32) (x0 y0 : Int64) (un0 : Int32) : xi_ l G sa y_B_value w_B_value { frames := 8, cells := 5, slots := 30, locals := 160 } [.ref x, .int p0, .int n0, .long x0, .long y0, .int un0] f (fun r u => I_pn b p0 n0 ∧ N_value x0 y0 un0 ∧ ∃ a1 b1, bk G u x a1 b1 ∧ K_value b p0 n0 x0 y0 un0 r b1) (bad (I_pn b p0 n0) (N_value x0 y0 un0)) := by
  intro sz
  refine x_ofW (cc := c_B_value) (maxL := 13) (ret := (some .boolean)) (by decide) rfl (Nat.le_of_ble_eq_true rfl) ?_
  intro p e s m below meth c ls C hex hN hZ hsz hP hl
  obtain ⟨hx, hb, hml, hown, -, -, -, -⟩ := id C
  subst hsz
  have hA0 : ∀ q, s.heap.size ≤ q → hA f s.heap.size q := hA.new
  have hS : va_S (hA f s.heap.size) s.heap s.heap [] := va_S.rf
  replace hl : lv_has ls 13 [(0, .ref x), (1, .int p0), (2, .int n0), (3, .long x0), (5, .long y0), (7, .int un0)] := hl
  have hNN : bN b ≤ 40 := hk.2.2.2.2.1.1
  have hRC : bRc b ≤ 10 := hk.2.2.2.2.1.2.1
  have hHC : bHc b ≤ 40 := hk.2.2.2.2.1.2.2
  refine lv_aload_n hx hb d_B_value_0 rfl (lv_at hl 0 rfl) ?_
  refine lv_iload_n hx hb d_B_value_1 rfl (lv_at hl 1 rfl) ?_
  refine x_callq (x_runV C hN hZ hl.1 (ct_B_partOf (sa := sa) hl0 f x p0 (aPa a) (bN b) _ _ _ _ _ _ _ (fun i => aAd a i 0) hNN hk.1.1 hk.1.2.1 (fun j hj => if_pos hj) _) (cx_V C 1 wd_239 wd_241 wp_1 wd_1 wd_242 rfl rfl (by decide +kernel) ⟨Nat.le_of_ble_eq_true rfl, Nat.le_of_ble_eq_true rfl⟩) hP hS hA0 hk.1.1 rfl rfl rfl (Nat.le_of_ble_eq_true rfl) d_B_value_2 ⟨Nat.le_of_ble_eq_true rfl, Nat.le_of_ble_eq_true rfl⟩) hP hS hA0 (fun E ce q9 H locs hE hP hS h1 h2 h3 => x_out C hex hP hS (Or.inl ⟨hE.1, fun z9 => hE.2 z9.1⟩) h1 h2 h3 (Nat.le_of_ble_eq_true rfl) (Nat.le_of_ble_eq_true rfl)) (fun r2 f1 H locs hq hP hS => ?_)
  obtain ⟨hu, i, hi, rfl, rfl⟩ := hq
  rw [hu] at hP
  have hp_ := hk.2.1 i hi
  have hD_ := hk.2.2.2.2.2.1 i hi
  refine lv_astore (lv' := [(8, .ref (aAd a i 0)), (0, .ref x), (1, .int (nI i)), (2, .int n0), (3, .long x0), (5, .long y0), (7, .int un0)]) hx hb d_B_value_5 hl (by decide) rfl (fun ls hl => ?_)
  refine lv_iload_n hx hb d_B_value_7 rfl (lv_at hl 3 rfl) ?_
  refine lv_bipush (v := 12) hx hb d_B_value_8 (by decide) ?_
  refine x_callv (x_runS C hN hZ hl.1 (ct_B_checkIndex (sa := sa) hl0 f n0 (nI 12) _) (cx_S C 2 wd_259 wd_260 wd_1 wd_261 rfl rfl (by decide +kernel) ⟨Nat.le_of_ble_eq_true rfl, Nat.le_of_ble_eq_true rfl⟩) hP hS hA0 rfl rfl (Nat.le_of_ble_eq_true rfl) d_B_value_10 ⟨Nat.le_of_ble_eq_true rfl, Nat.le_of_ble_eq_true rfl⟩) hP hS hA0 (fun E ce q9 H locs hE hP hS h1 h2 h3 => x_out C hex hP hS (Or.inl ⟨hE.1, fun z9 => hE.2 ((ix_chk (n := 12) (by omega)).mpr z9.2)⟩) h1 h2 h3 (Nat.le_of_ble_eq_true rfl) (Nat.le_of_ble_eq_true rfl)) (fun f3 H locs hq hP hS => ?_)
  obtain ⟨hu, q_z⟩ := hq
  obtain ⟨j, hj, rfl⟩ := (ix_chk (n := 12) (by omega)).mp q_z
  rw [hu] at hP
  refine lv_lload_n hx hb d_B_value_13 rfl (lv_at hl 4 rfl) ?_
  refine lv_lload hx hb d_B_value_14 (lv_at hl 5 rfl) ?_
  refine x_callv (x_runS C hN hZ hl.1 (ct_B_checkFraction (sa := sa) hl0 f x0 y0 _) (cx_S C 2 wd_263 wd_264 wd_1 wd_265 rfl rfl (by decide +kernel) ⟨Nat.le_of_ble_eq_true rfl, Nat.le_of_ble_eq_true rfl⟩) hP hS hA0 rfl rfl (Nat.le_of_ble_eq_true rfl) d_B_value_16 ⟨Nat.le_of_ble_eq_true rfl, Nat.le_of_ble_eq_true rfl⟩) hP hS hA0 (fun E ce q9 H locs hE hP hS h1 h2 h3 => x_out C hex hP hS (Or.inr ⟨hE.1, ⟨⟨i, hi, rfl⟩, ⟨j, hj, rfl⟩⟩, fun z9 => hE.2 z9.1⟩) h1 h2 h3 (Nat.le_of_ble_eq_true rfl) (Nat.le_of_ble_eq_true rfl)) (fun f5 H locs hq hP hS => ?_)
  obtain ⟨hu, hf0⟩ := hq
  rw [hu] at hP
  refine lv_iload hx hb d_B_value_19 (lv_at hl 6 rfl) ?_
  refine lv_i2l (v := un0.toInt64) hx hb d_B_value_21 rfl ?_
  refine lv_ldc2 hx hb hown (C.w wd_268) d_B_value_22 ?_
  refine lv_ldc2 hx hb hown (C.w wd_269) d_B_value_25 ?_
  refine x_callv (x_runS C hN hZ hl.1 (ct_B_checkNumber (sa := sa) hl0 f (un0).toInt64 (-9) 9 _) (cx_S C 3 wd_75 wd_76 wd_1 wd_77 rfl rfl (by decide +kernel) ⟨Nat.le_of_ble_eq_true rfl, Nat.le_of_ble_eq_true rfl⟩) hP hS hA0 rfl rfl (Nat.le_of_ble_eq_true rfl) d_B_value_28 ⟨Nat.le_of_ble_eq_true rfl, Nat.le_of_ble_eq_true rfl⟩) hP hS hA0 (fun E ce q9 H locs hE hP hS h1 h2 h3 => x_out C hex hP hS (Or.inr ⟨hE.1, ⟨⟨i, hi, rfl⟩, ⟨j, hj, rfl⟩⟩, fun z9 => hE.2 ((nu_chk (by decide) (by decide)).mpr z9.2)⟩) h1 h2 h3 (Nat.le_of_ble_eq_true rfl) (Nat.le_of_ble_eq_true rfl)) (fun f7 H locs hq hP hS => ?_)
  obtain ⟨hu, q_z⟩ := hq
  have hun0 : (-9 : Int32) ≤ un0 ∧ un0 ≤ 9 := (nu_chk (by decide) (by decide)).mp q_z
  rw [hu] at hP
  have hN0 : N_value x0 y0 un0 := ⟨hf0, hun0⟩
  obtain ⟨a1, ha1, rfl⟩ := lu_nat (n := 1000000000) hf0.1 (by decide)
  obtain ⟨c1, hc1, hc2, rfl⟩ := lu_nat1 (n := 1000000) hf0.2 (by decide)
  obtain ⟨hA1, hB0, hB1⟩ := u_bd (un := un0) hun0 ha1 hc1 hc2
  refine lv_iload hx hb d_B_value_31 (lv_at hl 6 rfl) ?_
  refine lv_if_le (tgt := 46) hx hb d_B_value_33 (by decide) (fun c_33 => ?_) (fun c_33 => ?_)
  · refine lv_lload_n hx hb d_B_value_46 rfl (lv_at hl 4 rfl) ?_
    refine g_eql (y := lN (uA a1 un0)) (by rw [u_np c_33]) ?_
    refine lv_lstore (lv' := [(9, .long (lN (uA a1 un0))), (8, .ref (aAd a i 0)), (0, .ref x), (1, .int (nI i)), (2, .int (nI j)), (3, .long (lN a1)), (5, .long (lN c1)), (7, .int un0)]) hx hb d_B_value_47 hl (by decide) rfl (fun ls hl => ?_)
    refine lv_iload hx hb d_B_value_49 (lv_at hl 7 rfl) ?_
    refine lv_if_ge (tgt := 66) hx hb d_B_value_51 (by decide) (fun c_51 => ?_) (fun c_51 => ?_)
    · refine lv_lload hx hb d_B_value_66 (lv_at hl 6 rfl) ?_
      refine g_eql (y := lN (uB c1 un0)) (by rw [u_nn c_51]) ?_
      refine lv_lstore (lv' := [(11, .long (lN (uB c1 un0))), (9, .long (lN (uA a1 un0))), (8, .ref (aAd a i 0)), (0, .ref x), (1, .int (nI i)), (2, .int (nI j)), (3, .long (lN a1)), (5, .long (lN c1)), (7, .int un0)]) hx hb d_B_value_68 hl (by decide) rfl (fun ls hl => ?_)
      refine lv_aload hx hb d_B_value_70 (lv_at hl 2 rfl) ?_
      refine lv_iload_n hx hb d_B_value_72 rfl (lv_at hl 5 rfl) ?_
      refine lv_lload hx hb d_B_value_73 (lv_at hl 1 rfl) ?_
      refine lv_lload hx hb d_B_value_75 (lv_at hl 0 rfl) ?_
      refine g_calli (g_runV C hl.1 (ct_P_setFraction f _ _ _ _ _ _ _ _ _ hp_.1.1 _ _ hp_.1.2.1 hp_.1.2.2.1 (fun z => absurd (hk.2.2.1 i 1 i 2 hi (by decide) hi (by decide) z).2 (by decide)) j hj (uA a1 un0) (uB c1 un0) hA1 hB0 hB1 _) (cx_V C 3 wd_274 wd_275 wd_276 wd_8 wd_277 rfl rfl (by decide +kernel) ⟨Nat.le_of_ble_eq_true rfl, Nat.le_of_ble_eq_true rfl⟩) hP hp_.1.1 rfl rfl rfl (Nat.le_of_ble_eq_true rfl) d_B_value_77 ⟨Nat.le_of_ble_eq_true rfl, Nat.le_of_ble_eq_true rfl⟩) hP hS hA0 (fun r10 f9 H locs hq hP hS => ?_)
      obtain ⟨hr, hu1, hu2, hE1⟩ := hq
      have hv_ := pV_va hp_ (hk.2.2.1 i · i · hi · hi ·) hE1 hu1 hu2
      refine vx_ret ?_
      exact g_zret C (if_01 hr) hP hS (⟨⟨⟨i, hi, rfl⟩, ⟨j, hj, rfl⟩⟩, hN0, _, _, bk_upd (S := [aAd a i 1, aAd a i 2]) hk hi hE1 (mem_2 (by decide) (by decide)) hv_ (Or.inl rfl) (va_ok hD_ hA1 hB1), i, j, a1, c1, _, _, hi, rfl, hj, rfl, ha1, rfl, hc1, hc2, rfl, rfl, rfl, by rw [hr]; exact if_cg (and_congr (pk_lEQ (hD_.2.1 j).1 (Nat.lt_of_le_of_lt (Nat.div_le_self _ _) hA1)) (pk_lEQ (Nat.lt_trans (hD_.2.1 j).2 (by decide)) (Nat.lt_trans (Nat.lt_of_le_of_lt (Nat.div_le_self _ _) hB1) (by decide)))), rfl⟩) (Nat.le_of_ble_eq_true rfl) (Nat.le_of_ble_eq_true rfl) d_B_value_80
    · obtain ⟨k2, hk2, ek2, eB1⟩ := u_neg (c := c1) hun0 c_51
      refine lv_lload hx hb d_B_value_54 (lv_at hl 6 rfl) ?_
      refine lv_iload hx hb d_B_value_56 (lv_at hl 7 rfl) ?_
      refine lv_ineg hx hb d_B_value_58 ?_
      refine g_eqi (y := nI k2) (ek2) ?_
      refine g_calll (g_runS C hl.1 (ct_F_tenTo f k2 hk2 _) (cx_S C 1 wd_270 wd_271 wd_12 wd_272 rfl rfl (by decide +kernel) ⟨Nat.le_of_ble_eq_true rfl, Nat.le_of_ble_eq_true rfl⟩) hP rfl rfl (Nat.le_of_ble_eq_true rfl) d_B_value_59 ⟨Nat.le_of_ble_eq_true rfl, Nat.le_of_ble_eq_true rfl⟩) hP hS hA0 (fun r12 f11 H locs hq hP hS => ?_)
      obtain ⟨rfl, hu⟩ := hq
      rw [hu] at hP
      refine lv_lmul hx hb d_B_value_62 ?_
      refine g_eql (y := lN (uB c1 un0)) (by rw [lN_mul, eB1]) ?_
      refine lv_goto (tgt := 68) hx hb d_B_value_63 (by decide) ?_
      refine lv_lstore (lv' := [(11, .long (lN (uB c1 un0))), (9, .long (lN (uA a1 un0))), (8, .ref (aAd a i 0)), (0, .ref x), (1, .int (nI i)), (2, .int (nI j)), (3, .long (lN a1)), (5, .long (lN c1)), (7, .int un0)]) hx hb d_B_value_68 hl (by decide) rfl (fun ls hl => ?_)
      refine lv_aload hx hb d_B_value_70 (lv_at hl 2 rfl) ?_
      refine lv_iload_n hx hb d_B_value_72 rfl (lv_at hl 5 rfl) ?_
      refine lv_lload hx hb d_B_value_73 (lv_at hl 1 rfl) ?_
      refine lv_lload hx hb d_B_value_75 (lv_at hl 0 rfl) ?_
      refine g_calli (g_runV C hl.1 (ct_P_setFraction f _ _ _ _ _ _ _ _ _ hp_.1.1 _ _ hp_.1.2.1 hp_.1.2.2.1 (fun z => absurd (hk.2.2.1 i 1 i 2 hi (by decide) hi (by decide) z).2 (by decide)) j hj (uA a1 un0) (uB c1 un0) hA1 hB0 hB1 _) (cx_V C 3 wd_274 wd_275 wd_276 wd_8 wd_277 rfl rfl (by decide +kernel) ⟨Nat.le_of_ble_eq_true rfl, Nat.le_of_ble_eq_true rfl⟩) hP hp_.1.1 rfl rfl rfl (Nat.le_of_ble_eq_true rfl) d_B_value_77 ⟨Nat.le_of_ble_eq_true rfl, Nat.le_of_ble_eq_true rfl⟩) hP hS hA0 (fun r14 f13 H locs hq hP hS => ?_)
      obtain ⟨hr, hu1, hu2, hE1⟩ := hq
      have hv_ := pV_va hp_ (hk.2.2.1 i · i · hi · hi ·) hE1 hu1 hu2
      refine vx_ret ?_
      exact g_zret C (if_01 hr) hP hS (⟨⟨⟨i, hi, rfl⟩, ⟨j, hj, rfl⟩⟩, hN0, _, _, bk_upd (S := [aAd a i 1, aAd a i 2]) hk hi hE1 (mem_2 (by decide) (by decide)) hv_ (Or.inl rfl) (va_ok hD_ hA1 hB1), i, j, a1, c1, _, _, hi, rfl, hj, rfl, ha1, rfl, hc1, hc2, rfl, rfl, rfl, by rw [hr]; exact if_cg (and_congr (pk_lEQ (hD_.2.1 j).1 (Nat.lt_of_le_of_lt (Nat.div_le_self _ _) hA1)) (pk_lEQ (Nat.lt_trans (hD_.2.1 j).2 (by decide)) (Nat.lt_trans (Nat.lt_of_le_of_lt (Nat.div_le_self _ _) hB1) (by decide)))), rfl⟩) (Nat.le_of_ble_eq_true rfl) (Nat.le_of_ble_eq_true rfl) d_B_value_80
  · obtain ⟨k1, hk1, ek1, eA1⟩ := u_pos (a := a1) hun0 c_33
    refine lv_lload_n hx hb d_B_value_36 rfl (lv_at hl 4 rfl) ?_
    refine lv_iload hx hb d_B_value_37 (lv_at hl 6 rfl) ?_
    refine g_eqi (y := nI k1) (ek1) ?_
    refine g_calll (g_runS C hl.1 (ct_F_tenTo f k1 hk1 _) (cx_S C 1 wd_270 wd_271 wd_12 wd_272 rfl rfl (by decide +kernel) ⟨Nat.le_of_ble_eq_true rfl, Nat.le_of_ble_eq_true rfl⟩) hP rfl rfl (Nat.le_of_ble_eq_true rfl) d_B_value_39 ⟨Nat.le_of_ble_eq_true rfl, Nat.le_of_ble_eq_true rfl⟩) hP hS hA0 (fun r16 f15 H locs hq hP hS => ?_)
    obtain ⟨rfl, hu⟩ := hq
    rw [hu] at hP
    refine lv_lmul hx hb d_B_value_42 ?_
    refine g_eql (y := lN (uA a1 un0)) (by rw [lN_mul, eA1]) ?_
    refine lv_goto (tgt := 47) hx hb d_B_value_43 (by decide) ?_
    refine lv_lstore (lv' := [(9, .long (lN (uA a1 un0))), (8, .ref (aAd a i 0)), (0, .ref x), (1, .int (nI i)), (2, .int (nI j)), (3, .long (lN a1)), (5, .long (lN c1)), (7, .int un0)]) hx hb d_B_value_47 hl (by decide) rfl (fun ls hl => ?_)
    refine lv_iload hx hb d_B_value_49 (lv_at hl 7 rfl) ?_
    refine lv_if_ge (tgt := 66) hx hb d_B_value_51 (by decide) (fun c_51 => ?_) (fun c_51 => ?_)
    · refine lv_lload hx hb d_B_value_66 (lv_at hl 6 rfl) ?_
      refine g_eql (y := lN (uB c1 un0)) (by rw [u_nn c_51]) ?_
      refine lv_lstore (lv' := [(11, .long (lN (uB c1 un0))), (9, .long (lN (uA a1 un0))), (8, .ref (aAd a i 0)), (0, .ref x), (1, .int (nI i)), (2, .int (nI j)), (3, .long (lN a1)), (5, .long (lN c1)), (7, .int un0)]) hx hb d_B_value_68 hl (by decide) rfl (fun ls hl => ?_)
      refine lv_aload hx hb d_B_value_70 (lv_at hl 2 rfl) ?_
      refine lv_iload_n hx hb d_B_value_72 rfl (lv_at hl 5 rfl) ?_
      refine lv_lload hx hb d_B_value_73 (lv_at hl 1 rfl) ?_
      refine lv_lload hx hb d_B_value_75 (lv_at hl 0 rfl) ?_
      refine g_calli (g_runV C hl.1 (ct_P_setFraction f _ _ _ _ _ _ _ _ _ hp_.1.1 _ _ hp_.1.2.1 hp_.1.2.2.1 (fun z => absurd (hk.2.2.1 i 1 i 2 hi (by decide) hi (by decide) z).2 (by decide)) j hj (uA a1 un0) (uB c1 un0) hA1 hB0 hB1 _) (cx_V C 3 wd_274 wd_275 wd_276 wd_8 wd_277 rfl rfl (by decide +kernel) ⟨Nat.le_of_ble_eq_true rfl, Nat.le_of_ble_eq_true rfl⟩) hP hp_.1.1 rfl rfl rfl (Nat.le_of_ble_eq_true rfl) d_B_value_77 ⟨Nat.le_of_ble_eq_true rfl, Nat.le_of_ble_eq_true rfl⟩) hP hS hA0 (fun r18 f17 H locs hq hP hS => ?_)
      obtain ⟨hr, hu1, hu2, hE1⟩ := hq
      have hv_ := pV_va hp_ (hk.2.2.1 i · i · hi · hi ·) hE1 hu1 hu2
      refine vx_ret ?_
      exact g_zret C (if_01 hr) hP hS (⟨⟨⟨i, hi, rfl⟩, ⟨j, hj, rfl⟩⟩, hN0, _, _, bk_upd (S := [aAd a i 1, aAd a i 2]) hk hi hE1 (mem_2 (by decide) (by decide)) hv_ (Or.inl rfl) (va_ok hD_ hA1 hB1), i, j, a1, c1, _, _, hi, rfl, hj, rfl, ha1, rfl, hc1, hc2, rfl, rfl, rfl, by rw [hr]; exact if_cg (and_congr (pk_lEQ (hD_.2.1 j).1 (Nat.lt_of_le_of_lt (Nat.div_le_self _ _) hA1)) (pk_lEQ (Nat.lt_trans (hD_.2.1 j).2 (by decide)) (Nat.lt_trans (Nat.lt_of_le_of_lt (Nat.div_le_self _ _) hB1) (by decide)))), rfl⟩) (Nat.le_of_ble_eq_true rfl) (Nat.le_of_ble_eq_true rfl) d_B_value_80
    · obtain ⟨k2, hk2, ek2, eB1⟩ := u_neg (c := c1) hun0 c_51
      refine lv_lload hx hb d_B_value_54 (lv_at hl 6 rfl) ?_
      refine lv_iload hx hb d_B_value_56 (lv_at hl 7 rfl) ?_
      refine lv_ineg hx hb d_B_value_58 ?_
      refine g_eqi (y := nI k2) (ek2) ?_
      refine g_calll (g_runS C hl.1 (ct_F_tenTo f k2 hk2 _) (cx_S C 1 wd_270 wd_271 wd_12 wd_272 rfl rfl (by decide +kernel) ⟨Nat.le_of_ble_eq_true rfl, Nat.le_of_ble_eq_true rfl⟩) hP rfl rfl (Nat.le_of_ble_eq_true rfl) d_B_value_59 ⟨Nat.le_of_ble_eq_true rfl, Nat.le_of_ble_eq_true rfl⟩) hP hS hA0 (fun r20 f19 H locs hq hP hS => ?_)
      obtain ⟨rfl, hu⟩ := hq
      rw [hu] at hP
      refine lv_lmul hx hb d_B_value_62 ?_
      refine g_eql (y := lN (uB c1 un0)) (by rw [lN_mul, eB1]) ?_
      refine lv_goto (tgt := 68) hx hb d_B_value_63 (by decide) ?_
      refine lv_lstore (lv' := [(11, .long (lN (uB c1 un0))), (9, .long (lN (uA a1 un0))), (8, .ref (aAd a i 0)), (0, .ref x), (1, .int (nI i)), (2, .int (nI j)), (3, .long (lN a1)), (5, .long (lN c1)), (7, .int un0)]) hx hb d_B_value_68 hl (by decide) rfl (fun ls hl => ?_)
      refine lv_aload hx hb d_B_value_70 (lv_at hl 2 rfl) ?_
      refine lv_iload_n hx hb d_B_value_72 rfl (lv_at hl 5 rfl) ?_
      refine lv_lload hx hb d_B_value_73 (lv_at hl 1 rfl) ?_
      refine lv_lload hx hb d_B_value_75 (lv_at hl 0 rfl) ?_
      refine g_calli (g_runV C hl.1 (ct_P_setFraction f _ _ _ _ _ _ _ _ _ hp_.1.1 _ _ hp_.1.2.1 hp_.1.2.2.1 (fun z => absurd (hk.2.2.1 i 1 i 2 hi (by decide) hi (by decide) z).2 (by decide)) j hj (uA a1 un0) (uB c1 un0) hA1 hB0 hB1 _) (cx_V C 3 wd_274 wd_275 wd_276 wd_8 wd_277 rfl rfl (by decide +kernel) ⟨Nat.le_of_ble_eq_true rfl, Nat.le_of_ble_eq_true rfl⟩) hP hp_.1.1 rfl rfl rfl (Nat.le_of_ble_eq_true rfl) d_B_value_77 ⟨Nat.le_of_ble_eq_true rfl, Nat.le_of_ble_eq_true rfl⟩) hP hS hA0 (fun r22 f21 H locs hq hP hS => ?_)
      obtain ⟨hr, hu1, hu2, hE1⟩ := hq
      have hv_ := pV_va hp_ (hk.2.2.1 i · i · hi · hi ·) hE1 hu1 hu2
      refine vx_ret ?_
      exact g_zret C (if_01 hr) hP hS (⟨⟨⟨i, hi, rfl⟩, ⟨j, hj, rfl⟩⟩, hN0, _, _, bk_upd (S := [aAd a i 1, aAd a i 2]) hk hi hE1 (mem_2 (by decide) (by decide)) hv_ (Or.inl rfl) (va_ok hD_ hA1 hB1), i, j, a1, c1, _, _, hi, rfl, hj, rfl, ha1, rfl, hc1, hc2, rfl, rfl, rfl, by rw [hr]; exact if_cg (and_congr (pk_lEQ (hD_.2.1 j).1 (Nat.lt_of_le_of_lt (Nat.div_le_self _ _) hA1)) (pk_lEQ (Nat.lt_trans (hD_.2.1 j).2 (by decide)) (Nat.lt_trans (Nat.lt_of_le_of_lt (Nat.div_le_self _ _) hB1) (by decide)))), rfl⟩) (Nat.le_of_ble_eq_true rfl) (Nat.le_of_ble_eq_true rfl) d_B_value_80
set_option maxHeartbeats 4000000 in
set_option maxRecDepth 100000 in
theorem ct_B_part {l : Launch} {G : hG} {sa : xS} (hl0 : l.stackTraces = false) (f : hm) (x : Nat) (a : AD) (b : BD) (hk : bk G f x a b) (k0 : Int32) : xi_ l G sa y_B_part w_B_part { frames := 7, cells := 14, slots := 110, locals := 120 } [.ref x, .int k0] f (fun r u => N_part k0 ∧ ∃ a1 b1, bk G u x a1 b1 ∧ K_part b k0 r b1) (fun E => E = eA ∧ ¬ N_part k0) := by
  intro sz
  refine x_ofW (cc := c_B_part) (maxL := 2) (ret := (some .int)) (by decide) rfl (Nat.le_of_ble_eq_true rfl) ?_
  intro p e s m below meth c ls C hex hN hZ hsz hP hl
  obtain ⟨hx, hb, hml, hown, -, -, -, -⟩ := id C
  subst hsz
  have hA0 : ∀ q, s.heap.size ≤ q → hA f s.heap.size q := hA.new
  have hS : va_S (hA f s.heap.size) s.heap s.heap [] := va_S.rf
  replace hl : lv_has ls 2 [(0, .ref x), (1, .int k0)] := hl
  have hNN : bN b ≤ 40 := hk.2.2.2.2.1.1
  have hRC : bRc b ≤ 10 := hk.2.2.2.2.1.2.1
  have hHC : bHc b ≤ 40 := hk.2.2.2.2.1.2.2
  refine lv_iload_n hx hb d_B_part_0 rfl (lv_at hl 1 rfl) ?_
  refine lv_i2l (v := k0.toInt64) hx hb d_B_part_1 rfl ?_
  refine lv_lconst (v := 0) hx hb d_B_part_2 (by decide) ?_
  refine lv_ldc2 hx hb hown (C.w wd_74) d_B_part_3 ?_
  refine x_callv (x_runS C hN hZ hl.1 (ct_B_checkNumber (sa := sa) hl0 f (k0).toInt64 0 15 _) (cx_S C 3 wd_75 wd_76 wd_1 wd_77 rfl rfl (by decide +kernel) ⟨Nat.le_of_ble_eq_true rfl, Nat.le_of_ble_eq_true rfl⟩) hP hS hA0 rfl rfl (Nat.le_of_ble_eq_true rfl) d_B_part_6 ⟨Nat.le_of_ble_eq_true rfl, Nat.le_of_ble_eq_true rfl⟩) hP hS hA0 (fun E ce q9 H locs hE hP hS h1 h2 h3 => x_out C hex hP hS (⟨hE.1, fun z9 => hE.2 ((nu_chk (by decide) (by decide)).mpr z9)⟩) h1 h2 h3 (Nat.le_of_ble_eq_true rfl) (Nat.le_of_ble_eq_true rfl)) (fun f1 H locs hq hP hS => ?_)
  obtain ⟨hu, q_z⟩ := hq
  have hk0 : (0 : Int32) ≤ k0 ∧ k0 ≤ 15 := (nu_chk (by decide) (by decide)).mp q_z
  rw [hu] at hP
  have hN0 : N_part k0 := hk0
  obtain ⟨mk, hmk, rfl⟩ := nu_nat (n := 15) hk0 (by decide)
  refine lv_aload_n hx hb d_B_part_9 rfl (lv_at hl 0 rfl) ?_
  refine g_get C i_B hP hk.1.1 rfl 1 (by decide) wd_32 rfl rfl d_B_part_10 ?_
  refine lv_bipush (v := 40) hx hb d_B_part_13 (by decide) ?_
  refine lv_icmp_lt (tgt := 20) hx hb d_B_part_15 (by decide) (fun c_15 => ?_) (fun c_15 => ?_)
  · have h40 : bN b < 40 := (nI_ltI (b := 40) (by omega) (by decide)).mp c_15
    refine lv_aload_n hx hb d_B_part_20 rfl (lv_at hl 0 rfl) ?_
    refine g_get C i_B hP hk.1.1 rfl 0 (by decide) wd_31 rfl rfl d_B_part_21 ?_
    refine lv_aload_n hx hb d_B_part_24 rfl (lv_at hl 0 rfl) ?_
    refine g_get C i_B hP hk.1.1 rfl 1 (by decide) wd_32 rfl rfl d_B_part_25 ?_
    refine g_new C i_P t_P t_P_ok wd_22 wd_145 wd_8 hP hS hA0 (ci := 1) (fs := [.int 0, .int 0, .int 0, .null, .null, .null, .null, .null]) rfl (by decide) (Nat.le_of_ble_eq_true rfl) (Nat.le_of_ble_eq_true rfl) d_B_part_28 (fun q3 H hnq3 hP hS => ?_)
    obtain ⟨f4, ef4⟩ : ∃ z99, z99 = va_up f q3 (some (ob 1 [.int 0, .int 0, .int 0, .null, .null, .null, .null, .null])) := ⟨_, rfl⟩
    replace hP : hH G (hA f s.heap.size) f4 H := by rw [ef4]; exact hP
    have hk11_f4 := (hm_up (v := some (ob 1 [.int 0, .int 0, .int 0, .null, .null, .null, .null, .null])) ef4 (hm_nn hk.1.1 hnq3)).trans hk.1.1
    have hk121_f4 := (hm_up (v := some (ob 1 [.int 0, .int 0, .int 0, .null, .null, .null, .null, .null])) ef4 (hm_nn hk.1.2.1 hnq3)).trans hk.1.2.1
    have o_q3_f4 : f4 q3 = some (ob 1 [.int 0, .int 0, .int 0, .null, .null, .null, .null, .null]) := by rw [ef4]; exact va_up_self _ _ _
    refine lv_dup hx hb d_B_part_31 rfl ?_
    refine lv_aload_n hx hb d_B_part_32 rfl (lv_at hl 0 rfl) ?_
    refine g_get C i_B hP hk11_f4 rfl 1 (by decide) wd_32 rfl rfl d_B_part_33 ?_
    refine lv_iload_n hx hb d_B_part_36 rfl (lv_at hl 1 rfl) ?_
    refine g_callv (g_runI C hl.1 (ct_P_init f4 q3 (bN b) mk o_q3_f4 _) (cx_I C 2 wd_146 wd_147 wd_8 wd_148 rfl rfl rfl (by decide +kernel) ⟨Nat.le_of_ble_eq_true rfl, Nat.le_of_ble_eq_true rfl⟩) hP rfl rfl (Nat.le_of_ble_eq_true rfl) d_B_part_37 ⟨Nat.le_of_ble_eq_true rfl, Nat.le_of_ble_eq_true rfl⟩) hP hS hA0 (fun f5 H locs hq hP hS => ?_)
    obtain ⟨aa, ha0, hinj2, hfr0, hpv, hoff⟩ := hq
    have hfr : ∀ k, k < 13 → f (aa k) = none := fun k hk2 => by
      rcases Nat.eq_zero_or_pos k with z | z
      · rw [z, ha0]; exact hnq3
      · exact (hm_nb ef4 (hfr0 k z hk2) (by simp)).2
    have hkp : ∀ q9 e9, f q9 = some e9 → f5 q9 = some e9 := fun q9 e9 h9 => by
      have h8 : q9 ≠ q3 := hm_nn h9 hnq3
      rw [hoff q9 (fun k hk2 z => by rw [z, hfr k hk2] at h9; cases h9), hm_up ef4 h8]; exact h9
    have hy8 := hkp _ _ hk.1.1
    have hy9 := hkp _ _ hk.1.2.1
    have hq1 := hpv.1
    rw [ha0] at hq1
    refine g_aastN C hP hS hy9 hq1 (j := (bN b)) (h40) (by decide) d_B_part_40 (fun H locs hP hS => ?_)
    obtain ⟨g8, eg8⟩ : ∃ z99, z99 = va_up (fun i => if i < bN b then some (aAd a i 0) else none) (bN b) (some q3) := ⟨_, rfl⟩
    rw [← eg8] at hP
    obtain ⟨f7, ef7⟩ : ∃ z99, z99 = va_up f5 (aPa a) (some (aP G 40 g8)) := ⟨_, rfl⟩
    replace hP : hH G (hA f s.heap.size) f7 H := by rw [ef7]; exact hP
    have hy8_f7 := (hm_up (v := some (aP G 40 g8)) ef7 (hm_ne hy8 hy9 (by simp))).trans hy8
    have hq1_f7 := (hm_up (v := some (aP G 40 g8)) ef7 (hm_ne hq1 hy9 (by simp))).trans hq1
    have hy9_f7 : f7 (aPa a) = some (aP G 40 g8) := by rw [ef7]; exact va_up_self _ _ _
    refine lv_aload_n hx hb d_B_part_41 rfl (lv_at hl 0 rfl) ?_
    refine lv_dup hx hb d_B_part_42 rfl ?_
    refine g_get C i_B hP hy8_f7 rfl 1 (by decide) wd_32 rfl rfl d_B_part_43 ?_
    refine lv_iconst (v := 1) hx hb d_B_part_46 (by decide) ?_
    refine lv_iadd hx hb d_B_part_47 ?_
    refine g_eqi (y := nI (bN b + 1)) (nI_1 _) ?_
    refine g_put C i_B t_B t_B_ok n_B hP hS hy8_f7 rfl 1 (by decide) wd_32 rfl rfl rfl (rfl) (Nat.le_of_ble_eq_true rfl) d_B_part_48 (fun H locs hP hS => ?_)
    obtain ⟨f9, ef9⟩ : ∃ z99, z99 = va_up f7 x (some (ob 3 [.ref (aPa a), .int (nI (bN b + 1)), .ref (aPl a), .ref (aAs a), .int (nI (bRc b)), .ref (aRa a), .ref (aHi a), .int (nI (bHc b))])) := ⟨_, rfl⟩
    replace hP : hH G (hA f s.heap.size) f9 H := by rw [ef9]; exact hP
    have hy8_f9 : f9 x = some (ob 3 [.ref (aPa a), .int (nI (bN b + 1)), .ref (aPl a), .ref (aAs a), .int (nI (bRc b)), .ref (aRa a), .ref (aHi a), .int (nI (bHc b))]) := by rw [ef9]; exact va_up_self _ _ _
    have hq1_f9 := (hm_up (v := some (ob 3 [.ref (aPa a), .int (nI (bN b + 1)), .ref (aPl a), .ref (aAs a), .int (nI (bRc b)), .ref (aRa a), .ref (aHi a), .int (nI (bHc b))])) ef9 (hm_ne hq1_f7 hy8_f7 (by simp))).trans hq1_f7
    have hy9_f9 := (hm_up (v := some (ob 3 [.ref (aPa a), .int (nI (bN b + 1)), .ref (aPl a), .ref (aAs a), .int (nI (bRc b)), .ref (aRa a), .ref (aHi a), .int (nI (bHc b))])) ef9 (hm_ne hy9_f7 hy8_f7 (by simp))).trans hy9_f7
    refine lv_aload_n hx hb d_B_part_51 rfl (lv_at hl 0 rfl) ?_
    refine g_get C i_B hP hy8_f9 rfl 1 (by decide) wd_32 rfl rfl d_B_part_52 ?_
    refine lv_iconst (v := 1) hx hb d_B_part_55 (by decide) ?_
    refine lv_isub hx hb d_B_part_56 ?_
    subst eg8
    rw [← ha0] at hy9_f9
    have hz1 := hy8_f9
    have hz2 := hy9_f9
    have hzo : ∀ q9 e9, f q9 = some e9 → q9 ≠ x → q9 ≠ aPa a → f9 q9 = some e9 := fun q9 e9 h9 n1 n2 => by
      rw [hm_up ef9 n1, hm_up ef7 n2]; exact hkp q9 e9 h9
    have hzn : ∀ k, k < 13 → f9 (aa k) = f5 (aa k) := fun k hk2 => by
      have n1 : aa k ≠ x := fun z => by have := hfr k hk2; rw [z, hk.1.1] at this; cases this
      have n2 : aa k ≠ aPa a := fun z => by have := hfr k hk2; rw [z, hk.1.2.1] at this; cases this
      rw [hm_up ef9 n1, hm_up ef7 n2]
    have hv0 : pV G f5 aa (bN b) (D0 mk) none := ⟨hpv, fun q h => (by cases h), ⟨fun _ => rfl, fun _ => rfl⟩⟩
    refine vx_ret ?_
    exact g_iret C hP hS (⟨hN0, _, _, bk_add hk h40 (by omega) hinj2 hfr (pv_congr hv0 hzn (fun q h => (by cases h))) hz1 hz2 hzo, mk, by omega, rfl, Or.inl ⟨h40, nI_pred _, rfl⟩⟩) (Nat.le_of_ble_eq_true rfl) (Nat.le_of_ble_eq_true rfl) d_B_part_57
  · refine lv_iconst (v := (-1)) hx hb d_B_part_18 (by decide) ?_
    refine vx_ret ?_
    exact g_iret C hP hS (⟨hN0, a, b, hk, mk, by omega, rfl, Or.inr ⟨fun z9 => c_15 (nI_lt (b := 40) z9 (by decide)), rfl, rfl⟩⟩) (Nat.le_of_ble_eq_true rfl) (Nat.le_of_ble_eq_true rfl) d_B_part_19
