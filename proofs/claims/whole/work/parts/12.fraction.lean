/-! Fraction: ten to a power, the common divisor, the comparison -/
set_option maxHeartbeats 4000000 in
set_option maxRecDepth 100000 in
theorem ct_F_tenTo {l : Launch} {G : hG} (f : hm) (n : Nat) (hn : n ≤ 9) : cl_ l G y_F_tenTo w_F_tenTo { frames := 0, cells := 0, slots := 0, locals := 0 } [.int (nI n)] f (fun r u => r = lN (10 ^ n) ∧ u = f) := by
  intro sz
  refine h_ofW (cc := c_F_tenTo) (maxL := 4) (ret := (some .long)) (by decide) rfl (Nat.le_of_ble_eq_true rfl) ?_
  intro p e s m below meth c ls C hin hsz hP hl
  obtain ⟨hx, hb, hml, hown, -, -, -, -⟩ := id C
  subst hsz
  have hA0 : ∀ q, s.heap.size ≤ q → hA f s.heap.size q := hA.new
  have hS : va_S (hA f s.heap.size) s.heap s.heap [] := va_S.rf
  replace hl : lv_has ls 4 [(0, .int (nI n))] := hl
  have loop : ∀ (k i : Nat) (ls : Array Slot), n < i + k → i ≤ n → lv_has ls 4 [(3, .int (nI i)), (1, .long (lN (10 ^ i))), (0, .int (nI n))] → W p l e { frames := 0, cells := 0, slots := 0, locals := 0 } s m #[.int (nI n)] below meth c s.heap [] 0 0 (MQ below (va_Ql (fun r u => r = lN (10 ^ n) ∧ u = f) (hB G (hA f s.heap.size)) (hA f s.heap.size)) #[.int (nI n)] s 0 0 (hA f s.heap.size)) (F0 m 4 ls []) := by
    intro k
    induction k with
    | zero => intro i ls h1 h2; exact absurd h1 (by omega)
    | succ k ih =>
      intro i ls h1 h2 hl
      refine lv_iload_n hx hb d_F_tenTo_4 rfl (lv_at hl 0 rfl) ?_
      refine lv_iload_n hx hb d_F_tenTo_5 rfl (lv_at hl 2 rfl) ?_
      refine lv_icmp_ge (tgt := 21) hx hb d_F_tenTo_6 (by decide) (fun c_6 => ?_) (fun c_6 => ?_)
      · have q_6 : n ≤ i := (nI_leI (by omega) (by omega)).mp c_6
        refine lv_lload_n hx hb d_F_tenTo_21 rfl (lv_at hl 1 rfl) ?_
        exact g_lret C hP hS (⟨by rw [show i = n by omega], rfl⟩) (Nat.le_of_ble_eq_true rfl) (Nat.le_of_ble_eq_true rfl) d_F_tenTo_22
      · have q_6 : ¬ n ≤ i := fun z => c_6 ((nI_leI (by omega) (by omega)).mpr z)
        refine lv_lload_n hx hb d_F_tenTo_9 rfl (lv_at hl 1 rfl) ?_
        refine lv_ldc2 hx hb hown (C.w wd_273) d_F_tenTo_10 ?_
        refine lv_lmul hx hb d_F_tenTo_13 ?_
        refine g_eql (y := lN (10 ^ (i + 1))) (lN_mul (10 ^ i) 10) ?_
        refine lv_lstore_n (lv' := [(1, .long (lN (10 ^ (i + 1)))), (3, .int (nI i)), (0, .int (nI n))]) hx hb d_F_tenTo_14 rfl hl (by decide) rfl (fun ls hl => ?_)
        refine lv_iinc (v := nI (i + 1)) (lv' := [(3, .int (nI (i + 1))), (1, .long (lN (10 ^ (i + 1)))), (0, .int (nI n))]) hx hb d_F_tenTo_15 hl (k := 1) rfl (nI_1 i) (by decide) rfl (fun ls hl => ?_)
        refine lv_goto (tgt := 4) hx hb d_F_tenTo_18 (by decide) ?_
        exact ih (i + 1) ls (by omega) (by omega) (lv_sub hl [0, 1, 2] rfl)
  refine lv_lconst (v := 1) hx hb d_F_tenTo_0 (by decide) ?_
  refine lv_lstore_n (lv' := [(1, .long 1), (0, .int (nI n))]) hx hb d_F_tenTo_1 rfl hl (by decide) rfl (fun ls hl => ?_)
  refine lv_iconst (v := 0) hx hb d_F_tenTo_2 (by decide) ?_
  refine lv_istore_n (lv' := [(3, .int 0), (1, .long 1), (0, .int (nI n))]) hx hb d_F_tenTo_3 rfl hl (by decide) rfl (fun ls hl => ?_)
  exact loop (n + 1) 0 ls (by omega) (by omega) hl
theorem if_c1 {x : Nat} (h : 0 < x) (hx : x < 2 ^ 63) : (if (1 : Int64) < lN x then lN x else 1) = lN x := by
  rcases Nat.eq_or_lt_of_le h with e | e
  · rw [← e]; rfl
  · rw [if_pos (show (1 : Int64) < lN x from (pk_lLT (a := 1) (by omega) hx).mpr e)]
set_option maxHeartbeats 4000000 in
set_option maxRecDepth 100000 in
theorem ct_F_commonDivisor {l : Launch} {G : hG} (f : hm) (a b : Nat) (ha : a < 2 ^ 63) (h0 : 0 < b) (hb2 : b < 2 ^ 50) : cl_ l G y_F_commonDivisor w_F_commonDivisor { frames := 1, cells := 0, slots := 0, locals := 40 } [.long (lN a), .long (lN b)] f (fun r u => r = lN (Nat.gcd a b) ∧ u = f) := by
  intro sz
  refine h_ofW (cc := c_F_commonDivisor) (maxL := 11) (ret := (some .long)) (by decide) rfl (Nat.le_of_ble_eq_true rfl) ?_
  intro p e s m below meth c ls C hin hsz hP hl
  obtain ⟨hx, hb, hml, hown, -, -, -, -⟩ := id C
  subst hsz
  have hA0 : ∀ q, s.heap.size ≤ q → hA f s.heap.size q := hA.new
  have hS : va_S (hA f s.heap.size) s.heap s.heap [] := va_S.rf
  replace hl : lv_has ls 11 [(0, .long (lN a)), (2, .long (lN b))] := hl
  have loop : ∀ (k i x y : Nat) (ls : Array Slot), 100 < i + k → i ≤ 100 → eu_J b i x y → Nat.gcd x y = Nat.gcd a b → x < 2 ^ 63 → y < 2 ^ 63 → lv_has ls 11 [(8, .int (nI i)), (6, .long (lN y)), (4, .long (lN x))] → W p l e { frames := 1, cells := 0, slots := 0, locals := 40 } s m #[.long (lN a), .long (lN b)] below meth c s.heap [] 0 0 (MQ below (va_Ql (fun r u => r = lN (Nat.gcd a b) ∧ u = f) (hB G (hA f s.heap.size)) (hA f s.heap.size)) #[.long (lN a), .long (lN b)] s 0 0 (hA f s.heap.size)) (F0 m 9 ls []) := by
    intro k
    induction k with
    | zero => intro i x y ls h1 h2; exact absurd h1 (by omega)
    | succ k ih =>
      intro i x y ls h1 h2 hJ hg hx0 hy hl
      refine lv_iload hx hb d_F_commonDivisor_9 (lv_at hl 0 rfl) ?_
      refine lv_bipush (v := 100) hx hb d_F_commonDivisor_11 (by decide) ?_
      refine lv_icmp_ge (tgt := 44) hx hb d_F_commonDivisor_13 (by decide) (fun c_13 => ?_) (fun c_13 => ?_)
      · have q_13 : 100 ≤ i := (nI_leI (a := 100) (by omega) (by omega)).mp c_13
        have qz : y = 0 := by have : i = 100 := (by omega); subst this; exact eu_end (B := b) hb2 hJ
        have qg : Nat.gcd a b = x := by rw [← hg, qz, Nat.gcd_zero_right]
        have qp : 0 < x := by rw [← qg]; exact Nat.gcd_pos_of_pos_right _ h0
        refine lv_lload hx hb d_F_commonDivisor_44 (lv_at hl 2 rfl) ?_
        refine lv_lconst (v := 1) hx hb d_F_commonDivisor_46 (by decide) ?_
        refine va_mmax_long hx hb (hml.trans hl.1.symm) hown (C.w wd_281) (C.w wd_282) (C.w wd_13) (C.w wd_283) (Nat.le_of_ble_eq_true rfl) (Nat.le_of_ble_eq_true rfl) (Nat.zero_le _) (Nat.zero_le _) d_F_commonDivisor_47 ?_
        refine g_eql (y := lN x) (if_c1 qp hx0) ?_
        exact g_lret C hP hS (⟨by rw [qg], rfl⟩) (Nat.le_of_ble_eq_true rfl) (Nat.le_of_ble_eq_true rfl) d_F_commonDivisor_50
      · have q_13 : ¬ 100 ≤ i := fun z => c_13 ((nI_leI (a := 100) (by omega) (by omega)).mpr z)
        refine lv_lload hx hb d_F_commonDivisor_16 (lv_at hl 1 rfl) ?_
        refine lv_lconst (v := 0) hx hb d_F_commonDivisor_18 (by decide) ?_
        refine W.lcmp hx hb d_F_commonDivisor_19 ?_
        refine lv_if_eq (tgt := 44) hx hb d_F_commonDivisor_20 (by decide) (fun c_20 => ?_) (fun c_20 => ?_)
        · have c_20 := (lg_cmp_eq _ _).mp c_20
          have qz : y = 0 := (pk_lEQ (b := 0) hy (by omega)).mp c_20
          have qg : Nat.gcd a b = x := by rw [← hg, qz, Nat.gcd_zero_right]
          have qp : 0 < x := by rw [← qg]; exact Nat.gcd_pos_of_pos_right _ h0
          refine lv_lload hx hb d_F_commonDivisor_44 (lv_at hl 2 rfl) ?_
          refine lv_lconst (v := 1) hx hb d_F_commonDivisor_46 (by decide) ?_
          refine va_mmax_long hx hb (hml.trans hl.1.symm) hown (C.w wd_281) (C.w wd_282) (C.w wd_13) (C.w wd_283) (Nat.le_of_ble_eq_true rfl) (Nat.le_of_ble_eq_true rfl) (Nat.zero_le _) (Nat.zero_le _) d_F_commonDivisor_47 ?_
          refine g_eql (y := lN x) (if_c1 qp hx0) ?_
          exact g_lret C hP hS (⟨by rw [qg], rfl⟩) (Nat.le_of_ble_eq_true rfl) (Nat.le_of_ble_eq_true rfl) d_F_commonDivisor_50
        · have c_20 := fun z => c_20 ((lg_cmp_eq _ _).mpr z)
          have q_20 : ¬ y = 0 := fun z => c_20 ((pk_lEQ (b := 0) hy (by omega)).mpr z)
          refine lv_lload hx hb d_F_commonDivisor_23 (lv_at hl 2 rfl) ?_
          refine lv_lload hx hb d_F_commonDivisor_25 (lv_at hl 1 rfl) ?_
          refine lv_lrem hx hb d_F_commonDivisor_27 (fun z => q_20 ((pk_lEQ hy (by omega)).mp z)) ?_
          refine g_eql (y := lN (x % y)) (pk_lRem hx0 (by omega) hy) ?_
          refine lv_lstore (lv' := [(9, .long (lN (x % y))), (8, .int (nI i)), (6, .long (lN y)), (4, .long (lN x))]) hx hb d_F_commonDivisor_28 hl (by decide) rfl (fun ls hl => ?_)
          refine lv_lload hx hb d_F_commonDivisor_30 (lv_at hl 2 rfl) ?_
          refine lv_lstore (lv' := [(4, .long (lN y)), (9, .long (lN (x % y))), (8, .int (nI i)), (6, .long (lN y))]) hx hb d_F_commonDivisor_32 hl (by decide) rfl (fun ls hl => ?_)
          refine lv_lload hx hb d_F_commonDivisor_34 (lv_at hl 1 rfl) ?_
          refine lv_lstore (lv' := [(6, .long (lN (x % y))), (4, .long (lN y)), (9, .long (lN (x % y))), (8, .int (nI i))]) hx hb d_F_commonDivisor_36 hl (by decide) rfl (fun ls hl => ?_)
          refine lv_iinc (v := nI (i + 1)) (lv' := [(8, .int (nI (i + 1))), (6, .long (lN (x % y))), (4, .long (lN y)), (9, .long (lN (x % y)))]) hx hb d_F_commonDivisor_38 hl (k := 3) rfl (nI_1 i) (by decide) rfl (fun ls hl => ?_)
          refine lv_goto (tgt := 9) hx hb d_F_commonDivisor_41 (by decide) ?_
          exact ih (i + 1) y (x % y) ls (by omega) (by omega) (eu_step (by omega) hJ) (by rw [← hg, Nat.gcd_comm x y, Nat.gcd_rec y x, Nat.gcd_comm]) (by omega) (Nat.lt_trans (Nat.mod_lt _ (by omega)) hy) (lv_sub hl [0, 1, 2] rfl)
  refine lv_lload_n hx hb d_F_commonDivisor_0 rfl (lv_at hl 0 rfl) ?_
  refine lv_lstore (lv' := [(4, .long (lN a)), (0, .long (lN a)), (2, .long (lN b))]) hx hb d_F_commonDivisor_1 hl (by decide) rfl (fun ls hl => ?_)
  refine lv_lload_n hx hb d_F_commonDivisor_3 rfl (lv_at hl 2 rfl) ?_
  refine lv_lstore (lv' := [(6, .long (lN b)), (4, .long (lN a)), (0, .long (lN a)), (2, .long (lN b))]) hx hb d_F_commonDivisor_4 hl (by decide) rfl (fun ls hl => ?_)
  refine lv_iconst (v := 0) hx hb d_F_commonDivisor_6 (by decide) ?_
  refine lv_istore (lv' := [(8, .int 0), (6, .long (lN b)), (4, .long (lN a)), (0, .long (lN a)), (2, .long (lN b))]) hx hb d_F_commonDivisor_7 hl (by decide) rfl (fun ls hl => ?_)
  exact loop 101 0 a b ls (by omega) (by omega) (eu_start (Nat.le_refl b)) rfl ha (by omega) (lv_sub hl [0, 1, 2] rfl)
