/-! PartBook: costAt, bestTotal, leastCost, offer, cheapest, and what is built of them. -/
theorem oT_m {o : Option (Nat × Nat)} (h : oT o = -1) (hs : ∀ p, o = some p → p.1 < 2 ^ 31) : o = none := by
  rcases o with _ | p
  · rfl
  · exact absurd h (nI_nm1 (hs p rfl))
theorem lN_nm1 {n : Nat} (h : n < 2 ^ 63) : ¬ lN n = -1 := fun z => by
  have h1 := congrArg Int64.toInt z
  rw [pk_lT h, show (-1 : Int64).toInt = -1 by decide] at h1
  omega
theorem mx_l {a b : Nat} (ha : a < 2 ^ 63) (hb : b < 2 ^ 63) : (if lN b < lN a then lN a else lN b) = lN (max a b) := by
  by_cases h : b < a
  · rw [if_pos ((pk_lLT hb ha).mpr h), Nat.max_eq_left (by omega)]
  · rw [if_neg (fun z => h ((pk_lLT hb ha).mp z)), Nat.max_eq_right (by omega)]
theorem mn_e {D : PD} (hD : pOK D) {k : Nat} (hk : k < pN1 D) : (if (if k + 1 < pN1 D then lN (pB1 D (k + 1)) - 1 else (9223372036854775807 : Int64)) < lN (pPc D) then (if k + 1 < pN1 D then lN (pB1 D (k + 1)) - 1 else (9223372036854775807 : Int64)) else lN (pPc D)) = lN (stE D k) := by
  have hp := hD.1.2.1
  unfold stE
  by_cases h : k + 1 < pN1 D
  · have h1 := (hD.2.2.1 (k + 1) h).1
    rw [if_pos h, if_pos h, show lN (pB1 D (k + 1)) - 1 = lN (pB1 D (k + 1) - 1) from lN_sub h1.1]
    by_cases h2 : pB1 D (k + 1) - 1 < pPc D
    · rw [if_pos ((pk_lLT (by omega) (by omega)).mpr h2), Nat.min_eq_right (by omega)]
    · rw [if_neg (fun z => h2 ((pk_lLT (by omega) (by omega)).mp z)), Nat.min_eq_left (by omega)]
  · rw [if_neg h, if_neg h, if_neg]
    intro z
    have := Int64.lt_iff_toInt_lt.mp z
    rw [pk_lT (by omega), show (9223372036854775807 : Int64).toInt = 9223372036854775807 by decide] at this
    omega
theorem fs_iff {D : PD} (hD : pOK D) {sm : Option Nat} (hs : sm = none ↔ pNp D = 0) {T : Nat} (hT : T ≤ 20000) : (sm = none ∨ bi (pW D) T = true) ↔ fs D T := by
  unfold fs
  rw [hs, hD.2.2.2.2.2.2.2.2.2 T hT]
set_option maxHeartbeats 4000000 in
set_option maxRecDepth 100000 in
theorem ct_B_costAt {l : Launch} {G : hG} (f : hm) (x : Nat) (a : AD) (b : BD) (hk : bk G f x a b) (i : Nat) (hi : i < bN b) (k T : Nat) (hk1 : k < pN1 (bD b i)) (hT : T ≤ 20000) : cl_ l G y_B_costAt w_B_costAt { frames := 0, cells := 0, slots := 0, locals := 0 } [.ref x, .ref (aAd a i 0), .int (nI k), .int (nI T)] f (fun r u => r = lN (cst (bRa b) (bD b i) T k) ∧ u = f) := by
  intro sz
  refine h_ofW (cc := c_B_costAt) (maxL := 4) (ret := (some .long)) (by decide) rfl (Nat.le_of_ble_eq_true rfl) ?_
  intro p e s m below meth c ls C hin hsz hP hl
  obtain ⟨hx, hb, hml, hown, -, -, -, -⟩ := id C
  subst hsz
  have hA0 : ∀ q, s.heap.size ≤ q → hA f s.heap.size q := hA.new
  have hS : va_S (hA f s.heap.size) s.heap s.heap [] := va_S.rf
  replace hl : lv_has ls 4 [(0, .ref x), (1, .ref (aAd a i 0)), (2, .int (nI k)), (3, .int (nI T))] := hl
  have hNN : bN b ≤ 40 := hk.2.2.2.2.1.1
  have hRC : bRc b ≤ 10 := hk.2.2.2.2.1.2.1
  have hHC : bHc b ≤ 40 := hk.2.2.2.2.1.2.2
  have hpi_ := hk.2.1 i hi
  have hDi_ := hk.2.2.2.2.2.1 i hi
  have hkk := hDi_.2.2.1 k hk1
  have h8 := hDi_.1.2.2.1
  refine lv_iload_n hx hb d_B_costAt_0 rfl (lv_at hl 3 rfl) ?_
  refine lv_i2l (v := (nI T).toInt64) hx hb d_B_costAt_1 rfl ?_
  refine g_eql (y := lN T) (nI_l (by omega)) ?_
  refine lv_aload_n hx hb d_B_costAt_2 rfl (lv_at hl 1 rfl) ?_
  refine g_get C i_P hP hpi_.1.1 rfl 5 (by decide) wd_201 rfl rfl d_B_costAt_3 ?_
  refine g_get C i_S hP hpi_.1.2.2.2.1.1 rfl 1 (by decide) wd_159 rfl rfl d_B_costAt_6 ?_
  refine lv_iload_n hx hb d_B_costAt_9 rfl (lv_at hl 2 rfl) ?_
  refine g_laldN C hP hpi_.1.2.2.2.1.2.2.1 (j := k) (by omega) (by decide) d_B_costAt_10 ?_
  refine g_eql (y := lN (pC1 (bD b i) k)) (rfl) ?_
  refine lv_lmul hx hb d_B_costAt_11 ?_
  refine g_eql (y := lN (T * pC1 (bD b i) k)) (lN_mul _ _) ?_
  refine lv_aload_n hx hb d_B_costAt_12 rfl (lv_at hl 0 rfl) ?_
  refine g_get C i_B hP hk.1.1 rfl 5 (by decide) wd_36 rfl rfl d_B_costAt_13 ?_
  refine lv_aload_n hx hb d_B_costAt_16 rfl (lv_at hl 1 rfl) ?_
  refine g_get C i_P hP hpi_.1.1 rfl 5 (by decide) wd_201 rfl rfl d_B_costAt_17 ?_
  refine g_get C i_S hP hpi_.1.2.2.2.1.1 rfl 2 (by decide) wd_162 rfl rfl d_B_costAt_20 ?_
  refine lv_iload_n hx hb d_B_costAt_23 rfl (lv_at hl 2 rfl) ?_
  refine g_ialdN C hP hpi_.1.2.2.2.1.2.2.2 (j := k) (by omega) (by decide) d_B_costAt_24 ?_
  refine g_eqi (y := nI (pK1 (bD b i) k)) (rfl) ?_
  refine g_laldN C hP hk.1.2.2.2.2.1 (j := (pK1 (bD b i) k)) (hkk.2.2) (by decide) d_B_costAt_25 ?_
  refine g_eql (y := lN (bRa b (pK1 (bD b i) k))) (rfl) ?_
  refine lv_lmul hx hb d_B_costAt_26 ?_
  refine g_eql (y := lN (cst (bRa b) (bD b i) T k)) (lN_mul _ _) ?_
  exact g_lret C hP hS (⟨rfl, rfl⟩) (Nat.le_of_ble_eq_true rfl) (Nat.le_of_ble_eq_true rfl) d_B_costAt_27
set_option maxHeartbeats 4000000 in
set_option maxRecDepth 100000 in
theorem ct_B_bestTotal {l : Launch} {G : hG} (f : hm) (x : Nat) (a : AD) (b : BD) (hk : bk G f x a b) (i : Nat) (hi : i < bN b) (q : Nat) (hq1 : 1 ≤ q) (hq2 : q ≤ 10000) : ci_ l G y_B_bestTotal w_B_bestTotal { frames := 2, cells := 0, slots := 0, locals := 80 } [.ref x, .ref (aAd a i 0), .int (nI q)] f (fun r u => (∃ o, BT (bRa b) (bD b i) q o ∧ r = oT o) ∧ u = f) := by
  intro sz
  refine h_ofW (cc := c_B_bestTotal) (maxL := 15) (ret := (some .int)) (by decide) rfl (Nat.le_of_ble_eq_true rfl) ?_
  intro p e s m below meth c ls C hin hsz hP hl
  obtain ⟨hx, hb, hml, hown, -, -, -, -⟩ := id C
  subst hsz
  have hA0 : ∀ q, s.heap.size ≤ q → hA f s.heap.size q := hA.new
  have hS : va_S (hA f s.heap.size) s.heap s.heap [] := va_S.rf
  replace hl : lv_has ls 15 [(0, .ref x), (1, .ref (aAd a i 0)), (2, .int (nI q))] := hl
  have hNN : bN b ≤ 40 := hk.2.2.2.2.1.1
  have hRC : bRc b ≤ 10 := hk.2.2.2.2.1.2.1
  have hHC : bHc b ≤ 40 := hk.2.2.2.2.1.2.2
  have hpi_ := hk.2.1 i hi
  have hDi_ := hk.2.2.2.2.2.1 i hi
  have h8 := hDi_.1.2.2.1
  have hra := hk.2.2.2.2.2.2.2.2.1
  have loop : ∀ (d k : Nat) (o : Option (Nat × Nat)) (L : Int64) (ls : Array Slot) (H : Heap) (locs : List Loc), pN1 (bD b i) < k + d → k ≤ pN1 (bD b i) → BTr (bRa b) (bD b i) q k o → (∀ p, o = some p → L = lN p.2 ∧ p.2 < 2 ^ 63 ∧ p.1 < 2 ^ 31) → hH G (hA f s.heap.size) f H → va_S (hA f s.heap.size) s.heap H locs → lv_has ls 15 [(7, .int (nI k)), (4, .int (oT o)), (5, .long L), (3, .ref (aAd a i 3)), (0, .ref x), (1, .ref (aAd a i 0)), (2, .int (nI q))] → W p l e { frames := 2, cells := 0, slots := 0, locals := 80 } s m #[.ref x, .ref (aAd a i 0), .int (nI q)] below meth c H locs 0 0 (MQ below (va_Qi (fun r u => (∃ o, BT (bRa b) (bD b i) q o ∧ r = oT o) ∧ u = f) (hB G (hA f s.heap.size)) (hA f s.heap.size)) #[.ref x, .ref (aAd a i 0), .int (nI q)] s 0 0 (hA f s.heap.size)) (F0 m 14 ls []) := by
    intro d
    induction d with
    | zero => intro k o L ls H locs h1 h2; exact absurd h1 (by omega)
    | succ d ih =>
      intro k o L ls H locs h1 h2 hBT hL hP hS hl
      refine lv_iload hx hb d_B_bestTotal_14 (lv_at hl 0 rfl) ?_
      refine lv_aload_n hx hb d_B_bestTotal_16 rfl (lv_at hl 3 rfl) ?_
      refine g_get C i_S hP hpi_.1.2.2.2.1.1 rfl 3 (by decide) wd_164 rfl rfl d_B_bestTotal_17 ?_
      refine lv_icmp_ge (tgt := 111) hx hb d_B_bestTotal_20 (by decide) (fun c_20 => ?_) (fun c_20 => ?_)
      · have q_1 : k = pN1 (bD b i) := by have := (nI_leI (by omega) (by omega)).mp c_20; omega
        refine lv_iload hx hb d_B_bestTotal_111 (lv_at hl 1 rfl) ?_
        exact g_iret C hP hS (⟨⟨o, by rw [q_1] at hBT; exact hBT, rfl⟩, rfl⟩) (Nat.le_of_ble_eq_true rfl) (Nat.le_of_ble_eq_true rfl) d_B_bestTotal_113
      · have hkn : k < pN1 (bD b i) := Nat.lt_of_not_le (fun z9 => c_20 ((nI_leI (by omega) (by omega)).mpr z9))
        have hkk := hDi_.2.2.1 k hkn
        have hF : max q (pB1 (bD b i) k) ≤ 20000 := by omega
        have hpc := hDi_.1.2.1
        refine lv_iload_n hx hb d_B_bestTotal_23 rfl (lv_at hl 6 rfl) ?_
        refine lv_i2l (v := (nI q).toInt64) hx hb d_B_bestTotal_24 rfl ?_
        refine g_eql (y := lN q) (nI_l (by omega)) ?_
        refine lv_aload_n hx hb d_B_bestTotal_25 rfl (lv_at hl 3 rfl) ?_
        refine g_get C i_S hP hpi_.1.2.2.2.1.1 rfl 0 (by decide) wd_157 rfl rfl d_B_bestTotal_26 ?_
        refine lv_iload hx hb d_B_bestTotal_29 (lv_at hl 0 rfl) ?_
        refine g_laldN C hP hpi_.1.2.2.2.1.2.1 (j := k) (by omega) (by decide) d_B_bestTotal_31 ?_
        refine g_eql (y := lN (pB1 (bD b i) k)) (rfl) ?_
        refine va_mmax_long hx hb (hml.trans hl.1.symm) hown (C.w wd_435) (C.w wd_282) (C.w wd_13) (C.w wd_283) (Nat.le_of_ble_eq_true rfl) (Nat.le_of_ble_eq_true rfl) (Nat.zero_le _) (Nat.zero_le _) d_B_bestTotal_32 ?_
        refine g_eql (y := lN (max q (pB1 (bD b i) k))) (mx_l (by omega) (by omega)) ?_
        refine lv_lstore (lv' := [(8, .long (lN (max q (pB1 (bD b i) k)))), (7, .int (nI k)), (4, .int (oT o)), (5, .long L), (3, .ref (aAd a i 3)), (0, .ref x), (1, .ref (aAd a i 0)), (2, .int (nI q))]) hx hb d_B_bestTotal_35 hl (by decide) rfl (fun ls hl => ?_)
        refine lv_aload_n hx hb d_B_bestTotal_37 rfl (lv_at hl 6 rfl) ?_
        refine g_get C i_P hP hpi_.1.1 rfl 2 (by decide) wd_195 rfl rfl d_B_bestTotal_38 ?_
        refine lv_i2l (v := (nI (pPc (bD b i))).toInt64) hx hb d_B_bestTotal_41 rfl ?_
        refine g_eql (y := lN (pPc (bD b i))) (nI_l (by omega)) ?_
        refine lv_aload_n hx hb d_B_bestTotal_42 rfl (lv_at hl 4 rfl) ?_
        refine lv_iload hx hb d_B_bestTotal_43 (lv_at hl 1 rfl) ?_
        refine g_calll (g_runV C hl.1 (ct_S_endOf f _ _ _ _ _ _ _ _ hpi_.1.2.2.2.1 h8 k hkn _) (cx_V C 1 wd_436 wd_437 wd_438 wd_9 wd_439 rfl rfl (by decide +kernel) ⟨Nat.le_of_ble_eq_true rfl, Nat.le_of_ble_eq_true rfl⟩) hP hpi_.1.2.2.2.1.1 rfl rfl rfl (Nat.le_of_ble_eq_true rfl) d_B_bestTotal_45 ⟨Nat.le_of_ble_eq_true rfl, Nat.le_of_ble_eq_true rfl⟩) hP hS hA0 (fun r2 f1 H locs hq hP hS => ?_)
        obtain ⟨rfl, hu⟩ := hq
        rw [hu] at hP
        refine va_mmin_long hx hb (hml.trans hl.1.symm) hown (C.w wd_441) (C.w wd_442) (C.w wd_13) (C.w wd_443) (Nat.le_of_ble_eq_true rfl) (Nat.le_of_ble_eq_true rfl) (Nat.zero_le _) (Nat.zero_le _) d_B_bestTotal_48 ?_
        refine g_eql (y := lN (stE (bD b i) k)) (mn_e hDi_ hkn) ?_
        refine lv_lstore (lv' := [(10, .long (lN (stE (bD b i) k))), (8, .long (lN (max q (pB1 (bD b i) k)))), (7, .int (nI k)), (4, .int (oT o)), (5, .long L), (3, .ref (aAd a i 3)), (0, .ref x), (1, .ref (aAd a i 0)), (2, .int (nI q))]) hx hb d_B_bestTotal_51 hl (by decide) rfl (fun ls hl => ?_)
        refine lv_aload_n hx hb d_B_bestTotal_53 rfl (lv_at hl 7 rfl) ?_
        refine g_get C i_P hP hpi_.1.1 rfl 7 (by decide) wd_205 rfl rfl d_B_bestTotal_54 ?_
        refine lv_lload hx hb d_B_bestTotal_57 (lv_at hl 1 rfl) ?_
        refine lv_lload hx hb d_B_bestTotal_59 (lv_at hl 0 rfl) ?_
        refine g_calli (g_runV C hl.1 (ct_K_firstSum f _ _ _ (aSm a i) (pW (bD b i)) hDi_.2.2.2.2.2.2.2.1 hpi_.1.2.2.2.2.2.1 hpi_.2.1 (max q (pB1 (bD b i) k)) (stE (bD b i) k) hF (stE_le hDi_ k) _) (cx_V C 2 wd_444 wd_445 wd_446 wd_10 wd_447 rfl rfl (by decide +kernel) ⟨Nat.le_of_ble_eq_true rfl, Nat.le_of_ble_eq_true rfl⟩) hP hpi_.1.2.2.2.2.2.1 rfl rfl rfl (Nat.le_of_ble_eq_true rfl) d_B_bestTotal_61 ⟨Nat.le_of_ble_eq_true rfl, Nat.le_of_ble_eq_true rfl⟩) hP hS hA0 (fun r4 f3 H locs hq hP hS => ?_)
        obtain ⟨hq, hu⟩ := hq
        rw [hu] at hP
        refine lv_istore (lv' := [(12, .int r4), (10, .long (lN (stE (bD b i) k))), (8, .long (lN (max q (pB1 (bD b i) k)))), (7, .int (nI k)), (4, .int (oT o)), (5, .long L), (3, .ref (aAd a i 3)), (0, .ref x), (1, .ref (aAd a i 0)), (2, .int (nI q))]) hx hb d_B_bestTotal_64 hl (by decide) rfl (fun ls hl => ?_)
        refine lv_iload hx hb d_B_bestTotal_66 (lv_at hl 0 rfl) ?_
        refine lv_iconst (v := (-1)) hx hb d_B_bestTotal_68 (by decide) ?_
        refine lv_icmp_eq (tgt := 105) hx hb d_B_bestTotal_69 (by decide) (fun c_69 => ?_) (fun c_69 => ?_)
        · have hN : BTr (bRa b) (bD b i) q (k + 1) o := BTr_skip hBT (fun T h9 => by
            obtain ⟨g1, g2, g3⟩ := (cand_k hDi_ hkn).mp h9
            have hTE := stE_le hDi_ k
            rcases hq with ⟨T1, hT1, hT2, hT3, hT4, hT5⟩ | ⟨-, hno⟩
            · exact nI_nm1 (by omega) (hT5.symm.trans c_69)
            · exact hno T g1 g2 ((fs_iff hDi_ hpi_.2.2 (by omega)).mpr g3))
          refine lv_iinc (v := nI (k + 1)) (lv' := [(7, .int (nI (k + 1))), (12, .int r4), (10, .long (lN (stE (bD b i) k))), (8, .long (lN (max q (pB1 (bD b i) k)))), (4, .int (oT o)), (5, .long L), (3, .ref (aAd a i 3)), (0, .ref x), (1, .ref (aAd a i 0)), (2, .int (nI q))]) hx hb d_B_bestTotal_105 hl (k := 3) rfl (nI_1 k) (by decide) rfl (fun ls hl => ?_)
          refine lv_goto (tgt := 14) hx hb d_B_bestTotal_108 (by decide) ?_
          exact ih (k + 1) o L ls H locs (by omega) (by omega) hN hL hP hS (lv_sub hl [0, 4, 5, 6, 7, 8, 9] rfl)
        · obtain ⟨T, hT1, hT2, hT3, hT4, hT5⟩ := hq.resolve_right (fun z9 => c_69 z9.1)
          subst hT5
          have hTE := stE_le hDi_ k
          have hcT : cand (bD b i) q T k := (cand_k hDi_ hkn).mpr ⟨hT1, hT2, (fs_iff hDi_ hpi_.2.2 (by omega)).mp hT3⟩
          have hmin : ∀ T2, cand (bD b i) q T2 k → T ≤ T2 := fun T2 h9 => by
            obtain ⟨g1, g2, g3⟩ := (cand_k hDi_ hkn).mp h9
            rcases Nat.lt_or_ge T2 T with z | z
            · exact absurd ((fs_iff hDi_ hpi_.2.2 (by omega)).mpr g3) (hT4 T2 g1 z)
            · exact z
          have hcl := cst_lt (T := T) hDi_ hra (by omega) hkn
          refine lv_aload_n hx hb d_B_bestTotal_72 rfl (lv_at hl 7 rfl) ?_
          refine lv_aload_n hx hb d_B_bestTotal_73 rfl (lv_at hl 8 rfl) ?_
          refine lv_iload hx hb d_B_bestTotal_74 (lv_at hl 3 rfl) ?_
          refine lv_iload hx hb d_B_bestTotal_76 (lv_at hl 0 rfl) ?_
          refine g_calll (g_runV C hl.1 (ct_B_costAt f x a b hk i hi k T hkn (by omega) _) (cx_V C 3 wd_453 wd_455 wp_10 wd_1 wd_456 rfl rfl (by decide +kernel) ⟨Nat.le_of_ble_eq_true rfl, Nat.le_of_ble_eq_true rfl⟩) hP hk.1.1 rfl rfl rfl (Nat.le_of_ble_eq_true rfl) d_B_bestTotal_78 ⟨Nat.le_of_ble_eq_true rfl, Nat.le_of_ble_eq_true rfl⟩) hP hS hA0 (fun r6 f5 H locs hq hP hS => ?_)
          obtain ⟨rfl, hu⟩ := hq
          rw [hu] at hP
          refine lv_lstore (lv' := [(13, .long (lN (cst (bRa b) (bD b i) T k))), (12, .int (nI T)), (10, .long (lN (stE (bD b i) k))), (8, .long (lN (max q (pB1 (bD b i) k)))), (7, .int (nI k)), (4, .int (oT o)), (5, .long L), (3, .ref (aAd a i 3)), (0, .ref x), (1, .ref (aAd a i 0)), (2, .int (nI q))]) hx hb d_B_bestTotal_81 hl (by decide) rfl (fun ls hl => ?_)
          refine lv_iload hx hb d_B_bestTotal_83 (lv_at hl 5 rfl) ?_
          refine lv_iconst (v := (-1)) hx hb d_B_bestTotal_85 (by decide) ?_
          refine lv_icmp_eq (tgt := 97) hx hb d_B_bestTotal_86 (by decide) (fun c_86 => ?_) (fun c_86 => ?_)
          · have hN : BTr (bRa b) (bD b i) q (k + 1) (some (T, cst (bRa b) (bD b i) T k)) := BTr_take hBT hcT hmin (fun p hp => by rw [oT_m c_86 (fun p hp => (hL p hp).2.2)] at hp; cases hp)
            refine lv_iload hx hb d_B_bestTotal_97 (lv_at hl 1 rfl) ?_
            refine lv_istore (lv' := [(4, .int (nI T)), (13, .long (lN (cst (bRa b) (bD b i) T k))), (12, .int (nI T)), (10, .long (lN (stE (bD b i) k))), (8, .long (lN (max q (pB1 (bD b i) k)))), (7, .int (nI k)), (5, .long L), (3, .ref (aAd a i 3)), (0, .ref x), (1, .ref (aAd a i 0)), (2, .int (nI q))]) hx hb d_B_bestTotal_99 hl (by decide) rfl (fun ls hl => ?_)
            refine lv_lload hx hb d_B_bestTotal_101 (lv_at hl 1 rfl) ?_
            refine lv_lstore (lv' := [(5, .long (lN (cst (bRa b) (bD b i) T k))), (4, .int (nI T)), (13, .long (lN (cst (bRa b) (bD b i) T k))), (12, .int (nI T)), (10, .long (lN (stE (bD b i) k))), (8, .long (lN (max q (pB1 (bD b i) k)))), (7, .int (nI k)), (3, .ref (aAd a i 3)), (0, .ref x), (1, .ref (aAd a i 0)), (2, .int (nI q))]) hx hb d_B_bestTotal_103 hl (by decide) rfl (fun ls hl => ?_)
            refine lv_iinc (v := nI (k + 1)) (lv' := [(7, .int (nI (k + 1))), (5, .long (lN (cst (bRa b) (bD b i) T k))), (4, .int (nI T)), (13, .long (lN (cst (bRa b) (bD b i) T k))), (12, .int (nI T)), (10, .long (lN (stE (bD b i) k))), (8, .long (lN (max q (pB1 (bD b i) k)))), (3, .ref (aAd a i 3)), (0, .ref x), (1, .ref (aAd a i 0)), (2, .int (nI q))]) hx hb d_B_bestTotal_105 hl (k := 6) rfl (nI_1 k) (by decide) rfl (fun ls hl => ?_)
            refine lv_goto (tgt := 14) hx hb d_B_bestTotal_108 (by decide) ?_
            exact ih (k + 1) (some (T, cst (bRa b) (bD b i) T k)) (lN (cst (bRa b) (bD b i) T k)) ls H locs (by omega) (by omega) hN (fun p hp => by cases hp; exact ⟨rfl, by omega, by omega⟩) hP hS (lv_sub hl [0, 2, 1, 7, 8, 9, 10] rfl)
          · refine lv_lload hx hb d_B_bestTotal_89 (lv_at hl 0 rfl) ?_
            refine lv_lload hx hb d_B_bestTotal_91 (lv_at hl 6 rfl) ?_
            refine W.lcmp hx hb d_B_bestTotal_93 ?_
            refine lv_if_ge (tgt := 105) hx hb d_B_bestTotal_94 (by decide) (fun c_94 => ?_) (fun c_94 => ?_)
            · have c_94 := (lg_cmp_ge _ _).mp c_94
              obtain ⟨p, rfl⟩ : ∃ p, o = some p := by rcases o with _ | p; exact absurd rfl c_86; exact ⟨p, rfl⟩
              obtain ⟨e1, e2, e3⟩ := hL p rfl
              have hN : BTr (bRa b) (bD b i) q (k + 1) (some p) := BTr_keep hDi_.2.2.2.1 hBT hmin ((pk_lLE (by omega) (by omega)).mp (by rw [← e1]; exact c_94))
              refine lv_iinc (v := nI (k + 1)) (lv' := [(7, .int (nI (k + 1))), (13, .long (lN (cst (bRa b) (bD b i) T k))), (12, .int (nI T)), (10, .long (lN (stE (bD b i) k))), (8, .long (lN (max q (pB1 (bD b i) k)))), (4, .int (oT (some p))), (5, .long L), (3, .ref (aAd a i 3)), (0, .ref x), (1, .ref (aAd a i 0)), (2, .int (nI q))]) hx hb d_B_bestTotal_105 hl (k := 4) rfl (nI_1 k) (by decide) rfl (fun ls hl => ?_)
              refine lv_goto (tgt := 14) hx hb d_B_bestTotal_108 (by decide) ?_
              exact ih (k + 1) (some p) L ls H locs (by omega) (by omega) hN hL hP hS (lv_sub hl [0, 5, 6, 7, 8, 9, 10] rfl)
            · have c_94 := fun z => c_94 ((lg_cmp_ge _ _).mpr z)
              have hN : BTr (bRa b) (bD b i) q (k + 1) (some (T, cst (bRa b) (bD b i) T k)) := BTr_take hBT hcT hmin (fun p hp => (pk_lLT (by omega) (by have := (hL p hp).2.1; omega)).mp (by rw [← (hL p hp).1]; exact Int64.not_le.mp c_94))
              refine lv_iload hx hb d_B_bestTotal_97 (lv_at hl 1 rfl) ?_
              refine lv_istore (lv' := [(4, .int (nI T)), (13, .long (lN (cst (bRa b) (bD b i) T k))), (12, .int (nI T)), (10, .long (lN (stE (bD b i) k))), (8, .long (lN (max q (pB1 (bD b i) k)))), (7, .int (nI k)), (5, .long L), (3, .ref (aAd a i 3)), (0, .ref x), (1, .ref (aAd a i 0)), (2, .int (nI q))]) hx hb d_B_bestTotal_99 hl (by decide) rfl (fun ls hl => ?_)
              refine lv_lload hx hb d_B_bestTotal_101 (lv_at hl 1 rfl) ?_
              refine lv_lstore (lv' := [(5, .long (lN (cst (bRa b) (bD b i) T k))), (4, .int (nI T)), (13, .long (lN (cst (bRa b) (bD b i) T k))), (12, .int (nI T)), (10, .long (lN (stE (bD b i) k))), (8, .long (lN (max q (pB1 (bD b i) k)))), (7, .int (nI k)), (3, .ref (aAd a i 3)), (0, .ref x), (1, .ref (aAd a i 0)), (2, .int (nI q))]) hx hb d_B_bestTotal_103 hl (by decide) rfl (fun ls hl => ?_)
              refine lv_iinc (v := nI (k + 1)) (lv' := [(7, .int (nI (k + 1))), (5, .long (lN (cst (bRa b) (bD b i) T k))), (4, .int (nI T)), (13, .long (lN (cst (bRa b) (bD b i) T k))), (12, .int (nI T)), (10, .long (lN (stE (bD b i) k))), (8, .long (lN (max q (pB1 (bD b i) k)))), (3, .ref (aAd a i 3)), (0, .ref x), (1, .ref (aAd a i 0)), (2, .int (nI q))]) hx hb d_B_bestTotal_105 hl (k := 6) rfl (nI_1 k) (by decide) rfl (fun ls hl => ?_)
              refine lv_goto (tgt := 14) hx hb d_B_bestTotal_108 (by decide) ?_
              exact ih (k + 1) (some (T, cst (bRa b) (bD b i) T k)) (lN (cst (bRa b) (bD b i) T k)) ls H locs (by omega) (by omega) hN (fun p hp => by cases hp; exact ⟨rfl, by omega, by omega⟩) hP hS (lv_sub hl [0, 2, 1, 7, 8, 9, 10] rfl)
  refine lv_aload_n hx hb d_B_bestTotal_0 rfl (lv_at hl 1 rfl) ?_
  refine g_get C i_P hP hpi_.1.1 rfl 5 (by decide) wd_201 rfl rfl d_B_bestTotal_1 ?_
  refine lv_astore_n (lv' := [(3, .ref (aAd a i 3)), (0, .ref x), (1, .ref (aAd a i 0)), (2, .int (nI q))]) hx hb d_B_bestTotal_4 rfl hl (by decide) rfl (fun ls hl => ?_)
  refine lv_iconst (v := (-1)) hx hb d_B_bestTotal_5 (by decide) ?_
  refine lv_istore (lv' := [(4, .int (-1)), (3, .ref (aAd a i 3)), (0, .ref x), (1, .ref (aAd a i 0)), (2, .int (nI q))]) hx hb d_B_bestTotal_6 hl (by decide) rfl (fun ls hl => ?_)
  refine lv_lconst (v := 0) hx hb d_B_bestTotal_8 (by decide) ?_
  refine lv_lstore (lv' := [(5, .long 0), (4, .int (-1)), (3, .ref (aAd a i 3)), (0, .ref x), (1, .ref (aAd a i 0)), (2, .int (nI q))]) hx hb d_B_bestTotal_9 hl (by decide) rfl (fun ls hl => ?_)
  refine lv_iconst (v := 0) hx hb d_B_bestTotal_11 (by decide) ?_
  refine lv_istore (lv' := [(7, .int 0), (5, .long 0), (4, .int (-1)), (3, .ref (aAd a i 3)), (0, .ref x), (1, .ref (aAd a i 0)), (2, .int (nI q))]) hx hb d_B_bestTotal_12 hl (by decide) rfl (fun ls hl => ?_)
  exact loop 9 0 none 0 ls s.heap [] (by omega) (by omega) (fun T k h1 => absurd h1 (by omega)) (fun p hp => by cases hp) hP hS (lv_sub hl [0, 2, 1, 3, 4, 5, 6] rfl)
set_option maxHeartbeats 4000000 in
set_option maxRecDepth 100000 in
theorem ct_B_leastCost {l : Launch} {G : hG} (f : hm) (x : Nat) (a : AD) (b : BD) (hk : bk G f x a b) (i : Nat) (hi : i < bN b) (q : Nat) (hq1 : 1 ≤ q) (hq2 : q ≤ 10000) : cl_ l G y_B_leastCost w_B_leastCost { frames := 3, cells := 0, slots := 0, locals := 120 } [.ref x, .ref (aAd a i 0), .int (nI q)] f (fun r u => (∃ o, BT (bRa b) (bD b i) q o ∧ r = oC o) ∧ u = f) := by
  intro sz
  refine h_ofW (cc := c_B_leastCost) (maxL := 5) (ret := (some .long)) (by decide) rfl (Nat.le_of_ble_eq_true rfl) ?_
  intro p e s m below meth c ls C hin hsz hP hl
  obtain ⟨hx, hb, hml, hown, -, -, -, -⟩ := id C
  subst hsz
  have hA0 : ∀ q, s.heap.size ≤ q → hA f s.heap.size q := hA.new
  have hS : va_S (hA f s.heap.size) s.heap s.heap [] := va_S.rf
  replace hl : lv_has ls 5 [(0, .ref x), (1, .ref (aAd a i 0)), (2, .int (nI q))] := hl
  have hNN : bN b ≤ 40 := hk.2.2.2.2.1.1
  have hRC : bRc b ≤ 10 := hk.2.2.2.2.1.2.1
  have hHC : bHc b ≤ 40 := hk.2.2.2.2.1.2.2
  have hpi_ := hk.2.1 i hi
  have hDi_ := hk.2.2.2.2.2.1 i hi
  have h8 := hDi_.1.2.2.1
  have hra := hk.2.2.2.2.2.2.2.2.1
  have hpc := hDi_.1.2.1
  refine lv_aload_n hx hb d_B_leastCost_0 rfl (lv_at hl 0 rfl) ?_
  refine lv_aload_n hx hb d_B_leastCost_1 rfl (lv_at hl 1 rfl) ?_
  refine lv_iload_n hx hb d_B_leastCost_2 rfl (lv_at hl 2 rfl) ?_
  refine g_calli (g_runV C hl.1 (ct_B_bestTotal f x a b hk i hi q hq1 hq2 _) (cx_V C 2 wd_431 wd_433 wp_9 wd_1 wd_434 rfl rfl (by decide +kernel) ⟨Nat.le_of_ble_eq_true rfl, Nat.le_of_ble_eq_true rfl⟩) hP hk.1.1 rfl rfl rfl (Nat.le_of_ble_eq_true rfl) d_B_leastCost_3 ⟨Nat.le_of_ble_eq_true rfl, Nat.le_of_ble_eq_true rfl⟩) hP hS hA0 (fun r2 f1 H locs hq hP hS => ?_)
  obtain ⟨⟨o, hBT, rfl⟩, hu⟩ := hq
  rw [hu] at hP
  refine lv_istore_n (lv' := [(3, .int (oT o)), (0, .ref x), (1, .ref (aAd a i 0)), (2, .int (nI q))]) hx hb d_B_leastCost_6 rfl hl (by decide) rfl (fun ls hl => ?_)
  refine lv_aload_n hx hb d_B_leastCost_7 rfl (lv_at hl 2 rfl) ?_
  refine g_get C i_P hP hpi_.1.1 rfl 5 (by decide) wd_201 rfl rfl d_B_leastCost_8 ?_
  refine lv_iload_n hx hb d_B_leastCost_11 rfl (lv_at hl 0 rfl) ?_
  refine lv_i2l (v := (oT o).toInt64) hx hb d_B_leastCost_12 rfl ?_
  refine g_calli (g_runV C hl.1 (ct_S_stepOf f _ _ _ _ _ _ _ _ hpi_.1.2.2.2.1 h8 (oT o).toInt64 _) (cx_V C 1 wd_457 wd_357 wd_358 wd_9 wd_359 rfl rfl (by decide +kernel) ⟨Nat.le_of_ble_eq_true rfl, Nat.le_of_ble_eq_true rfl⟩) hP hpi_.1.2.2.2.1.1 rfl rfl rfl (Nat.le_of_ble_eq_true rfl) d_B_leastCost_13 ⟨Nat.le_of_ble_eq_true rfl, Nat.le_of_ble_eq_true rfl⟩) hP hS hA0 (fun r4 f3 H locs hq hP hS => ?_)
  obtain ⟨⟨k, hkn, rfl, hle, hgt⟩, hu⟩ := hq
  rw [hu] at hP
  refine lv_istore (lv' := [(4, .int (nI k - 1)), (3, .int (oT o)), (0, .ref x), (1, .ref (aAd a i 0)), (2, .int (nI q))]) hx hb d_B_leastCost_16 hl (by decide) rfl (fun ls hl => ?_)
  have hst : ∀ T c, o = some (T, c) → T ≤ 20000 ∧ ∃ k0, k = k0 + 1 ∧ k0 < pN1 (bD b i) ∧ c = cst (bRa b) (bD b i) T k0 := fun T c ho => by
    subst ho
    obtain ⟨k0, hk0, hcd, hc, -⟩ := hBT
    have hT : T ≤ 20000 := by have := hcd.2.1; simp only at this; omega
    have eT : (oT (some (T, c))).toInt64 = lN T := nI_l (by omega)
    rw [eT] at hle hgt
    have g1 := hcd.2.2.2.2.1
    have g2 := hcd.2.2.2.2.2
    simp only at g1 g2
    have e1 : k0 < k := Nat.lt_of_not_le (fun z => hgt (by omega) ((pk_lLE (by have := (hDi_.2.2.1 k (by omega)).1; omega) (by omega)).mpr (by
      rcases Nat.lt_or_ge k k0 with y | y
      · have := hDi_.2.2.2.1 k k0 y hk0; omega
      · rw [show k = k0 by omega]; exact g1)))
    have e2 : ¬ k0 + 1 < k := fun z => by
      have h1 := (pk_lLE (by have := (hDi_.2.2.1 (k0 + 1) (by omega)).1; omega) (by omega)).mp (hle (k0 + 1) z)
      have h2 := g2 (by omega)
      omega
    exact ⟨hT, k0, by omega, hk0, hc⟩
  refine lv_iload_n hx hb d_B_leastCost_18 rfl (lv_at hl 1 rfl) ?_
  refine lv_iconst (v := (-1)) hx hb d_B_leastCost_19 (by decide) ?_
  refine lv_icmp_eq (tgt := 29) hx hb d_B_leastCost_20 (by decide) (fun c_20 => ?_) (fun c_20 => ?_)
  · have q_1 : o = none := oT_m c_20 (fun p hp => by have := (hst p.1 p.2 hp).1; omega)
    refine lv_ldc2 hx hb hown (C.w wd_295) d_B_leastCost_29 ?_
    refine lv_goto (tgt := 43) hx hb d_B_leastCost_32 (by decide) ?_
    exact g_lret C hP hS (⟨⟨none, by rw [q_1] at hBT; exact hBT, rfl⟩, rfl⟩) (Nat.le_of_ble_eq_true rfl) (Nat.le_of_ble_eq_true rfl) d_B_leastCost_43
  · refine lv_iload hx hb d_B_leastCost_23 (lv_at hl 0 rfl) ?_
    refine lv_iconst (v := (-1)) hx hb d_B_leastCost_25 (by decide) ?_
    refine lv_icmp_ne (tgt := 35) hx hb d_B_leastCost_26 (by decide) (fun c_26 => ?_) (fun c_26 => ?_)
    · obtain ⟨T, c, rfl⟩ : ∃ T c, o = some (T, c) := by rcases o with _ | p; exact absurd rfl c_20; exact ⟨p.1, p.2, rfl⟩
      obtain ⟨hT, k0, rfl, hk0, hc⟩ := hst T c rfl
      rw [nI_pred] at hl
      refine lv_aload_n hx hb d_B_leastCost_35 rfl (lv_at hl 2 rfl) ?_
      refine lv_aload_n hx hb d_B_leastCost_36 rfl (lv_at hl 3 rfl) ?_
      refine lv_iload hx hb d_B_leastCost_37 (lv_at hl 0 rfl) ?_
      refine lv_iload_n hx hb d_B_leastCost_39 rfl (lv_at hl 1 rfl) ?_
      refine g_calll (g_runV C hl.1 (ct_B_costAt f x a b hk i hi k0 T hk0 hT _) (cx_V C 3 wd_453 wd_455 wp_10 wd_1 wd_456 rfl rfl (by decide +kernel) ⟨Nat.le_of_ble_eq_true rfl, Nat.le_of_ble_eq_true rfl⟩) hP hk.1.1 rfl rfl rfl (Nat.le_of_ble_eq_true rfl) d_B_leastCost_40 ⟨Nat.le_of_ble_eq_true rfl, Nat.le_of_ble_eq_true rfl⟩) hP hS hA0 (fun r6 f5 H locs hq hP hS => ?_)
      obtain ⟨rfl, hu⟩ := hq
      rw [hu] at hP
      exact g_lret C hP hS (⟨⟨_, hBT, by rw [← hc]; rfl⟩, rfl⟩) (Nat.le_of_ble_eq_true rfl) (Nat.le_of_ble_eq_true rfl) d_B_leastCost_43
    · have q_1 : o = none := by
        rcases o with _ | p
        · rfl
        · obtain ⟨-, k0, e1, -, -⟩ := hst p.1 p.2 rfl
          rw [e1, nI_pred] at c_26
          exact absurd c_26 (nI_nm1 (by omega))
      refine lv_ldc2 hx hb hown (C.w wd_295) d_B_leastCost_29 ?_
      refine lv_goto (tgt := 43) hx hb d_B_leastCost_32 (by decide) ?_
      exact g_lret C hP hS (⟨⟨none, by rw [q_1] at hBT; exact hBT, rfl⟩, rfl⟩) (Nat.le_of_ble_eq_true rfl) (Nat.le_of_ble_eq_true rfl) d_B_leastCost_43
set_option maxHeartbeats 4000000 in
set_option maxRecDepth 100000 in
theorem ct_B_offer {l : Launch} {G : hG} (f : hm) (x : Nat) (a : AD) (b : BD) (hk : bk G f x a b) (i : Nat) (hi : i < bN b) (q : Nat) (hq1 : 1 ≤ q) (hq2 : q ≤ 10000) (d : Int64) : cl_ l G y_B_offer w_B_offer { frames := 4, cells := 0, slots := 0, locals := 160 } [.ref x, .ref (aAd a i 0), .int (nI q), .long d] f (fun r u => (∃ o, OF b i q d o ∧ r = oC o) ∧ u = f) := by
  intro sz
  refine h_ofW (cc := c_B_offer) (maxL := 6) (ret := (some .long)) (by decide) rfl (Nat.le_of_ble_eq_true rfl) ?_
  intro p e s m below meth c ls C hin hsz hP hl
  obtain ⟨hx, hb, hml, hown, -, -, -, -⟩ := id C
  subst hsz
  have hA0 : ∀ q, s.heap.size ≤ q → hA f s.heap.size q := hA.new
  have hS : va_S (hA f s.heap.size) s.heap s.heap [] := va_S.rf
  replace hl : lv_has ls 6 [(0, .ref x), (1, .ref (aAd a i 0)), (2, .int (nI q)), (3, .long d)] := hl
  have hNN : bN b ≤ 40 := hk.2.2.2.2.1.1
  have hRC : bRc b ≤ 10 := hk.2.2.2.2.1.2.1
  have hHC : bHc b ≤ 40 := hk.2.2.2.2.1.2.2
  have hpi_ := hk.2.1 i hi
  have hDi_ := hk.2.2.2.2.2.1 i hi
  refine lv_aload_n hx hb d_B_offer_0 rfl (lv_at hl 1 rfl) ?_
  refine lv_lload_n hx hb d_B_offer_1 rfl (lv_at hl 3 rfl) ?_
  refine g_calli (g_runV C hl.1 (ct_P_stateOn f _ _ _ _ _ _ _ _ _ hpi_.1.1 _ _ _ _ _ _ _ hpi_.1.2.2.2.2.1 hDi_.1.2.2.2.1 d _) (cx_V C 1 wd_415 wd_416 wd_417 wd_8 wd_418 rfl rfl (by decide +kernel) ⟨Nat.le_of_ble_eq_true rfl, Nat.le_of_ble_eq_true rfl⟩) hP hpi_.1.1 rfl rfl rfl (Nat.le_of_ble_eq_true rfl) d_B_offer_2 ⟨Nat.le_of_ble_eq_true rfl, Nat.le_of_ble_eq_true rfl⟩) hP hS hA0 (fun r2 f1 H locs hq hP hS => ?_)
  obtain ⟨⟨k, hk1, hk2, hk3, hk4⟩, hu⟩ := hq
  rw [hu] at hP
  obtain ⟨v, hsd, hv, rfl⟩ : ∃ v, stD (bD b i) d v ∧ v ≤ 3 ∧ r2 = nI v := ⟨if k = 0 then 0 else pK2 (bD b i) (k - 1), ⟨k, hk1, hk2, hk3, rfl⟩, by by_cases z : k = 0 <;> simp only [z, if_true, if_false] <;> first | omega | exact hDi_.2.2.2.2.1 _ (by omega), by rw [hk4]; by_cases z : k = 0 <;> simp [z] <;> rfl⟩
  refine lv_istore (lv' := [(5, .int (nI v)), (0, .ref x), (1, .ref (aAd a i 0)), (2, .int (nI q)), (3, .long d)]) hx hb d_B_offer_5 hl (by decide) rfl (fun ls hl => ?_)
  refine lv_iload hx hb d_B_offer_7 (lv_at hl 0 rfl) ?_
  refine lv_iconst (v := 1) hx hb d_B_offer_9 (by decide) ?_
  refine lv_icmp_eq (tgt := 19) hx hb d_B_offer_10 (by decide) (fun c_10 => ?_) (fun c_10 => ?_)
  · have q_1 : v = 1 ∨ v = 2 := Or.inl ((nI_eq (b := 1) (by omega) (by decide)).mp c_10)
    refine lv_aload_n hx hb d_B_offer_19 rfl (lv_at hl 1 rfl) ?_
    refine lv_aload_n hx hb d_B_offer_20 rfl (lv_at hl 2 rfl) ?_
    refine lv_iload_n hx hb d_B_offer_21 rfl (lv_at hl 3 rfl) ?_
    refine g_calll (g_runV C hl.1 (ct_B_leastCost f x a b hk i hi q hq1 hq2 _) (cx_V C 2 wd_427 wd_429 wp_8 wd_1 wd_430 rfl rfl (by decide +kernel) ⟨Nat.le_of_ble_eq_true rfl, Nat.le_of_ble_eq_true rfl⟩) hP hk.1.1 rfl rfl rfl (Nat.le_of_ble_eq_true rfl) d_B_offer_22 ⟨Nat.le_of_ble_eq_true rfl, Nat.le_of_ble_eq_true rfl⟩) hP hS hA0 (fun r4 f3 H locs hq hP hS => ?_)
    obtain ⟨⟨o, hBT, rfl⟩, hu⟩ := hq
    rw [hu] at hP
    refine lv_goto (tgt := 31) hx hb d_B_offer_25 (by decide) ?_
    exact g_lret C hP hS (⟨⟨o, ⟨v, hsd, Or.inl ⟨q_1, hBT⟩⟩, rfl⟩, rfl⟩) (Nat.le_of_ble_eq_true rfl) (Nat.le_of_ble_eq_true rfl) d_B_offer_31
  · refine lv_iload hx hb d_B_offer_13 (lv_at hl 0 rfl) ?_
    refine lv_iconst (v := 2) hx hb d_B_offer_15 (by decide) ?_
    refine lv_icmp_ne (tgt := 28) hx hb d_B_offer_16 (by decide) (fun c_16 => ?_) (fun c_16 => ?_)
    · have q_1 : ¬ (v = 1 ∨ v = 2) := fun z9 => z9.elim (fun z => c_10 (by rw [z]; rfl)) (fun z => c_16 (by rw [z]; rfl))
      refine lv_ldc2 hx hb hown (C.w wd_295) d_B_offer_28 ?_
      exact g_lret C hP hS (⟨⟨none, ⟨v, hsd, Or.inr ⟨q_1, rfl⟩⟩, rfl⟩, rfl⟩) (Nat.le_of_ble_eq_true rfl) (Nat.le_of_ble_eq_true rfl) d_B_offer_31
    · have q_1 : v = 1 ∨ v = 2 := Or.inr ((nI_eq (b := 2) (by omega) (by decide)).mp c_16)
      refine lv_aload_n hx hb d_B_offer_19 rfl (lv_at hl 1 rfl) ?_
      refine lv_aload_n hx hb d_B_offer_20 rfl (lv_at hl 2 rfl) ?_
      refine lv_iload_n hx hb d_B_offer_21 rfl (lv_at hl 3 rfl) ?_
      refine g_calll (g_runV C hl.1 (ct_B_leastCost f x a b hk i hi q hq1 hq2 _) (cx_V C 2 wd_427 wd_429 wp_8 wd_1 wd_430 rfl rfl (by decide +kernel) ⟨Nat.le_of_ble_eq_true rfl, Nat.le_of_ble_eq_true rfl⟩) hP hk.1.1 rfl rfl rfl (Nat.le_of_ble_eq_true rfl) d_B_offer_22 ⟨Nat.le_of_ble_eq_true rfl, Nat.le_of_ble_eq_true rfl⟩) hP hS hA0 (fun r6 f5 H locs hq hP hS => ?_)
      obtain ⟨⟨o, hBT, rfl⟩, hu⟩ := hq
      rw [hu] at hP
      refine lv_goto (tgt := 31) hx hb d_B_offer_25 (by decide) ?_
      exact g_lret C hP hS (⟨⟨o, ⟨v, hsd, Or.inl ⟨q_1, hBT⟩⟩, rfl⟩, rfl⟩) (Nat.le_of_ble_eq_true rfl) (Nat.le_of_ble_eq_true rfl) d_B_offer_31
