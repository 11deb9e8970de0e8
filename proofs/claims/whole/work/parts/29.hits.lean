/-! PartBook: meets, isAlternate, the order, addHit, alternates, search. -/
theorem nI_nm1 {n : Nat} (h : n < 2 ^ 31) : ¬ nI n = -1 := fun z => by
  have h1 := congrArg Int32.toInt z
  rw [nI_toInt h, show (-1 : Int32).toInt = -1 by decide] at h1
  omega
set_option maxHeartbeats 4000000 in
set_option maxRecDepth 100000 in
theorem ct_B_meets {l : Launch} {G : hG} (f : hm) (x : Nat) (a : AD) (b : BD) (hk : bk G f x a b) (i o : Nat) (hi : i < bN b) (ho : o < bN b) (j : Nat) (hj : j < 12) (hw : Int32) : ci_ l G y_B_meets w_B_meets { frames := 2, cells := 0, slots := 0, locals := 80 } [.ref (aAd a i 0), .ref (aAd a o 0), .int (nI j), .int hw] f (fun r u => bz (mt (bD b i) (bD b o) j hw) r ∧ u = f) := by
  intro sz
  refine h_ofW (cc := c_B_meets) (maxL := 5) (ret := (some .boolean)) (by decide) rfl (Nat.le_of_ble_eq_true rfl) ?_
  intro p e s m below meth c ls C hin hsz hP hl
  obtain ⟨hx, hb, hml, hown, -, -, -, -⟩ := id C
  subst hsz
  have hA0 : ∀ q, s.heap.size ≤ q → hA f s.heap.size q := hA.new
  have hS : va_S (hA f s.heap.size) s.heap s.heap [] := va_S.rf
  replace hl : lv_has ls 5 [(0, .ref (aAd a i 0)), (1, .ref (aAd a o 0)), (2, .int (nI j)), (3, .int hw)] := hl
  have hNN : bN b ≤ 40 := hk.2.2.2.2.1.1
  have hRC : bRc b ≤ 10 := hk.2.2.2.2.1.2.1
  have hHC : bHc b ≤ 40 := hk.2.2.2.2.1.2.2
  have hpi_ := hk.2.1 i hi
  have hDi_ := hk.2.2.2.2.2.1 i hi
  have hpo_ := hk.2.1 o ho
  have hDo_ := hk.2.2.2.2.2.1 o ho
  refine lv_aload_n hx hb d_B_meets_0 rfl (lv_at hl 0 rfl) ?_
  refine lv_iload_n hx hb d_B_meets_1 rfl (lv_at hl 2 rfl) ?_
  refine g_calli (g_runV C hl.1 (ct_P_has f _ _ _ _ _ _ _ _ _ hpi_.1.1 _ hpi_.1.2.2.1 j hj _) (cx_V C 1 wd_291 wd_292 wd_293 wd_8 wd_294 rfl rfl (by decide +kernel) ⟨Nat.le_of_ble_eq_true rfl, Nat.le_of_ble_eq_true rfl⟩) hP hpi_.1.1 rfl rfl rfl (Nat.le_of_ble_eq_true rfl) d_B_meets_2 ⟨Nat.le_of_ble_eq_true rfl, Nat.le_of_ble_eq_true rfl⟩) hP hS hA0 (fun r2 f1 H locs hq hP hS => ?_)
  obtain ⟨rfl, hu⟩ := hq
  rw [hu] at hP
  refine lv_if_eq (tgt := 16) hx hb d_B_meets_5 (by decide) (fun c_5 => ?_) (fun c_5 => ?_)
  · have q_i : pVb (bD b i) j = 0 := has_0 (hDi_.2.1 j).2 c_5
    refine lv_iconst (v := 0) hx hb d_B_meets_16 (by decide) ?_
    exact g_zret C (by first | exact Or.inl rfl | exact Or.inr rfl) hP hS (⟨Or.inr ⟨fun z9 => by first | exact z9.1 q_i | exact z9.2.1 q_o, rfl⟩, rfl⟩) (Nat.le_of_ble_eq_true rfl) (Nat.le_of_ble_eq_true rfl) d_B_meets_17
  · have q_i : ¬ pVb (bD b i) j = 0 := fun z9 => c_5 (if_pos (by show lN _ = 0; rw [z9]; rfl))
    refine lv_aload_n hx hb d_B_meets_8 rfl (lv_at hl 1 rfl) ?_
    refine lv_iload_n hx hb d_B_meets_9 rfl (lv_at hl 2 rfl) ?_
    refine g_calli (g_runV C hl.1 (ct_P_has f _ _ _ _ _ _ _ _ _ hpo_.1.1 _ hpo_.1.2.2.1 j hj _) (cx_V C 1 wd_291 wd_292 wd_293 wd_8 wd_294 rfl rfl (by decide +kernel) ⟨Nat.le_of_ble_eq_true rfl, Nat.le_of_ble_eq_true rfl⟩) hP hpo_.1.1 rfl rfl rfl (Nat.le_of_ble_eq_true rfl) d_B_meets_10 ⟨Nat.le_of_ble_eq_true rfl, Nat.le_of_ble_eq_true rfl⟩) hP hS hA0 (fun r4 f3 H locs hq hP hS => ?_)
    obtain ⟨rfl, hu⟩ := hq
    rw [hu] at hP
    refine lv_if_ne (tgt := 18) hx hb d_B_meets_13 (by decide) (fun c_13 => ?_) (fun c_13 => ?_)
    · have q_o : ¬ pVb (bD b o) j = 0 := fun z9 => c_13 (if_pos (by show lN _ = 0; rw [z9]; rfl))
      refine lv_aload_n hx hb d_B_meets_18 rfl (lv_at hl 0 rfl) ?_
      refine lv_iload_n hx hb d_B_meets_19 rfl (lv_at hl 2 rfl) ?_
      refine lv_aload_n hx hb d_B_meets_20 rfl (lv_at hl 1 rfl) ?_
      refine g_get C i_P hP hpo_.1.1 rfl 3 (by decide) wd_197 rfl rfl d_B_meets_21 ?_
      refine lv_iload_n hx hb d_B_meets_24 rfl (lv_at hl 2 rfl) ?_
      refine g_laldN C hP hpo_.1.2.1 (j := j) (by omega) (by decide) d_B_meets_25 ?_
      refine lv_aload_n hx hb d_B_meets_26 rfl (lv_at hl 1 rfl) ?_
      refine g_get C i_P hP hpo_.1.1 rfl 4 (by decide) wd_199 rfl rfl d_B_meets_27 ?_
      refine lv_iload_n hx hb d_B_meets_30 rfl (lv_at hl 2 rfl) ?_
      refine g_laldN C hP hpo_.1.2.2.1 (j := j) (by omega) (by decide) d_B_meets_31 ?_
      refine g_calli (g_runV C hl.1 (ct_P_against f _ _ _ _ _ _ _ _ _ hpi_.1.1 _ _ hpi_.1.2.1 hpi_.1.2.2.1 j hj (pVa (bD b i) j) (pVb (bD b i) j) (pVa (bD b o) j) (pVb (bD b o) j) (hDi_.2.1 j).1 (Nat.pos_of_ne_zero q_i) (hDi_.2.1 j).2 (hDo_.2.1 j).1 (Nat.pos_of_ne_zero q_o) (Nat.lt_trans (hDo_.2.1 j).2 (by decide)) rfl rfl _) (cx_V C 3 wd_318 wd_319 wd_320 wd_8 wd_321 rfl rfl (by decide +kernel) ⟨Nat.le_of_ble_eq_true rfl, Nat.le_of_ble_eq_true rfl⟩) hP hpi_.1.1 rfl rfl rfl (Nat.le_of_ble_eq_true rfl) d_B_meets_32 ⟨Nat.le_of_ble_eq_true rfl, Nat.le_of_ble_eq_true rfl⟩) hP hS hA0 (fun r6 f5 H locs hq hP hS => ?_)
      obtain ⟨rfl, hu⟩ := hq
      rw [hu] at hP
      refine lv_istore (lv' := [(4, .int (cq_i (vc (bD b i) (bD b o) j))), (0, .ref (aAd a i 0)), (1, .ref (aAd a o 0)), (2, .int (nI j)), (3, .int hw)]) hx hb d_B_meets_35 hl (by decide) rfl (fun ls hl => ?_)
      refine lv_iload_n hx hb d_B_meets_37 rfl (lv_at hl 4 rfl) ?_
      refine lv_if_ne (tgt := 52) hx hb d_B_meets_38 (by decide) (fun c_38 => ?_) (fun c_38 => ?_)
      · refine lv_iload_n hx hb d_B_meets_52 rfl (lv_at hl 4 rfl) ?_
        refine lv_iconst (v := 1) hx hb d_B_meets_53 (by decide) ?_
        refine lv_icmp_ne (tgt := 70) hx hb d_B_meets_54 (by decide) (fun c_54 => ?_) (fun c_54 => ?_)
        · refine lv_iload hx hb d_B_meets_70 (lv_at hl 0 rfl) ?_
          refine lv_if_gt (tgt := 79) hx hb d_B_meets_72 (by decide) (fun c_72 => ?_) (fun c_72 => ?_)
          · refine lv_iconst (v := 0) hx hb d_B_meets_79 (by decide) ?_
            exact g_zret C (by first | exact Or.inl rfl | exact Or.inr rfl) hP hS (⟨Or.inr ⟨fun z9 => by rcases z9.2.2 with z | z | z; exact c_38 z.1; (first | exact z.2.2 c_59 | exact c_54 z.2.1); (first | exact z.2.1 c_54 | exact z.2.2 c_72), rfl⟩, rfl⟩) (Nat.le_of_ble_eq_true rfl) (Nat.le_of_ble_eq_true rfl) d_B_meets_80
          · refine lv_iconst (v := 1) hx hb d_B_meets_75 (by decide) ?_
            refine lv_goto (tgt := 80) hx hb d_B_meets_76 (by decide) ?_
            exact g_zret C (by first | exact Or.inl rfl | exact Or.inr rfl) hP hS (⟨Or.inl ⟨⟨q_i, q_o, by first | exact Or.inr (Or.inl ⟨c_38, c_54, c_59⟩) | exact Or.inr (Or.inr ⟨c_38, c_54, c_72⟩)⟩, rfl⟩, rfl⟩) (Nat.le_of_ble_eq_true rfl) (Nat.le_of_ble_eq_true rfl) d_B_meets_80
        · refine lv_iload hx hb d_B_meets_57 (lv_at hl 0 rfl) ?_
          refine lv_if_lt (tgt := 66) hx hb d_B_meets_59 (by decide) (fun c_59 => ?_) (fun c_59 => ?_)
          · refine lv_iconst (v := 0) hx hb d_B_meets_66 (by decide) ?_
            refine lv_goto (tgt := 80) hx hb d_B_meets_67 (by decide) ?_
            exact g_zret C (by first | exact Or.inl rfl | exact Or.inr rfl) hP hS (⟨Or.inr ⟨fun z9 => by rcases z9.2.2 with z | z | z; exact c_38 z.1; (first | exact z.2.2 c_59 | exact c_54 z.2.1); (first | exact z.2.1 c_54 | exact z.2.2 c_72), rfl⟩, rfl⟩) (Nat.le_of_ble_eq_true rfl) (Nat.le_of_ble_eq_true rfl) d_B_meets_80
          · refine lv_iconst (v := 1) hx hb d_B_meets_62 (by decide) ?_
            refine lv_goto (tgt := 80) hx hb d_B_meets_63 (by decide) ?_
            exact g_zret C (by first | exact Or.inl rfl | exact Or.inr rfl) hP hS (⟨Or.inl ⟨⟨q_i, q_o, by first | exact Or.inr (Or.inl ⟨c_38, c_54, c_59⟩) | exact Or.inr (Or.inr ⟨c_38, c_54, c_72⟩)⟩, rfl⟩, rfl⟩) (Nat.le_of_ble_eq_true rfl) (Nat.le_of_ble_eq_true rfl) d_B_meets_80
      · refine lv_iload hx hb d_B_meets_41 (lv_at hl 0 rfl) ?_
        refine lv_if_ne (tgt := 50) hx hb d_B_meets_43 (by decide) (fun c_43 => ?_) (fun c_43 => ?_)
        · refine lv_iconst (v := 0) hx hb d_B_meets_50 (by decide) ?_
          exact g_zret C (by first | exact Or.inl rfl | exact Or.inr rfl) hP hS (⟨Or.inr ⟨fun z9 => by rcases z9.2.2 with z | z | z; exact c_43 z.2; exact z.1 c_38; exact z.1 c_38, rfl⟩, rfl⟩) (Nat.le_of_ble_eq_true rfl) (Nat.le_of_ble_eq_true rfl) d_B_meets_51
        · refine lv_iconst (v := 1) hx hb d_B_meets_46 (by decide) ?_
          refine lv_goto (tgt := 51) hx hb d_B_meets_47 (by decide) ?_
          exact g_zret C (by first | exact Or.inl rfl | exact Or.inr rfl) hP hS (⟨Or.inl ⟨⟨q_i, q_o, Or.inl ⟨c_38, c_43⟩⟩, rfl⟩, rfl⟩) (Nat.le_of_ble_eq_true rfl) (Nat.le_of_ble_eq_true rfl) d_B_meets_51
    · have q_o : pVb (bD b o) j = 0 := has_0 (hDo_.2.1 j).2 c_13
      refine lv_iconst (v := 0) hx hb d_B_meets_16 (by decide) ?_
      exact g_zret C (by first | exact Or.inl rfl | exact Or.inr rfl) hP hS (⟨Or.inr ⟨fun z9 => by first | exact z9.1 q_i | exact z9.2.1 q_o, rfl⟩, rfl⟩) (Nat.le_of_ble_eq_true rfl) (Nat.le_of_ble_eq_true rfl) d_B_meets_17
set_option maxHeartbeats 4000000 in
set_option maxRecDepth 100000 in
theorem ct_B_isAlternate {l : Launch} {G : hG} (f : hm) (x : Nat) (a : AD) (b : BD) (hk : bk G f x a b) (i o : Nat) (hi : i < bN b) (ho : o < bN b) (q : Nat) (hq0 : q < bRc b) : ci_ l G y_B_isAlternate w_B_isAlternate { frames := 3, cells := 0, slots := 0, locals := 120 } [.ref x, .ref (aAd a i 0), .ref (aAd a o 0), .int (nI q)] f (fun r u => bz (AL b i o q) r ∧ u = f) := by
  intro sz
  refine h_ofW (cc := c_B_isAlternate) (maxL := 6) (ret := (some .boolean)) (by decide) rfl (Nat.le_of_ble_eq_true rfl) ?_
  intro p e s m below meth c ls C hin hsz hP hl
  obtain ⟨hx, hb, hml, hown, -, -, -, -⟩ := id C
  subst hsz
  have hA0 : ∀ q, s.heap.size ≤ q → hA f s.heap.size q := hA.new
  have hS : va_S (hA f s.heap.size) s.heap s.heap [] := va_S.rf
  replace hl : lv_has ls 6 [(0, .ref x), (1, .ref (aAd a i 0)), (2, .ref (aAd a o 0)), (3, .int (nI q))] := hl
  have hNN : bN b ≤ 40 := hk.2.2.2.2.1.1
  have hRC : bRc b ≤ 10 := hk.2.2.2.2.1.2.1
  have hHC : bHc b ≤ 40 := hk.2.2.2.2.1.2.2
  have hpi_ := hk.2.1 i hi
  have hDi_ := hk.2.2.2.2.2.1 i hi
  have hpo_ := hk.2.1 o ho
  have hDo_ := hk.2.2.2.2.2.1 o ho
  have loop : i ≠ o → ∀ (d j : Nat) (ls : Array Slot) (H : Heap) (locs : List Loc), 12 < j + d → j ≤ 12 → (∀ k, k < j → bAs b (q * 12 + k) = -1 ∨ mt (bD b i) (bD b o) k (bAs b (q * 12 + k))) → hH G (hA f s.heap.size) f H → va_S (hA f s.heap.size) s.heap H locs → lv_has ls 6 [(4, .int (nI j)), (0, .ref x), (1, .ref (aAd a i 0)), (2, .ref (aAd a o 0)), (3, .int (nI q))] → W p l e { frames := 3, cells := 0, slots := 0, locals := 120 } s m #[.ref x, .ref (aAd a i 0), .ref (aAd a o 0), .int (nI q)] below meth c H locs 0 0 (MQ below (va_Qi (fun r u => bz (AL b i o q) r ∧ u = f) (hB G (hA f s.heap.size)) (hA f s.heap.size)) #[.ref x, .ref (aAd a i 0), .ref (aAd a o 0), .int (nI q)] s 0 0 (hA f s.heap.size)) (F0 m 10 ls []) := by
    intro hne d
    induction d with
    | zero => intro j ls H locs h1 h2; exact absurd h1 (by omega)
    | succ d ih =>
      intro j ls H locs h1 h2 hall hP hS hl
      refine lv_iload hx hb d_B_isAlternate_10 (lv_at hl 0 rfl) ?_
      refine lv_bipush (v := 12) hx hb d_B_isAlternate_12 (by decide) ?_
      refine lv_icmp_ge (tgt := 57) hx hb d_B_isAlternate_14 (by decide) (fun c_14 => ?_) (fun c_14 => ?_)
      · have q_14 : j = 12 := by have := (nI_leI (a := 12) (by omega) (by omega)).mp c_14; omega
        refine lv_iconst (v := 1) hx hb d_B_isAlternate_57 (by decide) ?_
        exact g_zret C (by first | exact Or.inl rfl | exact Or.inr rfl) hP hS (⟨Or.inl ⟨⟨hne, fun k hk9 => hall k (by omega)⟩, rfl⟩, rfl⟩) (Nat.le_of_ble_eq_true rfl) (Nat.le_of_ble_eq_true rfl) d_B_isAlternate_58
      · have hj : j < 12 := Nat.lt_of_not_le (fun z9 => c_14 ((nI_leI (a := 12) (by omega) (by omega)).mpr z9))
        refine lv_aload_n hx hb d_B_isAlternate_17 rfl (lv_at hl 1 rfl) ?_
        refine g_get C i_B hP hk.1.1 rfl 3 (by decide) wd_34 rfl rfl d_B_isAlternate_18 ?_
        refine lv_iload_n hx hb d_B_isAlternate_21 rfl (lv_at hl 4 rfl) ?_
        refine lv_bipush (v := 12) hx hb d_B_isAlternate_22 (by decide) ?_
        refine lv_imul hx hb d_B_isAlternate_24 ?_
        refine g_eqi (y := nI (q * 12)) (pk_mul _ _) ?_
        refine lv_iload hx hb d_B_isAlternate_25 (lv_at hl 0 rfl) ?_
        refine lv_iadd hx hb d_B_isAlternate_27 ?_
        refine g_eqi (y := nI (q * 12 + j)) (nI_add _ _) ?_
        refine g_ialdN C hP hk.1.2.2.2.1 (j := (q * 12 + j)) (by omega) (by decide) d_B_isAlternate_28 ?_
        refine lv_istore (lv' := [(5, .int (bAs b (q * 12 + j))), (4, .int (nI j)), (0, .ref x), (1, .ref (aAd a i 0)), (2, .ref (aAd a o 0)), (3, .int (nI q))]) hx hb d_B_isAlternate_29 hl (by decide) rfl (fun ls hl => ?_)
        refine lv_iload hx hb d_B_isAlternate_31 (lv_at hl 0 rfl) ?_
        refine lv_iconst (v := (-1)) hx hb d_B_isAlternate_33 (by decide) ?_
        refine lv_icmp_eq (tgt := 51) hx hb d_B_isAlternate_34 (by decide) (fun c_34 => ?_) (fun c_34 => ?_)
        · have hm9 : bAs b (q * 12 + j) = -1 ∨ mt (bD b i) (bD b o) j (bAs b (q * 12 + j)) := Or.inl c_34
          refine lv_iinc (v := nI (j + 1)) (lv' := [(4, .int (nI (j + 1))), (5, .int (bAs b (q * 12 + j))), (0, .ref x), (1, .ref (aAd a i 0)), (2, .ref (aAd a o 0)), (3, .int (nI q))]) hx hb d_B_isAlternate_51 hl (k := 1) rfl (nI_1 j) (by decide) rfl (fun ls hl => ?_)
          refine lv_goto (tgt := 10) hx hb d_B_isAlternate_54 (by decide) ?_
          exact ih (j + 1) ls H locs (by omega) (by omega) (fun k hk9 => by rcases Nat.lt_succ_iff_lt_or_eq.mp hk9 with z9 | z9; exact hall k z9; rw [z9]; exact hm9) hP hS (lv_sub hl [0, 2, 3, 4, 5] rfl)
        · refine lv_aload_n hx hb d_B_isAlternate_37 rfl (lv_at hl 3 rfl) ?_
          refine lv_aload_n hx hb d_B_isAlternate_38 rfl (lv_at hl 4 rfl) ?_
          refine lv_iload hx hb d_B_isAlternate_39 (lv_at hl 1 rfl) ?_
          refine lv_iload hx hb d_B_isAlternate_41 (lv_at hl 0 rfl) ?_
          refine g_calli (g_runS C hl.1 (ct_B_meets f x a b hk i o hi ho j hj (bAs b (q * 12 + j)) _) (cx_S C 4 wd_315 wd_316 wd_1 wd_317 rfl rfl (by decide +kernel) ⟨Nat.le_of_ble_eq_true rfl, Nat.le_of_ble_eq_true rfl⟩) hP rfl rfl (Nat.le_of_ble_eq_true rfl) d_B_isAlternate_43 ⟨Nat.le_of_ble_eq_true rfl, Nat.le_of_ble_eq_true rfl⟩) hP hS hA0 (fun r2 f1 H locs hq hP hS => ?_)
          obtain ⟨hq, hu⟩ := hq
          rw [hu] at hP
          refine lv_if_ne (tgt := 51) hx hb d_B_isAlternate_46 (by decide) (fun c_46 => ?_) (fun c_46 => ?_)
          · have hm9 : bAs b (q * 12 + j) = -1 ∨ mt (bD b i) (bD b o) j (bAs b (q * 12 + j)) := Or.inr (bz_t hq c_46)
            refine lv_iinc (v := nI (j + 1)) (lv' := [(4, .int (nI (j + 1))), (5, .int (bAs b (q * 12 + j))), (0, .ref x), (1, .ref (aAd a i 0)), (2, .ref (aAd a o 0)), (3, .int (nI q))]) hx hb d_B_isAlternate_51 hl (k := 1) rfl (nI_1 j) (by decide) rfl (fun ls hl => ?_)
            refine lv_goto (tgt := 10) hx hb d_B_isAlternate_54 (by decide) ?_
            exact ih (j + 1) ls H locs (by omega) (by omega) (fun k hk9 => by rcases Nat.lt_succ_iff_lt_or_eq.mp hk9 with z9 | z9; exact hall k z9; rw [z9]; exact hm9) hP hS (lv_sub hl [0, 2, 3, 4, 5] rfl)
          · have hm9 : ¬ (bAs b (q * 12 + j) = -1 ∨ mt (bD b i) (bD b o) j (bAs b (q * 12 + j))) := fun z9 => z9.elim c_34 (bz_f hq c_46)
            refine lv_iconst (v := 0) hx hb d_B_isAlternate_49 (by decide) ?_
            exact g_zret C (by first | exact Or.inl rfl | exact Or.inr rfl) hP hS (⟨Or.inr ⟨fun z9 => hm9 (z9.2 j hj), rfl⟩, rfl⟩) (Nat.le_of_ble_eq_true rfl) (Nat.le_of_ble_eq_true rfl) d_B_isAlternate_50
  refine lv_aload_n hx hb d_B_isAlternate_0 rfl (lv_at hl 1 rfl) ?_
  refine lv_aload_n hx hb d_B_isAlternate_1 rfl (lv_at hl 2 rfl) ?_
  refine lv_acmp_ne (rx := (some (aAd a i 0))) (ry := (some (aAd a o 0))) (tgt := 7) hx hb d_B_isAlternate_2 (by decide) (fun c_2 => ?_) (fun c_2 => ?_)
  · have q_2 : i ≠ o := fun z9 => c_2 (by rw [z9])
    refine lv_iconst (v := 0) hx hb d_B_isAlternate_7 (by decide) ?_
    refine lv_istore (lv' := [(4, .int 0), (0, .ref x), (1, .ref (aAd a i 0)), (2, .ref (aAd a o 0)), (3, .int (nI q))]) hx hb d_B_isAlternate_8 hl (by decide) rfl (fun ls hl => ?_)
    exact loop q_2 13 0 ls s.heap [] (by omega) (by omega) (fun _ z9 => absurd z9 (by omega)) hP hS (lv_sub hl [0, 1, 2, 3, 4] rfl)
  · have q_2 : i = o := (hk.2.2.1 i 0 o 0 hi (by decide) ho (by decide) (Option.some.inj c_2)).1
    refine lv_iconst (v := 0) hx hb d_B_isAlternate_5 (by decide) ?_
    exact g_zret C (by first | exact Or.inl rfl | exact Or.inr rfl) hP hS (⟨Or.inr ⟨fun z9 => z9.1 q_2, rfl⟩, rfl⟩) (Nat.le_of_ble_eq_true rfl) (Nat.le_of_ble_eq_true rfl) d_B_isAlternate_6
set_option maxHeartbeats 4000000 in
set_option maxRecDepth 100000 in
theorem ct_B_standsBefore {l : Launch} {G : hG} (f : hm) (x : Nat) (a : AD) (b : BD) (hk : bk G f x a b) (i o : Nat) (hi : i < bN b) (ho : o < bN b) : ci_ l G y_B_standsBefore w_B_standsBefore { frames := 0, cells := 0, slots := 0, locals := 0 } [.ref x, .ref (aAd a i 0), .ref (aAd a o 0)] f (fun r u => bz (sb b i o) r ∧ u = f) := by
  intro sz
  refine h_ofW (cc := c_B_standsBefore) (maxL := 5) (ret := (some .boolean)) (by decide) rfl (Nat.le_of_ble_eq_true rfl) ?_
  intro p e s m below meth c ls C hin hsz hP hl
  obtain ⟨hx, hb, hml, hown, -, -, -, -⟩ := id C
  subst hsz
  have hA0 : ∀ q, s.heap.size ≤ q → hA f s.heap.size q := hA.new
  have hS : va_S (hA f s.heap.size) s.heap s.heap [] := va_S.rf
  replace hl : lv_has ls 5 [(0, .ref x), (1, .ref (aAd a i 0)), (2, .ref (aAd a o 0))] := hl
  have hNN : bN b ≤ 40 := hk.2.2.2.2.1.1
  have hRC : bRc b ≤ 10 := hk.2.2.2.2.1.2.1
  have hHC : bHc b ≤ 40 := hk.2.2.2.2.1.2.2
  have hpi_ := hk.2.1 i hi
  have hDi_ := hk.2.2.2.2.2.1 i hi
  have hpo_ := hk.2.1 o ho
  have hDo_ := hk.2.2.2.2.2.1 o ho
  have hpl1 := hk.2.2.2.2.2.2.1 _ hDi_.1.1
  have hpl2 := hk.2.2.2.2.2.2.1 _ hDo_.1.1
  refine lv_aload_n hx hb d_B_standsBefore_0 rfl (lv_at hl 0 rfl) ?_
  refine g_get C i_B hP hk.1.1 rfl 2 (by decide) wd_33 rfl rfl d_B_standsBefore_1 ?_
  refine lv_aload_n hx hb d_B_standsBefore_4 rfl (lv_at hl 1 rfl) ?_
  refine g_get C i_P hP hpi_.1.1 rfl 1 (by decide) wd_193 rfl rfl d_B_standsBefore_5 ?_
  refine g_ialdN C hP hk.1.2.2.1 (j := (pMk (bD b i))) (hDi_.1.1) (by decide) d_B_standsBefore_8 ?_
  refine g_eqi (y := nI (bPl b (pMk (bD b i)))) (rfl) ?_
  refine lv_istore_n (lv' := [(3, .int (nI (bPl b (pMk (bD b i))))), (0, .ref x), (1, .ref (aAd a i 0)), (2, .ref (aAd a o 0))]) hx hb d_B_standsBefore_9 rfl hl (by decide) rfl (fun ls hl => ?_)
  refine lv_aload_n hx hb d_B_standsBefore_10 rfl (lv_at hl 1 rfl) ?_
  refine g_get C i_B hP hk.1.1 rfl 2 (by decide) wd_33 rfl rfl d_B_standsBefore_11 ?_
  refine lv_aload_n hx hb d_B_standsBefore_14 rfl (lv_at hl 3 rfl) ?_
  refine g_get C i_P hP hpo_.1.1 rfl 1 (by decide) wd_193 rfl rfl d_B_standsBefore_15 ?_
  refine g_ialdN C hP hk.1.2.2.1 (j := (pMk (bD b o))) (hDo_.1.1) (by decide) d_B_standsBefore_18 ?_
  refine g_eqi (y := nI (bPl b (pMk (bD b o)))) (rfl) ?_
  refine lv_istore (lv' := [(4, .int (nI (bPl b (pMk (bD b o))))), (3, .int (nI (bPl b (pMk (bD b i))))), (0, .ref x), (1, .ref (aAd a i 0)), (2, .ref (aAd a o 0))]) hx hb d_B_standsBefore_19 hl (by decide) rfl (fun ls hl => ?_)
  refine lv_iload_n hx hb d_B_standsBefore_21 rfl (lv_at hl 1 rfl) ?_
  refine lv_iload hx hb d_B_standsBefore_22 (lv_at hl 0 rfl) ?_
  refine lv_icmp_eq (tgt := 41) hx hb d_B_standsBefore_24 (by decide) (fun c_24 => ?_) (fun c_24 => ?_)
  · have q_1 : bPl b (pMk (bD b i)) = bPl b (pMk (bD b o)) := (nI_eq (by omega) (by omega)).mp c_24
    refine lv_aload_n hx hb d_B_standsBefore_41 rfl (lv_at hl 3 rfl) ?_
    refine g_get C i_P hP hpi_.1.1 rfl 0 (by decide) wd_191 rfl rfl d_B_standsBefore_42 ?_
    refine lv_aload_n hx hb d_B_standsBefore_45 rfl (lv_at hl 4 rfl) ?_
    refine g_get C i_P hP hpo_.1.1 rfl 0 (by decide) wd_191 rfl rfl d_B_standsBefore_46 ?_
    refine lv_icmp_ge (tgt := 56) hx hb d_B_standsBefore_49 (by decide) (fun c_49 => ?_) (fun c_49 => ?_)
    · have q_2 : ¬ sb b i o := fun z9 => by have := (nI_leI (by omega) (by omega)).mp c_49; unfold sb at z9; omega
      refine lv_iconst (v := 0) hx hb d_B_standsBefore_56 (by decide) ?_
      exact g_zret C (by first | exact Or.inl rfl | exact Or.inr rfl) hP hS (⟨Or.inr ⟨q_2, rfl⟩, rfl⟩) (Nat.le_of_ble_eq_true rfl) (Nat.le_of_ble_eq_true rfl) d_B_standsBefore_57
    · have q_2 : sb b i o := Or.inr ⟨q_1, by have : ¬ o ≤ i := fun z9 => c_49 ((nI_leI (by omega) (by omega)).mpr z9); omega⟩
      refine lv_iconst (v := 1) hx hb d_B_standsBefore_52 (by decide) ?_
      refine lv_goto (tgt := 57) hx hb d_B_standsBefore_53 (by decide) ?_
      exact g_zret C (by first | exact Or.inl rfl | exact Or.inr rfl) hP hS (⟨Or.inl ⟨q_2, rfl⟩, rfl⟩) (Nat.le_of_ble_eq_true rfl) (Nat.le_of_ble_eq_true rfl) d_B_standsBefore_57
  · have q_1 : ¬ bPl b (pMk (bD b i)) = bPl b (pMk (bD b o)) := fun z9 => c_24 (by rw [z9])
    refine lv_iload_n hx hb d_B_standsBefore_27 rfl (lv_at hl 1 rfl) ?_
    refine lv_iload hx hb d_B_standsBefore_28 (lv_at hl 0 rfl) ?_
    refine lv_icmp_ge (tgt := 37) hx hb d_B_standsBefore_30 (by decide) (fun c_30 => ?_) (fun c_30 => ?_)
    · have q_2 : ¬ sb b i o := fun z9 => by have := (nI_leI (by omega) (by omega)).mp c_30; unfold sb at z9; omega
      refine lv_iconst (v := 0) hx hb d_B_standsBefore_37 (by decide) ?_
      refine lv_goto (tgt := 57) hx hb d_B_standsBefore_38 (by decide) ?_
      exact g_zret C (by first | exact Or.inl rfl | exact Or.inr rfl) hP hS (⟨Or.inr ⟨q_2, rfl⟩, rfl⟩) (Nat.le_of_ble_eq_true rfl) (Nat.le_of_ble_eq_true rfl) d_B_standsBefore_57
    · have q_2 : sb b i o := Or.inl (by have : ¬ bPl b (pMk (bD b o)) ≤ bPl b (pMk (bD b i)) := fun z9 => c_30 ((nI_leI (by omega) (by omega)).mpr z9); omega)
      refine lv_iconst (v := 1) hx hb d_B_standsBefore_33 (by decide) ?_
      refine lv_goto (tgt := 57) hx hb d_B_standsBefore_34 (by decide) ?_
      exact g_zret C (by first | exact Or.inl rfl | exact Or.inr rfl) hP hS (⟨Or.inl ⟨q_2, rfl⟩, rfl⟩) (Nat.le_of_ble_eq_true rfl) (Nat.le_of_ble_eq_true rfl) d_B_standsBefore_57
set_option maxHeartbeats 4000000 in
set_option maxRecDepth 100000 in
theorem ct_B_goesBefore {l : Launch} {G : hG} (f : hm) (x : Nat) (a : AD) (b : BD) (hk : bk G f x a b) (i o : Nat) (hi : i < bN b) (ho : o < bN b) (nm : Option Nat) (hnm : ∀ n, nm = some n → n < 12 ∧ pVb (bD b i) n ≠ 0 ∧ pVb (bD b o) n ≠ 0) : ci_ l G y_B_goesBefore w_B_goesBefore { frames := 2, cells := 0, slots := 0, locals := 80 } [.ref x, .ref (aAd a i 0), .ref (aAd a o 0), .int (nmv nm)] f (fun r u => bz (gb b nm i o) r ∧ u = f) := by
  intro sz
  refine h_ofW (cc := c_B_goesBefore) (maxL := 5) (ret := (some .boolean)) (by decide) rfl (Nat.le_of_ble_eq_true rfl) ?_
  intro p e s m below meth c ls C hin hsz hP hl
  obtain ⟨hx, hb, hml, hown, -, -, -, -⟩ := id C
  subst hsz
  have hA0 : ∀ q, s.heap.size ≤ q → hA f s.heap.size q := hA.new
  have hS : va_S (hA f s.heap.size) s.heap s.heap [] := va_S.rf
  replace hl : lv_has ls 5 [(0, .ref x), (1, .ref (aAd a i 0)), (2, .ref (aAd a o 0)), (3, .int (nmv nm))] := hl
  have hNN : bN b ≤ 40 := hk.2.2.2.2.1.1
  have hRC : bRc b ≤ 10 := hk.2.2.2.2.1.2.1
  have hHC : bHc b ≤ 40 := hk.2.2.2.2.1.2.2
  have hpi_ := hk.2.1 i hi
  have hDi_ := hk.2.2.2.2.2.1 i hi
  have hpo_ := hk.2.1 o ho
  have hDo_ := hk.2.2.2.2.2.1 o ho
  rcases nm with _ | n
  · refine lv_iload_n hx hb d_B_goesBefore_0 rfl (lv_at hl 3 rfl) ?_
    refine lv_iconst (v := (-1)) hx hb d_B_goesBefore_1 (by decide) ?_
    refine lv_icmp_eq (tgt := 40) hx hb d_B_goesBefore_2 (by decide) (fun c_2 => ?_) (fun c_2 => ?_)
    · refine lv_aload_n hx hb d_B_goesBefore_40 rfl (lv_at hl 0 rfl) ?_
      refine lv_aload_n hx hb d_B_goesBefore_41 rfl (lv_at hl 1 rfl) ?_
      refine lv_aload_n hx hb d_B_goesBefore_42 rfl (lv_at hl 2 rfl) ?_
      refine g_calli (g_runV C hl.1 (ct_B_standsBefore f x a b hk i o hi ho _) (cx_V C 2 wd_333 wd_335 wp_5 wd_1 wd_336 rfl rfl (by decide +kernel) ⟨Nat.le_of_ble_eq_true rfl, Nat.le_of_ble_eq_true rfl⟩) hP hk.1.1 rfl rfl rfl (Nat.le_of_ble_eq_true rfl) d_B_goesBefore_43 ⟨Nat.le_of_ble_eq_true rfl, Nat.le_of_ble_eq_true rfl⟩) hP hS hA0 (fun r2 f1 H locs hq hP hS => ?_)
      obtain ⟨hq, hu⟩ := hq
      rw [hu] at hP
      exact g_zret C (bz_01 hq) hP hS (⟨hq, rfl⟩) (Nat.le_of_ble_eq_true rfl) (Nat.le_of_ble_eq_true rfl) d_B_goesBefore_46
    · exact absurd rfl c_2
  · obtain ⟨hn, hn2, hn3⟩ := hnm n rfl
    refine lv_iload_n hx hb d_B_goesBefore_0 rfl (lv_at hl 3 rfl) ?_
    refine lv_iconst (v := (-1)) hx hb d_B_goesBefore_1 (by decide) ?_
    refine lv_icmp_eq (tgt := 40) hx hb d_B_goesBefore_2 (by decide) (fun c_2 => ?_) (fun c_2 => ?_)
    · exact absurd c_2 (nI_nm1 (by omega))
    · refine lv_aload_n hx hb d_B_goesBefore_5 rfl (lv_at hl 1 rfl) ?_
      refine lv_iload_n hx hb d_B_goesBefore_6 rfl (lv_at hl 3 rfl) ?_
      refine lv_aload_n hx hb d_B_goesBefore_7 rfl (lv_at hl 2 rfl) ?_
      refine g_get C i_P hP hpo_.1.1 rfl 3 (by decide) wd_197 rfl rfl d_B_goesBefore_8 ?_
      refine lv_iload_n hx hb d_B_goesBefore_11 rfl (lv_at hl 3 rfl) ?_
      refine g_laldN C hP hpo_.1.2.1 (j := n) (by omega) (by decide) d_B_goesBefore_12 ?_
      refine lv_aload_n hx hb d_B_goesBefore_13 rfl (lv_at hl 2 rfl) ?_
      refine g_get C i_P hP hpo_.1.1 rfl 4 (by decide) wd_199 rfl rfl d_B_goesBefore_14 ?_
      refine lv_iload_n hx hb d_B_goesBefore_17 rfl (lv_at hl 3 rfl) ?_
      refine g_laldN C hP hpo_.1.2.2.1 (j := n) (by omega) (by decide) d_B_goesBefore_18 ?_
      refine g_calli (g_runV C hl.1 (ct_P_against f _ _ _ _ _ _ _ _ _ hpi_.1.1 _ _ hpi_.1.2.1 hpi_.1.2.2.1 n hn (pVa (bD b i) n) (pVb (bD b i) n) (pVa (bD b o) n) (pVb (bD b o) n) (hDi_.2.1 n).1 (Nat.pos_of_ne_zero hn2) (hDi_.2.1 n).2 (hDo_.2.1 n).1 (Nat.pos_of_ne_zero hn3) (Nat.lt_trans (hDo_.2.1 n).2 (by decide)) rfl rfl _) (cx_V C 3 wd_318 wd_319 wd_320 wd_8 wd_321 rfl rfl (by decide +kernel) ⟨Nat.le_of_ble_eq_true rfl, Nat.le_of_ble_eq_true rfl⟩) hP hpi_.1.1 rfl rfl rfl (Nat.le_of_ble_eq_true rfl) d_B_goesBefore_19 ⟨Nat.le_of_ble_eq_true rfl, Nat.le_of_ble_eq_true rfl⟩) hP hS hA0 (fun r2 f1 H locs hq hP hS => ?_)
      obtain ⟨rfl, hu⟩ := hq
      rw [hu] at hP
      refine lv_istore (lv' := [(4, .int (cq_i (vc (bD b i) (bD b o) n))), (0, .ref x), (1, .ref (aAd a i 0)), (2, .ref (aAd a o 0)), (3, .int (nI n))]) hx hb d_B_goesBefore_22 hl (by decide) rfl (fun ls hl => ?_)
      refine lv_iload hx hb d_B_goesBefore_24 (lv_at hl 0 rfl) ?_
      refine lv_if_eq (tgt := 40) hx hb d_B_goesBefore_26 (by decide) (fun c_26 => ?_) (fun c_26 => ?_)
      · have q_3 := c_26
        refine lv_aload_n hx hb d_B_goesBefore_40 rfl (lv_at hl 1 rfl) ?_
        refine lv_aload_n hx hb d_B_goesBefore_41 rfl (lv_at hl 2 rfl) ?_
        refine lv_aload_n hx hb d_B_goesBefore_42 rfl (lv_at hl 3 rfl) ?_
        refine g_calli (g_runV C hl.1 (ct_B_standsBefore f x a b hk i o hi ho _) (cx_V C 2 wd_333 wd_335 wp_5 wd_1 wd_336 rfl rfl (by decide +kernel) ⟨Nat.le_of_ble_eq_true rfl, Nat.le_of_ble_eq_true rfl⟩) hP hk.1.1 rfl rfl rfl (Nat.le_of_ble_eq_true rfl) d_B_goesBefore_43 ⟨Nat.le_of_ble_eq_true rfl, Nat.le_of_ble_eq_true rfl⟩) hP hS hA0 (fun r4 f3 H locs hq hP hS => ?_)
        obtain ⟨hq, hu⟩ := hq
        rw [hu] at hP
        exact g_zret C (bz_01 hq) hP hS (⟨hq.elim (fun z => Or.inl ⟨Or.inr ⟨q_3, z.1⟩, z.2⟩) (fun z => Or.inr ⟨fun z9 => z9.elim (fun z8 => by rw [q_3] at z8; exact absurd z8 (by decide)) (fun z8 => z.1 z8.2), z.2⟩), rfl⟩) (Nat.le_of_ble_eq_true rfl) (Nat.le_of_ble_eq_true rfl) d_B_goesBefore_46
      · have q_3 := c_26
        refine lv_iload hx hb d_B_goesBefore_29 (lv_at hl 0 rfl) ?_
        refine lv_if_ge (tgt := 38) hx hb d_B_goesBefore_31 (by decide) (fun c_31 => ?_) (fun c_31 => ?_)
        · refine lv_iconst (v := 0) hx hb d_B_goesBefore_38 (by decide) ?_
          exact g_zret C (by first | exact Or.inl rfl | exact Or.inr rfl) hP hS (⟨Or.inr ⟨fun z9 => z9.elim (fun z8 => Int32.not_lt.mpr c_31 z8) (fun z8 => q_3 z8.1), rfl⟩, rfl⟩) (Nat.le_of_ble_eq_true rfl) (Nat.le_of_ble_eq_true rfl) d_B_goesBefore_39
        · refine lv_iconst (v := 1) hx hb d_B_goesBefore_34 (by decide) ?_
          refine lv_goto (tgt := 39) hx hb d_B_goesBefore_35 (by decide) ?_
          exact g_zret C (by first | exact Or.inl rfl | exact Or.inr rfl) hP hS (⟨Or.inl ⟨Or.inl (Int32.not_le.mp c_31), rfl⟩, rfl⟩) (Nat.le_of_ble_eq_true rfl) (Nat.le_of_ble_eq_true rfl) d_B_goesBefore_39
set_option maxHeartbeats 4000000 in
set_option maxRecDepth 100000 in
theorem ct_B_addHit {l : Launch} {G : hG} (f : hm) (x : Nat) (a : AD) (b : BD) (hk : bk G f x a b) (i : Nat) (hi : i < bN b) (nm : Option Nat) (h40 : bHc b < 40) (hnm : ∀ n, nm = some n → n < 12 ∧ pVb (bD b i) n ≠ 0 ∧ ∀ k, k < bHc b → pVb (bD b (bHi b k)) n ≠ 0) : cv_ l G y_B_addHit w_B_addHit { frames := 3, cells := 0, slots := 0, locals := 120 } [.ref x, .ref (aAd a i 0), .int (nmv nm)] f (fun u => bk G u x a (bHiS b (bHc b + 1) (iN (gb b nm i) i (bHc b) (bHi b)))) := by
  intro sz
  refine h_ofW (cc := c_B_addHit) (maxL := 4) (ret := none) (by decide) rfl (Nat.le_of_ble_eq_true rfl) ?_
  intro p e s m below meth c ls C hin hsz hP hl
  obtain ⟨hx, hb, hml, hown, -, -, -, -⟩ := id C
  subst hsz
  have hA0 : ∀ q, s.heap.size ≤ q → hA f s.heap.size q := hA.new
  have hS : va_S (hA f s.heap.size) s.heap s.heap [] := va_S.rf
  replace hl : lv_has ls 4 [(0, .ref x), (1, .ref (aAd a i 0)), (2, .int (nmv nm))] := hl
  have hNN : bN b ≤ 40 := hk.2.2.2.2.1.1
  have hRC : bRc b ≤ 10 := hk.2.2.2.2.1.2.1
  have hHC : bHc b ≤ 40 := hk.2.2.2.2.1.2.2
  have hpi_ := hk.2.1 i hi
  have hDi_ := hk.2.2.2.2.2.1 i hi
  have loop : ∀ (d t : Nat) (h : Nat → Nat) (fi : hm) (ls : Array Slot) (H : Heap) (locs : List Loc), t < d → t ≤ bHc b → bk G fi x a (bHiS b (bHc b) h) → (∀ k, k < bHc b → h k < bN b ∧ ∀ n, nm = some n → pVb (bD b (h k)) n ≠ 0) → iN (gb b nm i) i t h = iN (gb b nm i) i (bHc b) (bHi b) → hH G (hA f s.heap.size) fi H → va_S (hA f s.heap.size) s.heap H locs → lv_has ls 4 [(3, .int (nI t)), (0, .ref x), (1, .ref (aAd a i 0)), (2, .int (nmv nm))] → W p l e { frames := 3, cells := 0, slots := 0, locals := 120 } s m #[.ref x, .ref (aAd a i 0), .int (nmv nm)] below meth c H locs 0 0 (MQ below (va_Qv (fun u => bk G u x a (bHiS b (bHc b + 1) (iN (gb b nm i) i (bHc b) (bHi b)))) (hB G (hA f s.heap.size)) (hA f s.heap.size)) #[.ref x, .ref (aAd a i 0), .int (nmv nm)] s 0 0 (hA f s.heap.size)) (F0 m 15 ls []) := by
    intro d
    induction d with
    | zero => intro t h fi ls H locs h1; exact absurd h1 (by omega)
    | succ d ih =>
      intro t h fi ls H locs h1 h2 hkF hmem hiN hP hS hl
      have hpF := hkF.2.1 i hi
      refine lv_iload_n hx hb d_B_addHit_15 rfl (lv_at hl 0 rfl) ?_
      refine lv_if_le (tgt := 61) hx hb d_B_addHit_16 (by decide) (fun c_16 => ?_) (fun c_16 => ?_)
      · have hend : iN (gb b nm i) i t h = va_up h t i := by have : t = 0 := Nat.eq_zero_of_not_pos (fun z9 => nI_nle z9 (by omega) c_16); rw [this]; rfl
        refine lv_aload_n hx hb d_B_addHit_61 rfl (lv_at hl 1 rfl) ?_
        refine g_get C i_B hP hkF.1.1 rfl 6 (by decide) wd_37 rfl rfl d_B_addHit_62 ?_
        refine lv_iload_n hx hb d_B_addHit_65 rfl (lv_at hl 0 rfl) ?_
        refine lv_aload_n hx hb d_B_addHit_66 rfl (lv_at hl 2 rfl) ?_
        refine g_get C i_P hP hpF.1.1 rfl 0 (by decide) wd_191 rfl rfl d_B_addHit_67 ?_
        refine g_iastN C hP hS hkF.1.2.2.2.2.2 (j := t) (by omega) (by decide) d_B_addHit_70 (fun H locs hP hS => ?_)
        obtain ⟨g2, eg2⟩ : ∃ z99, z99 = upd (fun k => nI (h k)) t (nI i) := ⟨_, rfl⟩
        rw [← eg2] at hP
        obtain ⟨f1, ef1⟩ : ∃ z99, z99 = va_up fi (aHi a) (some (aI G 40 g2)) := ⟨_, rfl⟩
        replace hP : hH G (hA f s.heap.size) f1 H := by rw [ef1]; exact hP
        have hkF11_f1 := (hm_up (v := some (aI G 40 g2)) ef1 (hm_ne hkF.1.1 hkF.1.2.2.2.2.2 (by simp))).trans hkF.1.1
        have hpF11_f1 := (hm_up (v := some (aI G 40 g2)) ef1 (hm_ne hpF.1.1 hkF.1.2.2.2.2.2 (by simp))).trans hpF.1.1
        have hkF121_f1 := (hm_up (v := some (aI G 40 g2)) ef1 (hm_ne hkF.1.2.1 hkF.1.2.2.2.2.2 (by simp))).trans hkF.1.2.1
        have hkF1221_f1 := (hm_up (v := some (aI G 40 g2)) ef1 (hm_ne hkF.1.2.2.1 hkF.1.2.2.2.2.2 (by simp))).trans hkF.1.2.2.1
        have hkF12221_f1 := (hm_up (v := some (aI G 40 g2)) ef1 (hm_ne hkF.1.2.2.2.1 hkF.1.2.2.2.2.2 (by simp))).trans hkF.1.2.2.2.1
        have hkF122221_f1 := (hm_up (v := some (aI G 40 g2)) ef1 (hm_ne hkF.1.2.2.2.2.1 hkF.1.2.2.2.2.2 (by simp))).trans hkF.1.2.2.2.2.1
        have hkF122222_f1 : f1 (aHi a) = some (aI G 40 g2) := by rw [ef1]; exact va_up_self _ _ _
        refine lv_aload_n hx hb d_B_addHit_71 rfl (lv_at hl 1 rfl) ?_
        refine lv_dup hx hb d_B_addHit_72 rfl ?_
        refine g_get C i_B hP hkF11_f1 rfl 7 (by decide) wd_38 rfl rfl d_B_addHit_73 ?_
        refine lv_iconst (v := 1) hx hb d_B_addHit_76 (by decide) ?_
        refine lv_iadd hx hb d_B_addHit_77 ?_
        refine g_eqi (y := nI (bHc b + 1)) (nI_1 _) ?_
        refine g_put C i_B t_B t_B_ok n_B hP hS hkF11_f1 rfl 7 (by decide) wd_38 rfl rfl rfl (rfl) (Nat.le_of_ble_eq_true rfl) d_B_addHit_78 (fun H locs hP hS => ?_)
        obtain ⟨f3, ef3⟩ : ∃ z99, z99 = va_up f1 x (some (ob 3 [.ref (aPa a), .int (nI (bN b)), .ref (aPl a), .ref (aAs a), .int (nI (bRc b)), .ref (aRa a), .ref (aHi a), .int (nI (bHc b + 1))])) := ⟨_, rfl⟩
        replace hP : hH G (hA f s.heap.size) f3 H := by rw [ef3]; exact hP
        have hkF11_f3 : f3 x = some (ob 3 [.ref (aPa a), .int (nI (bN b)), .ref (aPl a), .ref (aAs a), .int (nI (bRc b)), .ref (aRa a), .ref (aHi a), .int (nI (bHc b + 1))]) := by rw [ef3]; exact va_up_self _ _ _
        have hpF11_f3 := (hm_up (v := some (ob 3 [.ref (aPa a), .int (nI (bN b)), .ref (aPl a), .ref (aAs a), .int (nI (bRc b)), .ref (aRa a), .ref (aHi a), .int (nI (bHc b + 1))])) ef3 (hm_ne hpF11_f1 hkF11_f1 (by simp))).trans hpF11_f1
        have hkF121_f3 := (hm_up (v := some (ob 3 [.ref (aPa a), .int (nI (bN b)), .ref (aPl a), .ref (aAs a), .int (nI (bRc b)), .ref (aRa a), .ref (aHi a), .int (nI (bHc b + 1))])) ef3 (hm_ne hkF121_f1 hkF11_f1 (by simp))).trans hkF121_f1
        have hkF1221_f3 := (hm_up (v := some (ob 3 [.ref (aPa a), .int (nI (bN b)), .ref (aPl a), .ref (aAs a), .int (nI (bRc b)), .ref (aRa a), .ref (aHi a), .int (nI (bHc b + 1))])) ef3 (hm_ne hkF1221_f1 hkF11_f1 (by simp))).trans hkF1221_f1
        have hkF12221_f3 := (hm_up (v := some (ob 3 [.ref (aPa a), .int (nI (bN b)), .ref (aPl a), .ref (aAs a), .int (nI (bRc b)), .ref (aRa a), .ref (aHi a), .int (nI (bHc b + 1))])) ef3 (hm_ne hkF12221_f1 hkF11_f1 (by simp))).trans hkF12221_f1
        have hkF122221_f3 := (hm_up (v := some (ob 3 [.ref (aPa a), .int (nI (bN b)), .ref (aPl a), .ref (aAs a), .int (nI (bRc b)), .ref (aRa a), .ref (aHi a), .int (nI (bHc b + 1))])) ef3 (hm_ne hkF122221_f1 hkF11_f1 (by simp))).trans hkF122221_f1
        have hkF122222_f3 := (hm_up (v := some (ob 3 [.ref (aPa a), .int (nI (bN b)), .ref (aPl a), .ref (aAs a), .int (nI (bRc b)), .ref (aRa a), .ref (aHi a), .int (nI (bHc b + 1))])) ef3 (hm_ne hkF122222_f1 hkF11_f1 (by simp))).trans hkF122222_f1
        rw [upd_nI] at eg2
        subst eg2
        have hiN2 : va_up h t i = iN (gb b nm i) i (bHc b) (bHi b) := hend.symm.trans hiN
        have hkN : bk G f3 x a (bHiS b (bHc b + 1) (va_up h t i)) := bk_six hkF (by rw [ef3]; refine hE.up ?_ (by simp); rw [ef1]; refine hE.up ?_ (by simp); exact hE.rf) ⟨hkF11_f3, hkF121_f3, hkF1221_f3, hkF12221_f3, hkF122221_f3, hkF122222_f3⟩ rfl rfl ⟨⟨hNN, hRC, h40⟩, hkF.2.2.2.2.2.1, hkF.2.2.2.2.2.2.1, hkF.2.2.2.2.2.2.2.1, hkF.2.2.2.2.2.2.2.2.1, fun k hk9 => by show va_up h t i k < bN b; rw [hiN2]; exact iN_mem (R := fun z => z < bN b) hi (fun k hk8 => hk.2.2.2.2.2.2.2.2.2 k hk8) k hk9⟩
        exact g_vret C hP hS (by rw [hiN2] at hkN; exact hkN) (Nat.le_of_ble_eq_true rfl) (Nat.le_of_ble_eq_true rfl) d_B_addHit_81
      · obtain ⟨t1, rfl⟩ : ∃ t1, t = t1 + 1 := ⟨t - 1, by have : t ≠ 0 := fun z9 => c_16 (by rw [z9]; decide); omega⟩
        have hm1 := hmem t1 (by omega)
        have hm40 : h t1 < 40 := Nat.lt_of_lt_of_le hm1.1 hNN
        refine lv_aload_n hx hb d_B_addHit_19 rfl (lv_at hl 1 rfl) ?_
        refine lv_aload_n hx hb d_B_addHit_20 rfl (lv_at hl 2 rfl) ?_
        refine lv_aload_n hx hb d_B_addHit_21 rfl (lv_at hl 1 rfl) ?_
        refine g_get C i_B hP hkF.1.1 rfl 0 (by decide) wd_31 rfl rfl d_B_addHit_22 ?_
        refine lv_aload_n hx hb d_B_addHit_25 rfl (lv_at hl 1 rfl) ?_
        refine g_get C i_B hP hkF.1.1 rfl 6 (by decide) wd_37 rfl rfl d_B_addHit_26 ?_
        refine lv_iload_n hx hb d_B_addHit_29 rfl (lv_at hl 0 rfl) ?_
        refine lv_iconst (v := 1) hx hb d_B_addHit_30 (by decide) ?_
        refine lv_isub hx hb d_B_addHit_31 ?_
        refine g_eqi (y := nI t1) (nI_pred _) ?_
        refine g_ialdN C hP hkF.1.2.2.2.2.2 (j := t1) (by omega) (by decide) d_B_addHit_32 ?_
        refine g_eqi (y := nI (h t1)) (rfl) ?_
        refine g_aaldN C hP hkF.1.2.1 (j := (h t1)) (hm40) (by decide) d_B_addHit_33 ?_
        refine g_eqq (y := aAd a (h t1) 0) (if_pos hm1.1) ?_
        refine lv_iload_n hx hb d_B_addHit_34 rfl (lv_at hl 3 rfl) ?_
        refine g_calli (g_runV C hl.1 (ct_B_goesBefore fi x a (bHiS b (bHc b) h) hkF i (h t1) hi hm1.1 nm (fun n hn => ⟨(hnm n hn).1, (hnm n hn).2.1, hm1.2 n hn⟩) _) (cx_V C 3 wd_329 wd_331 wp_4 wd_1 wd_332 rfl rfl (by decide +kernel) ⟨Nat.le_of_ble_eq_true rfl, Nat.le_of_ble_eq_true rfl⟩) hP hkF.1.1 rfl rfl rfl (Nat.le_of_ble_eq_true rfl) d_B_addHit_35 ⟨Nat.le_of_ble_eq_true rfl, Nat.le_of_ble_eq_true rfl⟩) hP hS hA0 (fun r5 f4 H locs hq hP hS => ?_)
        obtain ⟨hq, hu⟩ := hq
        rw [hu] at hP
        refine lv_if_eq (tgt := 61) hx hb d_B_addHit_38 (by decide) (fun c_38 => ?_) (fun c_38 => ?_)
        · have hend : iN (gb b nm i) i (t1 + 1) h = va_up h (t1 + 1) i := iN_f (bz_f hq c_38)
          obtain ⟨t, ht9⟩ : ∃ t, t = t1 + 1 := ⟨_, rfl⟩
          rw [← ht9] at hend hl hiN h2
          refine lv_aload_n hx hb d_B_addHit_61 rfl (lv_at hl 1 rfl) ?_
          refine g_get C i_B hP hkF.1.1 rfl 6 (by decide) wd_37 rfl rfl d_B_addHit_62 ?_
          refine lv_iload_n hx hb d_B_addHit_65 rfl (lv_at hl 0 rfl) ?_
          refine lv_aload_n hx hb d_B_addHit_66 rfl (lv_at hl 2 rfl) ?_
          refine g_get C i_P hP hpF.1.1 rfl 0 (by decide) wd_191 rfl rfl d_B_addHit_67 ?_
          refine g_iastN C hP hS hkF.1.2.2.2.2.2 (j := t) (by omega) (by decide) d_B_addHit_70 (fun H locs hP hS => ?_)
          obtain ⟨g7, eg7⟩ : ∃ z99, z99 = upd (fun k => nI (h k)) t (nI i) := ⟨_, rfl⟩
          rw [← eg7] at hP
          obtain ⟨f6, ef6⟩ : ∃ z99, z99 = va_up fi (aHi a) (some (aI G 40 g7)) := ⟨_, rfl⟩
          replace hP : hH G (hA f s.heap.size) f6 H := by rw [ef6]; exact hP
          have hkF11_f6 := (hm_up (v := some (aI G 40 g7)) ef6 (hm_ne hkF.1.1 hkF.1.2.2.2.2.2 (by simp))).trans hkF.1.1
          have hpF11_f6 := (hm_up (v := some (aI G 40 g7)) ef6 (hm_ne hpF.1.1 hkF.1.2.2.2.2.2 (by simp))).trans hpF.1.1
          have hkF121_f6 := (hm_up (v := some (aI G 40 g7)) ef6 (hm_ne hkF.1.2.1 hkF.1.2.2.2.2.2 (by simp))).trans hkF.1.2.1
          have hkF1221_f6 := (hm_up (v := some (aI G 40 g7)) ef6 (hm_ne hkF.1.2.2.1 hkF.1.2.2.2.2.2 (by simp))).trans hkF.1.2.2.1
          have hkF12221_f6 := (hm_up (v := some (aI G 40 g7)) ef6 (hm_ne hkF.1.2.2.2.1 hkF.1.2.2.2.2.2 (by simp))).trans hkF.1.2.2.2.1
          have hkF122221_f6 := (hm_up (v := some (aI G 40 g7)) ef6 (hm_ne hkF.1.2.2.2.2.1 hkF.1.2.2.2.2.2 (by simp))).trans hkF.1.2.2.2.2.1
          have hkF122222_f6 : f6 (aHi a) = some (aI G 40 g7) := by rw [ef6]; exact va_up_self _ _ _
          refine lv_aload_n hx hb d_B_addHit_71 rfl (lv_at hl 1 rfl) ?_
          refine lv_dup hx hb d_B_addHit_72 rfl ?_
          refine g_get C i_B hP hkF11_f6 rfl 7 (by decide) wd_38 rfl rfl d_B_addHit_73 ?_
          refine lv_iconst (v := 1) hx hb d_B_addHit_76 (by decide) ?_
          refine lv_iadd hx hb d_B_addHit_77 ?_
          refine g_eqi (y := nI (bHc b + 1)) (nI_1 _) ?_
          refine g_put C i_B t_B t_B_ok n_B hP hS hkF11_f6 rfl 7 (by decide) wd_38 rfl rfl rfl (rfl) (Nat.le_of_ble_eq_true rfl) d_B_addHit_78 (fun H locs hP hS => ?_)
          obtain ⟨f8, ef8⟩ : ∃ z99, z99 = va_up f6 x (some (ob 3 [.ref (aPa a), .int (nI (bN b)), .ref (aPl a), .ref (aAs a), .int (nI (bRc b)), .ref (aRa a), .ref (aHi a), .int (nI (bHc b + 1))])) := ⟨_, rfl⟩
          replace hP : hH G (hA f s.heap.size) f8 H := by rw [ef8]; exact hP
          have hkF11_f8 : f8 x = some (ob 3 [.ref (aPa a), .int (nI (bN b)), .ref (aPl a), .ref (aAs a), .int (nI (bRc b)), .ref (aRa a), .ref (aHi a), .int (nI (bHc b + 1))]) := by rw [ef8]; exact va_up_self _ _ _
          have hpF11_f8 := (hm_up (v := some (ob 3 [.ref (aPa a), .int (nI (bN b)), .ref (aPl a), .ref (aAs a), .int (nI (bRc b)), .ref (aRa a), .ref (aHi a), .int (nI (bHc b + 1))])) ef8 (hm_ne hpF11_f6 hkF11_f6 (by simp))).trans hpF11_f6
          have hkF121_f8 := (hm_up (v := some (ob 3 [.ref (aPa a), .int (nI (bN b)), .ref (aPl a), .ref (aAs a), .int (nI (bRc b)), .ref (aRa a), .ref (aHi a), .int (nI (bHc b + 1))])) ef8 (hm_ne hkF121_f6 hkF11_f6 (by simp))).trans hkF121_f6
          have hkF1221_f8 := (hm_up (v := some (ob 3 [.ref (aPa a), .int (nI (bN b)), .ref (aPl a), .ref (aAs a), .int (nI (bRc b)), .ref (aRa a), .ref (aHi a), .int (nI (bHc b + 1))])) ef8 (hm_ne hkF1221_f6 hkF11_f6 (by simp))).trans hkF1221_f6
          have hkF12221_f8 := (hm_up (v := some (ob 3 [.ref (aPa a), .int (nI (bN b)), .ref (aPl a), .ref (aAs a), .int (nI (bRc b)), .ref (aRa a), .ref (aHi a), .int (nI (bHc b + 1))])) ef8 (hm_ne hkF12221_f6 hkF11_f6 (by simp))).trans hkF12221_f6
          have hkF122221_f8 := (hm_up (v := some (ob 3 [.ref (aPa a), .int (nI (bN b)), .ref (aPl a), .ref (aAs a), .int (nI (bRc b)), .ref (aRa a), .ref (aHi a), .int (nI (bHc b + 1))])) ef8 (hm_ne hkF122221_f6 hkF11_f6 (by simp))).trans hkF122221_f6
          have hkF122222_f8 := (hm_up (v := some (ob 3 [.ref (aPa a), .int (nI (bN b)), .ref (aPl a), .ref (aAs a), .int (nI (bRc b)), .ref (aRa a), .ref (aHi a), .int (nI (bHc b + 1))])) ef8 (hm_ne hkF122222_f6 hkF11_f6 (by simp))).trans hkF122222_f6
          rw [upd_nI] at eg7
          subst eg7
          have hiN2 : va_up h t i = iN (gb b nm i) i (bHc b) (bHi b) := hend.symm.trans hiN
          have hkN : bk G f8 x a (bHiS b (bHc b + 1) (va_up h t i)) := bk_six hkF (by rw [ef8]; refine hE.up ?_ (by simp); rw [ef6]; refine hE.up ?_ (by simp); exact hE.rf) ⟨hkF11_f8, hkF121_f8, hkF1221_f8, hkF12221_f8, hkF122221_f8, hkF122222_f8⟩ rfl rfl ⟨⟨hNN, hRC, h40⟩, hkF.2.2.2.2.2.1, hkF.2.2.2.2.2.2.1, hkF.2.2.2.2.2.2.2.1, hkF.2.2.2.2.2.2.2.2.1, fun k hk9 => by show va_up h t i k < bN b; rw [hiN2]; exact iN_mem (R := fun z => z < bN b) hi (fun k hk8 => hk.2.2.2.2.2.2.2.2.2 k hk8) k hk9⟩
          exact g_vret C hP hS (by rw [hiN2] at hkN; exact hkN) (Nat.le_of_ble_eq_true rfl) (Nat.le_of_ble_eq_true rfl) d_B_addHit_81
        · refine lv_aload_n hx hb d_B_addHit_41 rfl (lv_at hl 1 rfl) ?_
          refine g_get C i_B hP hkF.1.1 rfl 6 (by decide) wd_37 rfl rfl d_B_addHit_42 ?_
          refine lv_iload_n hx hb d_B_addHit_45 rfl (lv_at hl 0 rfl) ?_
          refine lv_aload_n hx hb d_B_addHit_46 rfl (lv_at hl 1 rfl) ?_
          refine g_get C i_B hP hkF.1.1 rfl 6 (by decide) wd_37 rfl rfl d_B_addHit_47 ?_
          refine lv_iload_n hx hb d_B_addHit_50 rfl (lv_at hl 0 rfl) ?_
          refine lv_iconst (v := 1) hx hb d_B_addHit_51 (by decide) ?_
          refine lv_isub hx hb d_B_addHit_52 ?_
          refine g_eqi (y := nI t1) (nI_pred _) ?_
          refine g_ialdN C hP hkF.1.2.2.2.2.2 (j := t1) (by omega) (by decide) d_B_addHit_53 ?_
          refine g_eqi (y := nI (h t1)) (rfl) ?_
          refine g_iastN C hP hS hkF.1.2.2.2.2.2 (j := (t1 + 1)) (by omega) (by decide) d_B_addHit_54 (fun H locs hP hS => ?_)
          obtain ⟨g10, eg10⟩ : ∃ z99, z99 = upd (fun k => nI (h k)) (t1 + 1) (nI (h t1)) := ⟨_, rfl⟩
          rw [← eg10] at hP
          obtain ⟨f9, ef9⟩ : ∃ z99, z99 = va_up fi (aHi a) (some (aI G 40 g10)) := ⟨_, rfl⟩
          replace hP : hH G (hA f s.heap.size) f9 H := by rw [ef9]; exact hP
          have hkF11_f9 := (hm_up (v := some (aI G 40 g10)) ef9 (hm_ne hkF.1.1 hkF.1.2.2.2.2.2 (by simp))).trans hkF.1.1
          have hpF11_f9 := (hm_up (v := some (aI G 40 g10)) ef9 (hm_ne hpF.1.1 hkF.1.2.2.2.2.2 (by simp))).trans hpF.1.1
          have hkF121_f9 := (hm_up (v := some (aI G 40 g10)) ef9 (hm_ne hkF.1.2.1 hkF.1.2.2.2.2.2 (by simp))).trans hkF.1.2.1
          have hkF1221_f9 := (hm_up (v := some (aI G 40 g10)) ef9 (hm_ne hkF.1.2.2.1 hkF.1.2.2.2.2.2 (by simp))).trans hkF.1.2.2.1
          have hkF12221_f9 := (hm_up (v := some (aI G 40 g10)) ef9 (hm_ne hkF.1.2.2.2.1 hkF.1.2.2.2.2.2 (by simp))).trans hkF.1.2.2.2.1
          have hkF122221_f9 := (hm_up (v := some (aI G 40 g10)) ef9 (hm_ne hkF.1.2.2.2.2.1 hkF.1.2.2.2.2.2 (by simp))).trans hkF.1.2.2.2.2.1
          have hkF122222_f9 : f9 (aHi a) = some (aI G 40 g10) := by rw [ef9]; exact va_up_self _ _ _
          refine lv_iinc (v := nI t1) (lv' := [(3, .int (nI t1)), (0, .ref x), (1, .ref (aAd a i 0)), (2, .int (nmv nm))]) hx hb d_B_addHit_55 hl (k := 0) rfl (pk_m1 _) (by decide) rfl (fun ls hl => ?_)
          refine lv_goto (tgt := 15) hx hb d_B_addHit_58 (by decide) ?_
          rw [upd_nI] at eg10
          subst eg10
          have hkN : bk G f9 x a (bHiS b (bHc b) (va_up h (t1 + 1) (h t1))) := bk_six hkF (by rw [ef9]; refine hE.up ?_ (by simp); exact hE.rf) ⟨hkF11_f9, hkF121_f9, hkF1221_f9, hkF12221_f9, hkF122221_f9, hkF122222_f9⟩ rfl rfl ⟨hkF.2.2.2.2.1, hkF.2.2.2.2.2.1, hkF.2.2.2.2.2.2.1, hkF.2.2.2.2.2.2.2.1, hkF.2.2.2.2.2.2.2.2.1, up_all (P := fun _ z => z < bN b) (fun k hk9 => (hmem k hk9).1) hm1.1⟩
          exact ih t1 (va_up h (t1 + 1) (h t1)) f9 ls H locs (by omega) (by omega) hkN (up_all (P := fun _ z => z < bN b ∧ ∀ n, nm = some n → pVb (bD b z) n ≠ 0) hmem hm1) ((iN_t (bz_t hq c_38)).symm.trans hiN) hP hS (lv_sub hl [0, 1, 2, 3] rfl)
  refine lv_aload_n hx hb d_B_addHit_0 rfl (lv_at hl 0 rfl) ?_
  refine g_get C i_B hP hk.1.1 rfl 7 (by decide) wd_38 rfl rfl d_B_addHit_1 ?_
  refine lv_bipush (v := 40) hx hb d_B_addHit_4 (by decide) ?_
  refine lv_icmp_lt (tgt := 10) hx hb d_B_addHit_6 (by decide) (fun c_6 => ?_) (fun c_6 => ?_)
  · refine lv_aload_n hx hb d_B_addHit_10 rfl (lv_at hl 0 rfl) ?_
    refine g_get C i_B hP hk.1.1 rfl 7 (by decide) wd_38 rfl rfl d_B_addHit_11 ?_
    refine lv_istore_n (lv' := [(3, .int (nI (bHc b))), (0, .ref x), (1, .ref (aAd a i 0)), (2, .int (nmv nm))]) hx hb d_B_addHit_14 rfl hl (by decide) rfl (fun ls hl => ?_)
    exact loop 41 (bHc b) (bHi b) f ls s.heap [] (by omega) (by omega) hk (fun k hk9 => ⟨hk.2.2.2.2.2.2.2.2.2 k hk9, fun n hn => (hnm n hn).2.2 k hk9⟩) rfl hP hS (lv_sub hl [0, 1, 2, 3] rfl)
  · exact absurd (nI_lt (b := 40) h40 (by decide)) c_6
