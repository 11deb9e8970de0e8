/-! The reference: cost, best, chosen, choose, buy, value. -/
set_option maxHeartbeats 4000000 in
set_option maxRecDepth 100000 in
theorem ct_M_cost {l : Launch} {G : hG} (f : hm) (y : Nat) (ca : Nat → Nat) (b : BD) (hok : bOK b) (th : Int32) (bc : Int64) (cp : Int32) (hm : mS G f y ca b th bc cp) (p0 : Int32) (n0 : Int32) (r0 : Int64) (b1 : BD) (hK0 : okx p0 (bN b) → N_q n0 → K_cost b p0 n0 r0 ∧ b1 = b) : cl_ l G y_M_cost w_M_cost { frames := 2, cells := 0, slots := 0, locals := 100 } [.ref y, .int p0, .int n0] f (fun r u => ∃ th2 b2 bc2 cp2, mS G u y ca b2 th2 bc2 cp2 ∧ mp (okx p0 (bN b)) (N_q n0) b b1 (r = r0) th2 b2) := by
  intro sz
  refine h_ofW (cc := c_M_cost) (maxL := 4) (ret := (some .long)) (by decide) rfl (Nat.le_of_ble_eq_true rfl) ?_
  intro p e s m below meth c ls C hin hsz hP hl
  obtain ⟨hx, hb, hml, hown, -, -, -, -⟩ := id C
  subst hsz
  have hA0 : ∀ q, s.heap.size ≤ q → hA f s.heap.size q := hA.new
  have hS : va_S (hA f s.heap.size) s.heap s.heap [] := va_S.rf
  replace hl : lv_has ls 4 [(0, .ref y), (1, .int p0), (2, .int n0)] := hl
  obtain ⟨MK, PL, AB, BE, AS, FP, PC, PF, PT, PU, RA, KC, PK, ST, DC, DY, DS, SU, hv, hR⟩ := hm
  have hNN : bN b ≤ 40 := hok.1.1
  have hRC : bRc b ≤ 10 := hok.1.2.1
  have hHC : bHc b ≤ 40 := hok.1.2.2
  refine lv_aload_n hx hb d_M_cost_0 rfl (lv_at hl 0 rfl) ?_
  refine lv_aload_n hx hb d_M_cost_1 rfl (lv_at hl 0 rfl) ?_
  refine lv_iload_n hx hb d_M_cost_2 rfl (lv_at hl 1 rfl) ?_
  refine g_calli (g_runV C hl.1 (ct_M_isPart f y ca b hok th bc cp ⟨MK, PL, AB, BE, AS, FP, PC, PF, PT, PU, RA, KC, PK, ST, DC, DY, DS, SU, hv, hR⟩ p0 _) (cx_V C 1 wd_605 wd_607 wp_14 wd_3 wd_608 rfl rfl (by decide +kernel) ⟨Nat.le_of_ble_eq_true rfl, Nat.le_of_ble_eq_true rfl⟩) hP hv.1 rfl rfl rfl (Nat.le_of_ble_eq_true rfl) d_M_cost_3 ⟨Nat.le_of_ble_eq_true rfl, Nat.le_of_ble_eq_true rfl⟩) hP hS hA0 (fun r2 f1 H locs hq hP hS => ?_)
  obtain ⟨hzP, hu⟩ := hq
  rw [hu] at hP
  refine lv_if_ne (tgt := 13) hx hb d_M_cost_6 (by decide) (fun c_6 => ?_) (fun c_6 => ?_)
  · refine lv_iload_n hx hb d_M_cost_13 rfl (lv_at hl 2 rfl) ?_
    refine g_calli (g_runS C hl.1 (ct_M_isQuantity f n0 _) (cx_S C 1 wd_690 wd_691 wd_3 wd_692 rfl rfl (by decide +kernel) ⟨Nat.le_of_ble_eq_true rfl, Nat.le_of_ble_eq_true rfl⟩) hP rfl rfl (Nat.le_of_ble_eq_true rfl) d_M_cost_14 ⟨Nat.le_of_ble_eq_true rfl, Nat.le_of_ble_eq_true rfl⟩) hP hS hA0 (fun r4 f3 H locs hq hP hS => ?_)
    obtain ⟨hzQ, hu⟩ := hq
    rw [hu] at hP
    refine lv_if_eq (tgt := 24) hx hb d_M_cost_17 (by decide) (fun c_17 => ?_) (fun c_17 => ?_)
    · refine lv_iconst (v := 2) hx hb d_M_cost_24 (by decide) ?_
      have hI : okx p0 (bN b) := bz_t hzP c_6
      have hB : ¬ (N_q n0) := fun z9 => bz_f hzQ c_17 z9
      refine g_put C i_M t_M t_M_ok n_M hP hS hv.1 rfl 0 (by decide) wd_506 rfl rfl rfl (rfl) (Nat.le_of_ble_eq_true rfl) d_M_cost_25 (fun H locs hP hS => ?_)
      obtain ⟨f5, ef5⟩ : ∃ z99, z99 = va_up f y (some (ob 4 [.int 2, .int (nI (bN b)), .ref (ca 0), .ref (ca 1), .ref (ca 2), .ref (ca 3), .int (nI (bRc b)), .ref (ca 4), .int (nI (bHc b)), .ref (ca 5), .ref (ca 6), .ref (ca 7), .ref (ca 8), .ref (ca 9), .ref (ca 10), .ref (ca 11), .ref (ca 12), .ref (ca 13), .ref (ca 14), .ref (ca 15), .ref (ca 16), .ref (ca 17), .long bc, .int cp])) := ⟨_, rfl⟩
      replace hP : hH G (hA f s.heap.size) f5 H := by rw [ef5]; exact hP
      have hv_f5 : mv G f5 y ca 2 (nI (bN b)) (nI (bRc b)) (nI (bHc b)) bc cp MK PL AB BE AS FP PC PF PT PU RA KC PK ST DC DY DS SU := by rw [ef5]; exact mv_y hv _ _ _ _ _ _
      refine lv_aload_n hx hb d_M_cost_28 rfl (lv_at hl 0 rfl) ?_
      refine g_get C i_M hP hv_f5.1 rfl 0 (by decide) wd_506 rfl rfl d_M_cost_29 ?_
      refine lv_if_eq (tgt := 37) hx hb d_M_cost_32 (by decide) (fun c_32 => ?_) (fun c_32 => ?_)
      · exact absurd c_32 (by decide)
      · refine lv_lconst (v := 0) hx hb d_M_cost_35 (by decide) ?_
        exact g_lret C hP hS (⟨2, b, bc, cp, ⟨MK, PL, AB, BE, AS, FP, PC, PF, PT, PU, RA, KC, PK, ST, DC, DY, DS, SU, hv_f5, hR⟩, Or.inr (Or.inl ⟨hI, hB, rfl, rfl⟩)⟩) (Nat.le_of_ble_eq_true rfl) (Nat.le_of_ble_eq_true rfl) d_M_cost_36
    · refine lv_iconst (v := 0) hx hb d_M_cost_20 (by decide) ?_
      refine lv_goto (tgt := 25) hx hb d_M_cost_21 (by decide) ?_
      have hI : okx p0 (bN b) := bz_t hzP c_6
      have hN : N_q n0 := bz_t hzQ c_17
      obtain ⟨⟨i, q, o0, hi, rfl, hq1, hq2, rfl, hB0, hr0⟩, eb⟩ := hK0 hI hN
      refine g_put C i_M t_M t_M_ok n_M hP hS hv.1 rfl 0 (by decide) wd_506 rfl rfl rfl (rfl) (Nat.le_of_ble_eq_true rfl) d_M_cost_25 (fun H locs hP hS => ?_)
      obtain ⟨f6, ef6⟩ : ∃ z99, z99 = va_up f y (some (ob 4 [.int 0, .int (nI (bN b)), .ref (ca 0), .ref (ca 1), .ref (ca 2), .ref (ca 3), .int (nI (bRc b)), .ref (ca 4), .int (nI (bHc b)), .ref (ca 5), .ref (ca 6), .ref (ca 7), .ref (ca 8), .ref (ca 9), .ref (ca 10), .ref (ca 11), .ref (ca 12), .ref (ca 13), .ref (ca 14), .ref (ca 15), .ref (ca 16), .ref (ca 17), .long bc, .int cp])) := ⟨_, rfl⟩
      replace hP : hH G (hA f s.heap.size) f6 H := by rw [ef6]; exact hP
      have hv_f6 : mv G f6 y ca 0 (nI (bN b)) (nI (bRc b)) (nI (bHc b)) bc cp MK PL AB BE AS FP PC PF PT PU RA KC PK ST DC DY DS SU := by rw [ef6]; exact mv_y hv _ _ _ _ _ _
      refine lv_aload_n hx hb d_M_cost_28 rfl (lv_at hl 0 rfl) ?_
      refine g_get C i_M hP hv_f6.1 rfl 0 (by decide) wd_506 rfl rfl d_M_cost_29 ?_
      refine lv_if_eq (tgt := 37) hx hb d_M_cost_32 (by decide) (fun c_32 => ?_) (fun c_32 => ?_)
      · refine lv_aload_n hx hb d_M_cost_37 rfl (lv_at hl 0 rfl) ?_
        refine lv_iload_n hx hb d_M_cost_38 rfl (lv_at hl 1 rfl) ?_
        refine lv_iload_n hx hb d_M_cost_39 rfl (lv_at hl 2 rfl) ?_
        refine g_calli (g_runV C hl.1 (ct_M_bestOf f6 y ca b hok 0 bc cp ⟨MK, PL, AB, BE, AS, FP, PC, PF, PT, PU, RA, KC, PK, ST, DC, DY, DS, SU, hv_f6, hR⟩ i hi q hq1 hq2 _) (cx_V C 2 wd_693 wd_695 wp_21 wd_3 wd_696 rfl rfl (by decide +kernel) ⟨Nat.le_of_ble_eq_true rfl, Nat.le_of_ble_eq_true rfl⟩) hP hv_f6.1 rfl rfl rfl (Nat.le_of_ble_eq_true rfl) d_M_cost_40 ⟨Nat.le_of_ble_eq_true rfl, Nat.le_of_ble_eq_true rfl⟩) hP hS hA0 (fun r8 f7 H locs hq hP hS => ?_)
        obtain ⟨o, bc2, hBT, rfl, hbc, hm2⟩ := hq
        obtain ⟨MK_1, PL_1, AB_1, BE_1, AS_1, FP_1, PC_1, PF_1, PT_1, PU_1, RA_1, KC_1, PK_1, ST_1, DC_1, DY_1, DS_1, SU_1, hv_10, hR_1⟩ := hm2
        have hv_1 : mv G f7 y ca 0 (nI (bN b)) (nI (bRc b)) (nI (bHc b)) bc2 cp MK_1 PL_1 AB_1 BE_1 AS_1 FP_1 PC_1 PF_1 PT_1 PU_1 RA_1 KC_1 PK_1 ST_1 DC_1 DY_1 DS_1 SU_1 := hv_10
        refine lv_istore_n (lv' := [(3, .int (oT o)), (0, .ref y), (1, .int (nI i)), (2, .int (nI q))]) hx hb d_M_cost_43 rfl hl (by decide) rfl (fun ls hl => ?_)
        refine lv_iload_n hx hb d_M_cost_44 rfl (lv_at hl 0 rfl) ?_
        refine lv_iconst (v := (-1)) hx hb d_M_cost_45 (by decide) ?_
        refine lv_icmp_ne (tgt := 55) hx hb d_M_cost_46 (by decide) (fun c_46 => ?_) (fun c_46 => ?_)
        · obtain ⟨p1, rfl⟩ : ∃ p1, o = some p1 := by rcases o with _ | p1; exact absurd rfl c_46; exact ⟨p1, rfl⟩
          refine lv_aload_n hx hb d_M_cost_55 rfl (lv_at hl 1 rfl) ?_
          refine g_get C i_M hP hv_1.1 rfl 22 (by decide) wd_528 rfl rfl d_M_cost_56 ?_
          exact g_lret C hP hS (⟨0, b, bc2, cp, ⟨MK_1, PL_1, AB_1, BE_1, AS_1, FP_1, PC_1, PF_1, PT_1, PU_1, RA_1, KC_1, PK_1, ST_1, DC_1, DY_1, DS_1, SU_1, hv_1, hR_1⟩, Or.inl ⟨hI, hN, rfl, eb.symm, by rw [hr0, ← BT_uni hBT hB0, hbc p1 rfl]; rfl⟩⟩) (Nat.le_of_ble_eq_true rfl) (Nat.le_of_ble_eq_true rfl) d_M_cost_59
        · have q_o : o = none := oT_m c_46 (fun p hp => by subst hp; obtain ⟨k, -, hc, -⟩ := hBT; have := hc.2.1; have := (hok.2.1 i hi).1.2.1; omega)
          refine lv_ldc2 hx hb hown (C.w wd_588) d_M_cost_49 ?_
          refine lv_goto (tgt := 59) hx hb d_M_cost_52 (by decide) ?_
          exact g_lret C hP hS (⟨0, b, bc2, cp, ⟨MK_1, PL_1, AB_1, BE_1, AS_1, FP_1, PC_1, PF_1, PT_1, PU_1, RA_1, KC_1, PK_1, ST_1, DC_1, DY_1, DS_1, SU_1, hv_1, hR_1⟩, Or.inl ⟨hI, hN, rfl, eb.symm, by rw [hr0, ← BT_uni hBT hB0, q_o]; rfl⟩⟩) (Nat.le_of_ble_eq_true rfl) (Nat.le_of_ble_eq_true rfl) d_M_cost_59
      · exact absurd c_32 (by decide)
  · refine lv_iconst (v := 1) hx hb d_M_cost_9 (by decide) ?_
    refine lv_goto (tgt := 25) hx hb d_M_cost_10 (by decide) ?_
    have hB : ¬ (okx p0 (bN b)) := fun z9 => bz_f hzP c_6 z9
    refine g_put C i_M t_M t_M_ok n_M hP hS hv.1 rfl 0 (by decide) wd_506 rfl rfl rfl (rfl) (Nat.le_of_ble_eq_true rfl) d_M_cost_25 (fun H locs hP hS => ?_)
    obtain ⟨f9, ef9⟩ : ∃ z99, z99 = va_up f y (some (ob 4 [.int 1, .int (nI (bN b)), .ref (ca 0), .ref (ca 1), .ref (ca 2), .ref (ca 3), .int (nI (bRc b)), .ref (ca 4), .int (nI (bHc b)), .ref (ca 5), .ref (ca 6), .ref (ca 7), .ref (ca 8), .ref (ca 9), .ref (ca 10), .ref (ca 11), .ref (ca 12), .ref (ca 13), .ref (ca 14), .ref (ca 15), .ref (ca 16), .ref (ca 17), .long bc, .int cp])) := ⟨_, rfl⟩
    replace hP : hH G (hA f s.heap.size) f9 H := by rw [ef9]; exact hP
    have hv_f9 : mv G f9 y ca 1 (nI (bN b)) (nI (bRc b)) (nI (bHc b)) bc cp MK PL AB BE AS FP PC PF PT PU RA KC PK ST DC DY DS SU := by rw [ef9]; exact mv_y hv _ _ _ _ _ _
    refine lv_aload_n hx hb d_M_cost_28 rfl (lv_at hl 0 rfl) ?_
    refine g_get C i_M hP hv_f9.1 rfl 0 (by decide) wd_506 rfl rfl d_M_cost_29 ?_
    refine lv_if_eq (tgt := 37) hx hb d_M_cost_32 (by decide) (fun c_32 => ?_) (fun c_32 => ?_)
    · exact absurd c_32 (by decide)
    · refine lv_lconst (v := 0) hx hb d_M_cost_35 (by decide) ?_
      exact g_lret C hP hS (⟨1, b, bc, cp, ⟨MK, PL, AB, BE, AS, FP, PC, PF, PT, PU, RA, KC, PK, ST, DC, DY, DS, SU, hv_f9, hR⟩, Or.inr (Or.inr ⟨hB, rfl, rfl⟩)⟩) (Nat.le_of_ble_eq_true rfl) (Nat.le_of_ble_eq_true rfl) d_M_cost_36
set_option maxHeartbeats 4000000 in
set_option maxRecDepth 100000 in
theorem ct_M_best {l : Launch} {G : hG} (f : hm) (y : Nat) (ca : Nat → Nat) (b : BD) (hok : bOK b) (th : Int32) (bc : Int64) (cp : Int32) (hm : mS G f y ca b th bc cp) (p0 : Int32) (n0 : Int32) (r0 : Int32) (b1 : BD) (hK0 : okx p0 (bN b) → N_q n0 → K_best b p0 n0 r0 ∧ b1 = b) : ci_ l G y_M_best w_M_best { frames := 2, cells := 0, slots := 0, locals := 100 } [.ref y, .int p0, .int n0] f (fun r u => ∃ th2 b2 bc2 cp2, mS G u y ca b2 th2 bc2 cp2 ∧ mp (okx p0 (bN b)) (N_q n0) b b1 (r = r0) th2 b2) := by
  intro sz
  refine h_ofW (cc := c_M_best) (maxL := 3) (ret := (some .int)) (by decide) rfl (Nat.le_of_ble_eq_true rfl) ?_
  intro p e s m below meth c ls C hin hsz hP hl
  obtain ⟨hx, hb, hml, hown, -, -, -, -⟩ := id C
  subst hsz
  have hA0 : ∀ q, s.heap.size ≤ q → hA f s.heap.size q := hA.new
  have hS : va_S (hA f s.heap.size) s.heap s.heap [] := va_S.rf
  replace hl : lv_has ls 3 [(0, .ref y), (1, .int p0), (2, .int n0)] := hl
  obtain ⟨MK, PL, AB, BE, AS, FP, PC, PF, PT, PU, RA, KC, PK, ST, DC, DY, DS, SU, hv, hR⟩ := hm
  have hNN : bN b ≤ 40 := hok.1.1
  have hRC : bRc b ≤ 10 := hok.1.2.1
  have hHC : bHc b ≤ 40 := hok.1.2.2
  refine lv_aload_n hx hb d_M_best_0 rfl (lv_at hl 0 rfl) ?_
  refine lv_aload_n hx hb d_M_best_1 rfl (lv_at hl 0 rfl) ?_
  refine lv_iload_n hx hb d_M_best_2 rfl (lv_at hl 1 rfl) ?_
  refine g_calli (g_runV C hl.1 (ct_M_isPart f y ca b hok th bc cp ⟨MK, PL, AB, BE, AS, FP, PC, PF, PT, PU, RA, KC, PK, ST, DC, DY, DS, SU, hv, hR⟩ p0 _) (cx_V C 1 wd_605 wd_607 wp_14 wd_3 wd_608 rfl rfl (by decide +kernel) ⟨Nat.le_of_ble_eq_true rfl, Nat.le_of_ble_eq_true rfl⟩) hP hv.1 rfl rfl rfl (Nat.le_of_ble_eq_true rfl) d_M_best_3 ⟨Nat.le_of_ble_eq_true rfl, Nat.le_of_ble_eq_true rfl⟩) hP hS hA0 (fun r2 f1 H locs hq hP hS => ?_)
  obtain ⟨hzP, hu⟩ := hq
  rw [hu] at hP
  refine lv_if_ne (tgt := 13) hx hb d_M_best_6 (by decide) (fun c_6 => ?_) (fun c_6 => ?_)
  · refine lv_iload_n hx hb d_M_best_13 rfl (lv_at hl 2 rfl) ?_
    refine g_calli (g_runS C hl.1 (ct_M_isQuantity f n0 _) (cx_S C 1 wd_690 wd_691 wd_3 wd_692 rfl rfl (by decide +kernel) ⟨Nat.le_of_ble_eq_true rfl, Nat.le_of_ble_eq_true rfl⟩) hP rfl rfl (Nat.le_of_ble_eq_true rfl) d_M_best_14 ⟨Nat.le_of_ble_eq_true rfl, Nat.le_of_ble_eq_true rfl⟩) hP hS hA0 (fun r4 f3 H locs hq hP hS => ?_)
    obtain ⟨hzQ, hu⟩ := hq
    rw [hu] at hP
    refine lv_if_eq (tgt := 24) hx hb d_M_best_17 (by decide) (fun c_17 => ?_) (fun c_17 => ?_)
    · refine lv_iconst (v := 2) hx hb d_M_best_24 (by decide) ?_
      have hI : okx p0 (bN b) := bz_t hzP c_6
      have hB : ¬ (N_q n0) := fun z9 => bz_f hzQ c_17 z9
      refine g_put C i_M t_M t_M_ok n_M hP hS hv.1 rfl 0 (by decide) wd_506 rfl rfl rfl (rfl) (Nat.le_of_ble_eq_true rfl) d_M_best_25 (fun H locs hP hS => ?_)
      obtain ⟨f5, ef5⟩ : ∃ z99, z99 = va_up f y (some (ob 4 [.int 2, .int (nI (bN b)), .ref (ca 0), .ref (ca 1), .ref (ca 2), .ref (ca 3), .int (nI (bRc b)), .ref (ca 4), .int (nI (bHc b)), .ref (ca 5), .ref (ca 6), .ref (ca 7), .ref (ca 8), .ref (ca 9), .ref (ca 10), .ref (ca 11), .ref (ca 12), .ref (ca 13), .ref (ca 14), .ref (ca 15), .ref (ca 16), .ref (ca 17), .long bc, .int cp])) := ⟨_, rfl⟩
      replace hP : hH G (hA f s.heap.size) f5 H := by rw [ef5]; exact hP
      have hv_f5 : mv G f5 y ca 2 (nI (bN b)) (nI (bRc b)) (nI (bHc b)) bc cp MK PL AB BE AS FP PC PF PT PU RA KC PK ST DC DY DS SU := by rw [ef5]; exact mv_y hv _ _ _ _ _ _
      refine lv_aload_n hx hb d_M_best_28 rfl (lv_at hl 0 rfl) ?_
      refine g_get C i_M hP hv_f5.1 rfl 0 (by decide) wd_506 rfl rfl d_M_best_29 ?_
      refine lv_if_eq (tgt := 39) hx hb d_M_best_32 (by decide) (fun c_32 => ?_) (fun c_32 => ?_)
      · exact absurd c_32 (by decide)
      · refine lv_iconst (v := 0) hx hb d_M_best_35 (by decide) ?_
        refine lv_goto (tgt := 45) hx hb d_M_best_36 (by decide) ?_
        exact g_iret C hP hS (⟨2, b, bc, cp, ⟨MK, PL, AB, BE, AS, FP, PC, PF, PT, PU, RA, KC, PK, ST, DC, DY, DS, SU, hv_f5, hR⟩, Or.inr (Or.inl ⟨hI, hB, rfl, rfl⟩)⟩) (Nat.le_of_ble_eq_true rfl) (Nat.le_of_ble_eq_true rfl) d_M_best_45
    · refine lv_iconst (v := 0) hx hb d_M_best_20 (by decide) ?_
      refine lv_goto (tgt := 25) hx hb d_M_best_21 (by decide) ?_
      have hI : okx p0 (bN b) := bz_t hzP c_6
      have hN : N_q n0 := bz_t hzQ c_17
      obtain ⟨⟨i, q, o0, hi, rfl, hq1, hq2, rfl, hB0, hr0⟩, eb⟩ := hK0 hI hN
      refine g_put C i_M t_M t_M_ok n_M hP hS hv.1 rfl 0 (by decide) wd_506 rfl rfl rfl (rfl) (Nat.le_of_ble_eq_true rfl) d_M_best_25 (fun H locs hP hS => ?_)
      obtain ⟨f6, ef6⟩ : ∃ z99, z99 = va_up f y (some (ob 4 [.int 0, .int (nI (bN b)), .ref (ca 0), .ref (ca 1), .ref (ca 2), .ref (ca 3), .int (nI (bRc b)), .ref (ca 4), .int (nI (bHc b)), .ref (ca 5), .ref (ca 6), .ref (ca 7), .ref (ca 8), .ref (ca 9), .ref (ca 10), .ref (ca 11), .ref (ca 12), .ref (ca 13), .ref (ca 14), .ref (ca 15), .ref (ca 16), .ref (ca 17), .long bc, .int cp])) := ⟨_, rfl⟩
      replace hP : hH G (hA f s.heap.size) f6 H := by rw [ef6]; exact hP
      have hv_f6 : mv G f6 y ca 0 (nI (bN b)) (nI (bRc b)) (nI (bHc b)) bc cp MK PL AB BE AS FP PC PF PT PU RA KC PK ST DC DY DS SU := by rw [ef6]; exact mv_y hv _ _ _ _ _ _
      refine lv_aload_n hx hb d_M_best_28 rfl (lv_at hl 0 rfl) ?_
      refine g_get C i_M hP hv_f6.1 rfl 0 (by decide) wd_506 rfl rfl d_M_best_29 ?_
      refine lv_if_eq (tgt := 39) hx hb d_M_best_32 (by decide) (fun c_32 => ?_) (fun c_32 => ?_)
      · refine lv_aload_n hx hb d_M_best_39 rfl (lv_at hl 0 rfl) ?_
        refine lv_iload_n hx hb d_M_best_40 rfl (lv_at hl 1 rfl) ?_
        refine lv_iload_n hx hb d_M_best_41 rfl (lv_at hl 2 rfl) ?_
        refine g_calli (g_runV C hl.1 (ct_M_bestOf f6 y ca b hok 0 bc cp ⟨MK, PL, AB, BE, AS, FP, PC, PF, PT, PU, RA, KC, PK, ST, DC, DY, DS, SU, hv_f6, hR⟩ i hi q hq1 hq2 _) (cx_V C 2 wd_693 wd_695 wp_21 wd_3 wd_696 rfl rfl (by decide +kernel) ⟨Nat.le_of_ble_eq_true rfl, Nat.le_of_ble_eq_true rfl⟩) hP hv_f6.1 rfl rfl rfl (Nat.le_of_ble_eq_true rfl) d_M_best_42 ⟨Nat.le_of_ble_eq_true rfl, Nat.le_of_ble_eq_true rfl⟩) hP hS hA0 (fun r8 f7 H locs hq hP hS => ?_)
        obtain ⟨o, bc2, hBT, rfl, hbc, hm2⟩ := hq
        obtain ⟨MK_1, PL_1, AB_1, BE_1, AS_1, FP_1, PC_1, PF_1, PT_1, PU_1, RA_1, KC_1, PK_1, ST_1, DC_1, DY_1, DS_1, SU_1, hv_10, hR_1⟩ := hm2
        have hv_1 : mv G f7 y ca 0 (nI (bN b)) (nI (bRc b)) (nI (bHc b)) bc2 cp MK_1 PL_1 AB_1 BE_1 AS_1 FP_1 PC_1 PF_1 PT_1 PU_1 RA_1 KC_1 PK_1 ST_1 DC_1 DY_1 DS_1 SU_1 := hv_10
        exact g_iret C hP hS (⟨0, b, bc2, cp, ⟨MK_1, PL_1, AB_1, BE_1, AS_1, FP_1, PC_1, PF_1, PT_1, PU_1, RA_1, KC_1, PK_1, ST_1, DC_1, DY_1, DS_1, SU_1, hv_1, hR_1⟩, Or.inl ⟨hI, hN, rfl, eb.symm, by rw [hr0, BT_uni hBT hB0]⟩⟩) (Nat.le_of_ble_eq_true rfl) (Nat.le_of_ble_eq_true rfl) d_M_best_45
      · exact absurd c_32 (by decide)
  · refine lv_iconst (v := 1) hx hb d_M_best_9 (by decide) ?_
    refine lv_goto (tgt := 25) hx hb d_M_best_10 (by decide) ?_
    have hB : ¬ (okx p0 (bN b)) := fun z9 => bz_f hzP c_6 z9
    refine g_put C i_M t_M t_M_ok n_M hP hS hv.1 rfl 0 (by decide) wd_506 rfl rfl rfl (rfl) (Nat.le_of_ble_eq_true rfl) d_M_best_25 (fun H locs hP hS => ?_)
    obtain ⟨f9, ef9⟩ : ∃ z99, z99 = va_up f y (some (ob 4 [.int 1, .int (nI (bN b)), .ref (ca 0), .ref (ca 1), .ref (ca 2), .ref (ca 3), .int (nI (bRc b)), .ref (ca 4), .int (nI (bHc b)), .ref (ca 5), .ref (ca 6), .ref (ca 7), .ref (ca 8), .ref (ca 9), .ref (ca 10), .ref (ca 11), .ref (ca 12), .ref (ca 13), .ref (ca 14), .ref (ca 15), .ref (ca 16), .ref (ca 17), .long bc, .int cp])) := ⟨_, rfl⟩
    replace hP : hH G (hA f s.heap.size) f9 H := by rw [ef9]; exact hP
    have hv_f9 : mv G f9 y ca 1 (nI (bN b)) (nI (bRc b)) (nI (bHc b)) bc cp MK PL AB BE AS FP PC PF PT PU RA KC PK ST DC DY DS SU := by rw [ef9]; exact mv_y hv _ _ _ _ _ _
    refine lv_aload_n hx hb d_M_best_28 rfl (lv_at hl 0 rfl) ?_
    refine g_get C i_M hP hv_f9.1 rfl 0 (by decide) wd_506 rfl rfl d_M_best_29 ?_
    refine lv_if_eq (tgt := 39) hx hb d_M_best_32 (by decide) (fun c_32 => ?_) (fun c_32 => ?_)
    · exact absurd c_32 (by decide)
    · refine lv_iconst (v := 0) hx hb d_M_best_35 (by decide) ?_
      refine lv_goto (tgt := 45) hx hb d_M_best_36 (by decide) ?_
      exact g_iret C hP hS (⟨1, b, bc, cp, ⟨MK, PL, AB, BE, AS, FP, PC, PF, PT, PU, RA, KC, PK, ST, DC, DY, DS, SU, hv_f9, hR⟩, Or.inr (Or.inr ⟨hB, rfl, rfl⟩)⟩) (Nat.le_of_ble_eq_true rfl) (Nat.le_of_ble_eq_true rfl) d_M_best_45
set_option maxHeartbeats 4000000 in
set_option maxRecDepth 100000 in
theorem ct_M_chosen {l : Launch} {G : hG} (f : hm) (y : Nat) (ca : Nat → Nat) (b : BD) (hok : bOK b) (th : Int32) (bc : Int64) (cp : Int32) (hm : mS G f y ca b th bc cp) (i : Nat) (hi : i < bN b) (ru : Nat) (hru : ru < bRc b) (q : Nat) (hq1 : 1 ≤ q) (hq2 : q ≤ 10000) (d : Int64) : ci_ l G y_M_chosen w_M_chosen { frames := 3, cells := 0, slots := 0, locals := 140 } [.ref y, .int (nI i), .int (nI ru), .int (nI q), .long d] f (fun r u => ∃ o bc2 cp2, CH b i ru q d o ∧ r = oP o ∧ (∀ z, o = some z → ∃ t, BT (bRa b) (bD b z) q (some t) ∧ cp2 = nI t.1) ∧ mS G u y ca b th bc2 cp2) := by
  intro sz
  refine h_ofW (cc := c_M_chosen) (maxL := 13) (ret := (some .int)) (by decide) rfl (Nat.le_of_ble_eq_true rfl) ?_
  intro p e s m below meth c ls C hin hsz hP hl
  obtain ⟨hx, hb, hml, hown, -, -, -, -⟩ := id C
  subst hsz
  have hA0 : ∀ q, s.heap.size ≤ q → hA f s.heap.size q := hA.new
  have hS : va_S (hA f s.heap.size) s.heap s.heap [] := va_S.rf
  replace hl : lv_has ls 13 [(0, .ref y), (1, .int (nI i)), (2, .int (nI ru)), (3, .int (nI q)), (4, .long d)] := hl
  obtain ⟨MK, PL, AB, BE, AS, FP, PC, PF, PT, PU, RA, KC, PK, ST, DC, DY, DS, SU, hv, hR⟩ := hm
  have hNN : bN b ≤ 40 := hok.1.1
  have hRC : bRc b ≤ 10 := hok.1.2.1
  have hHC : bHc b ≤ 40 := hok.1.2.2
  have loop : ∀ (dd k : Nat) (o : Option Nat) (L bcx : Int64) (cpx : Int32) (fi : hm) (ls : Array Slot) (H : Heap) (locs : List Loc), bN b < k + dd → k ≤ bN b → CHr b i ru q d (fun p => p < bN b ∧ p < k ∧ (p = i ∨ AL b p i ru)) o → (∀ p o1, o = some p → OF b p q d (some o1) → L = lN o1.2) → (∀ z, o = some z → ∃ t, BT (bRa b) (bD b z) q (some t) ∧ cpx = nI t.1) → mS G fi y ca b th bcx cpx → hH G (hA f s.heap.size) fi H → va_S (hA f s.heap.size) s.heap H locs → lv_has ls 13 [(9, .int (nI k)), (6, .int (oP o)), (7, .long L), (0, .ref y), (1, .int (nI i)), (2, .int (nI ru)), (3, .int (nI q)), (4, .long d)] → W p l e { frames := 3, cells := 0, slots := 0, locals := 140 } s m #[.ref y, .int (nI i), .int (nI ru), .int (nI q), .long d] below meth c H locs 0 0 (MQ below (va_Qi (fun r u => ∃ o bc2 cp2, CH b i ru q d o ∧ r = oP o ∧ (∀ z, o = some z → ∃ t, BT (bRa b) (bD b z) q (some t) ∧ cp2 = nI t.1) ∧ mS G u y ca b th bc2 cp2) (hB G (hA f s.heap.size)) (hA f s.heap.size)) #[.ref y, .int (nI i), .int (nI ru), .int (nI q), .long d] s 0 0 (hA f s.heap.size)) (F0 m 14 ls []) := by
    intro dd
    induction dd with
    | zero => intro k o L bcx cpx fi ls H locs h1 h2; exact absurd h1 (by omega)
    | succ dd ih =>
      intro k o L bcx cpx fi ls H locs h1 h2 hCH hL hcp hmF hP hS hl
      obtain ⟨MK, PL, AB, BE, AS, FP, PC, PF, PT, PU, RA, KC, PK, ST, DC, DY, DS, SU, hvF0, hR⟩ := hmF
      have hvF : mv G fi y ca th (nI (bN b)) (nI (bRc b)) (nI (bHc b)) bcx cpx MK PL AB BE AS FP PC PF PT PU RA KC PK ST DC DY DS SU := hvF0
      refine lv_iload hx hb d_M_chosen_14 (lv_at hl 0 rfl) ?_
      refine lv_aload_n hx hb d_M_chosen_16 rfl (lv_at hl 3 rfl) ?_
      refine g_get C i_M hP hvF.1 rfl 1 (by decide) wd_507 rfl rfl d_M_chosen_17 ?_
      refine lv_icmp_ge (tgt := 178) hx hb d_M_chosen_20 (by decide) (fun c_20 => ?_) (fun c_20 => ?_)
      · have q_1 : k = bN b := by have := (nI_leI (by omega) (by omega)).mp c_20; omega
        refine lv_iload hx hb d_M_chosen_178 (lv_at hl 1 rfl) ?_
        exact g_iret C hP hS (⟨o, bcx, cpx, by rw [q_1] at hCH; have h7 : (fun p => p < bN b ∧ p < bN b ∧ (p = i ∨ AL b p i ru)) = (fun p => p < bN b ∧ (p = i ∨ AL b p i ru)) := funext fun p => propext ⟨fun hp => ⟨hp.1, hp.2.2⟩, fun hp => ⟨hp.1, hp.1, hp.2⟩⟩; rw [h7] at hCH; exact hCH, rfl, hcp, ⟨MK, PL, AB, BE, AS, FP, PC, PF, PT, PU, RA, KC, PK, ST, DC, DY, DS, SU, hvF, hR⟩⟩) (Nat.le_of_ble_eq_true rfl) (Nat.le_of_ble_eq_true rfl) d_M_chosen_180
      · have hkk : k < bN b := Nat.lt_of_not_le (fun z9 => c_20 ((nI_leI (by omega) (by omega)).mpr z9))
        refine lv_aload_n hx hb d_M_chosen_23 rfl (lv_at hl 3 rfl) ?_
        refine lv_iload hx hb d_M_chosen_24 (lv_at hl 0 rfl) ?_
        refine lv_lload hx hb d_M_chosen_26 (lv_at hl 7 rfl) ?_
        refine g_calli (g_runV C hl.1 (ct_M_stateOf fi y ca b hok th bcx cpx ⟨MK, PL, AB, BE, AS, FP, PC, PF, PT, PU, RA, KC, PK, ST, DC, DY, DS, SU, hvF, hR⟩ k hkk d _) (cx_V C 2 wd_717 wd_719 wp_24 wd_3 wd_720 rfl rfl (by decide +kernel) ⟨Nat.le_of_ble_eq_true rfl, Nat.le_of_ble_eq_true rfl⟩) hP hvF.1 rfl rfl rfl (Nat.le_of_ble_eq_true rfl) d_M_chosen_28 ⟨Nat.le_of_ble_eq_true rfl, Nat.le_of_ble_eq_true rfl⟩) hP hS hA0 (fun r2 f1 H locs hq hP hS => ?_)
        obtain ⟨⟨v, hsd, hv3, rfl⟩, hu⟩ := hq
        rw [hu] at hP
        refine lv_istore (lv' := [(10, .int (nI v)), (9, .int (nI k)), (6, .int (oP o)), (7, .long L), (0, .ref y), (1, .int (nI i)), (2, .int (nI ru)), (3, .int (nI q)), (4, .long d)]) hx hb d_M_chosen_31 hl (by decide) rfl (fun ls hl => ?_)
        refine lv_iload hx hb d_M_chosen_33 (lv_at hl 0 rfl) ?_
        refine lv_iconst (v := 1) hx hb d_M_chosen_35 (by decide) ?_
        refine lv_icmp_eq (tgt := 45) hx hb d_M_chosen_36 (by decide) (fun c_36 => ?_) (fun c_36 => ?_)
        · have hv12 : v = 1 ∨ v = 2 := Or.inl ((nI_eq (b := 1) (by omega) (by decide)).mp c_36)
          refine lv_iload hx hb d_M_chosen_45 (lv_at hl 1 rfl) ?_
          refine lv_iload_n hx hb d_M_chosen_47 rfl (lv_at hl 5 rfl) ?_
          refine lv_icmp_eq (tgt := 65) hx hb d_M_chosen_48 (by decide) (fun c_48 => ?_) (fun c_48 => ?_)
          · have hAL : k = i ∨ AL b k i ru := Or.inl ((nI_eq (by omega) (by omega)).mp c_48)
            refine lv_aload_n hx hb d_M_chosen_65 rfl (lv_at hl 4 rfl) ?_
            refine lv_iload hx hb d_M_chosen_66 (lv_at hl 1 rfl) ?_
            refine lv_iload_n hx hb d_M_chosen_68 rfl (lv_at hl 7 rfl) ?_
            refine g_calli (g_runV C hl.1 (ct_M_bestOf fi y ca b hok th bcx cpx ⟨MK, PL, AB, BE, AS, FP, PC, PF, PT, PU, RA, KC, PK, ST, DC, DY, DS, SU, hvF, hR⟩ k hkk q hq1 hq2 _) (cx_V C 2 wd_693 wd_695 wp_21 wd_3 wd_696 rfl rfl (by decide +kernel) ⟨Nat.le_of_ble_eq_true rfl, Nat.le_of_ble_eq_true rfl⟩) hP hvF.1 rfl rfl rfl (Nat.le_of_ble_eq_true rfl) d_M_chosen_69 ⟨Nat.le_of_ble_eq_true rfl, Nat.le_of_ble_eq_true rfl⟩) hP hS hA0 (fun r4 f3 H locs hq hP hS => ?_)
            obtain ⟨o1, bc2, hBT, rfl, hbc, hm2⟩ := hq
            obtain ⟨MK_1, PL_1, AB_1, BE_1, AS_1, FP_1, PC_1, PF_1, PT_1, PU_1, RA_1, KC_1, PK_1, ST_1, DC_1, DY_1, DS_1, SU_1, hv_10, hR_1⟩ := hm2
            have hv_1 : mv G f3 y ca th (nI (bN b)) (nI (bRc b)) (nI (bHc b)) bc2 cpx MK_1 PL_1 AB_1 BE_1 AS_1 FP_1 PC_1 PF_1 PT_1 PU_1 RA_1 KC_1 PK_1 ST_1 DC_1 DY_1 DS_1 SU_1 := hv_10
            refine lv_istore (lv' := [(11, .int (oT o1)), (10, .int (nI v)), (9, .int (nI k)), (6, .int (oP o)), (7, .long L), (0, .ref y), (1, .int (nI i)), (2, .int (nI ru)), (3, .int (nI q)), (4, .long d)]) hx hb d_M_chosen_72 hl (by decide) rfl (fun ls hl => ?_)
            refine lv_iload hx hb d_M_chosen_74 (lv_at hl 0 rfl) ?_
            refine lv_iconst (v := (-1)) hx hb d_M_chosen_76 (by decide) ?_
            refine lv_icmp_ne (tgt := 83) hx hb d_M_chosen_77 (by decide) (fun c_77 => ?_) (fun c_77 => ?_)
            · obtain ⟨p1, rfl⟩ : ∃ p1, o1 = some p1 := by rcases o1 with _ | p1; exact absurd rfl c_77; exact ⟨p1, rfl⟩
              have hbc1 := hbc p1 rfl
              subst hbc1
              have hvq := hv_1
              have hOFk : OF b k q d (some p1) := ⟨v, hsd, Or.inl ⟨hv12, hBT⟩⟩
              obtain ⟨hB1, hB2, hB3⟩ := OF_lt (hok.2.1 k hkk) hok.2.2.2.2.1 hOFk
              have hp1a : p1.1 < 2 ^ 31 := by have := (hok.2.1 k hkk).1.2.1; omega
              refine lv_iload hx hb d_M_chosen_83 (lv_at hl 3 rfl) ?_
              refine lv_iconst (v := (-1)) hx hb d_M_chosen_85 (by decide) ?_
              refine lv_icmp_eq (tgt := 99) hx hb d_M_chosen_86 (by decide) (fun c_86 => ?_) (fun c_86 => ?_)
              · have q_n : o = none := by rcases o with _ | p0; rfl; exact absurd c_86 (nI_nm1 (by obtain ⟨o9, hm9, -⟩ := hCH; have := hm9.1; omega))
                have hMk : (fun p => p < bN b ∧ p < (k + 1) ∧ (p = i ∨ AL b p i ru)) k := ⟨hkk, Nat.lt_succ_self k, hAL⟩
                have hN : CHr b i ru q d (fun p => p < bN b ∧ p < (k + 1) ∧ (p = i ∨ AL b p i ru)) (some k) := CH_take hCH (fun p hp => by rcases Nat.lt_succ_iff_lt_or_eq.mp hp.2.1 with y9 | y9; exact Or.inl ⟨hp.1, y9, hp.2.2⟩; exact Or.inr y9) hMk hOFk (fun p o9 hp h9 => by rw [q_n] at hp; cases hp)
                refine lv_iconst (v := 1) hx hb d_M_chosen_99 (by decide) ?_
                refine lv_goto (tgt := 104) hx hb d_M_chosen_100 (by decide) ?_
                refine lv_istore (lv' := [(12, .int 1), (11, .int (nI p1.1)), (10, .int (nI v)), (9, .int (nI k)), (6, .int (oP o)), (7, .long L), (0, .ref y), (1, .int (nI i)), (2, .int (nI ru)), (3, .int (nI q)), (4, .long d)]) hx hb d_M_chosen_104 hl (by decide) rfl (fun ls hl => ?_)
                refine lv_iload hx hb d_M_chosen_106 (lv_at hl 0 rfl) ?_
                refine lv_if_ne (tgt := 151) hx hb d_M_chosen_108 (by decide) (fun c_108 => ?_) (fun c_108 => ?_)
                · refine lv_iload hx hb d_M_chosen_151 (lv_at hl 0 rfl) ?_
                  refine lv_if_eq (tgt := 172) hx hb d_M_chosen_153 (by decide) (fun c_153 => ?_) (fun c_153 => ?_)
                  · exact absurd c_153 (by decide)
                  · refine lv_iload hx hb d_M_chosen_156 (lv_at hl 3 rfl) ?_
                    refine lv_istore (lv' := [(6, .int (nI k)), (12, .int 1), (11, .int (nI p1.1)), (10, .int (nI v)), (9, .int (nI k)), (7, .long L), (0, .ref y), (1, .int (nI i)), (2, .int (nI ru)), (3, .int (nI q)), (4, .long d)]) hx hb d_M_chosen_158 hl (by decide) rfl (fun ls hl => ?_)
                    refine lv_aload_n hx hb d_M_chosen_160 rfl (lv_at hl 6 rfl) ?_
                    refine g_get C i_M hP hvq.1 rfl 22 (by decide) wd_528 rfl rfl d_M_chosen_161 ?_
                    refine lv_lstore (lv' := [(7, .long (lN p1.2)), (6, .int (nI k)), (12, .int 1), (11, .int (nI p1.1)), (10, .int (nI v)), (9, .int (nI k)), (0, .ref y), (1, .int (nI i)), (2, .int (nI ru)), (3, .int (nI q)), (4, .long d)]) hx hb d_M_chosen_164 hl (by decide) rfl (fun ls hl => ?_)
                    refine lv_aload_n hx hb d_M_chosen_166 rfl (lv_at hl 6 rfl) ?_
                    refine lv_iload hx hb d_M_chosen_167 (lv_at hl 3 rfl) ?_
                    refine g_put C i_M t_M t_M_ok n_M hP hS hvq.1 rfl 23 (by decide) wd_529 rfl rfl rfl (rfl) (Nat.le_of_ble_eq_true rfl) d_M_chosen_169 (fun H locs hP hS => ?_)
                    obtain ⟨f5, ef5⟩ : ∃ z99, z99 = va_up f3 y (some (ob 4 [.int th, .int (nI (bN b)), .ref (ca 0), .ref (ca 1), .ref (ca 2), .ref (ca 3), .int (nI (bRc b)), .ref (ca 4), .int (nI (bHc b)), .ref (ca 5), .ref (ca 6), .ref (ca 7), .ref (ca 8), .ref (ca 9), .ref (ca 10), .ref (ca 11), .ref (ca 12), .ref (ca 13), .ref (ca 14), .ref (ca 15), .ref (ca 16), .ref (ca 17), .long (lN p1.2), .int (nI p1.1)])) := ⟨_, rfl⟩
                    replace hP : hH G (hA f s.heap.size) f5 H := by rw [ef5]; exact hP
                    have hv_f5 : mv G f5 y ca th (nI (bN b)) (nI (bRc b)) (nI (bHc b)) (lN p1.2) (nI p1.1) MK_1 PL_1 AB_1 BE_1 AS_1 FP_1 PC_1 PF_1 PT_1 PU_1 RA_1 KC_1 PK_1 ST_1 DC_1 DY_1 DS_1 SU_1 := by rw [ef5]; exact mv_y hvq _ _ _ _ _ _
                    refine lv_iinc (v := nI (k + 1)) (lv' := [(9, .int (nI (k + 1))), (7, .long (lN p1.2)), (6, .int (nI k)), (12, .int 1), (11, .int (nI p1.1)), (10, .int (nI v)), (0, .ref y), (1, .int (nI i)), (2, .int (nI ru)), (3, .int (nI q)), (4, .long d)]) hx hb d_M_chosen_172 hl (k := 5) rfl (nI_1 k) (by decide) rfl (fun ls hl => ?_)
                    refine lv_goto (tgt := 14) hx hb d_M_chosen_175 (by decide) ?_
                    exact ih (k + 1) (some k) (lN p1.2) _ _ f5 ls H locs (by omega) (by omega) hN (fun p o9 hp h9 => by cases hp; cases OF_uni h9 hOFk; rfl) (fun z hz => by cases hz; exact ⟨p1, hB1, rfl⟩) ⟨MK_1, PL_1, AB_1, BE_1, AS_1, FP_1, PC_1, PF_1, PT_1, PU_1, RA_1, KC_1, PK_1, ST_1, DC_1, DY_1, DS_1, SU_1, hv_f5, hR_1⟩ hP hS (lv_sub hl [0, 2, 1, 6, 7, 8, 9, 10] rfl)
                · exact absurd c_108 (by decide)
              · obtain ⟨p0, rfl⟩ : ∃ p0, o = some p0 := by rcases o with _ | p0; exact absurd rfl c_86; exact ⟨p0, rfl⟩
                have hCH0 := hCH
                obtain ⟨o0, hm0, hf0, -⟩ := hCH0
                have hp0 : p0 < bN b := hm0.1
                have hL1 := hL p0 o0 rfl hf0
                subst hL1
                have hB4 := (OF_lt (hok.2.1 p0 hp0) hok.2.2.2.2.1 hf0).2.1
                have hMk : (fun p => p < bN b ∧ p < (k + 1) ∧ (p = i ∨ AL b p i ru)) k := ⟨hkk, Nat.lt_succ_self k, hAL⟩
                refine lv_aload_n hx hb d_M_chosen_89 rfl (lv_at hl 5 rfl) ?_
                refine g_get C i_M hP hvq.1 rfl 22 (by decide) wd_528 rfl rfl d_M_chosen_90 ?_
                refine lv_lload hx hb d_M_chosen_93 (lv_at hl 4 rfl) ?_
                refine W.lcmp hx hb d_M_chosen_95 ?_
                refine lv_if_ge (tgt := 103) hx hb d_M_chosen_96 (by decide) (fun c_96 => ?_) (fun c_96 => ?_)
                · have c_96 := (lg_cmp_ge _ _).mp c_96
                  have q_96 : o0.2 ≤ p1.2 := (pk_lLE (by omega) (by omega)).mp c_96
                  refine lv_iconst (v := 0) hx hb d_M_chosen_103 (by decide) ?_
                  refine lv_istore (lv' := [(12, .int 0), (11, .int (nI p1.1)), (10, .int (nI v)), (9, .int (nI k)), (6, .int (nI p0)), (7, .long (lN o0.2)), (0, .ref y), (1, .int (nI i)), (2, .int (nI ru)), (3, .int (nI q)), (4, .long d)]) hx hb d_M_chosen_104 hl (by decide) rfl (fun ls hl => ?_)
                  refine lv_iload hx hb d_M_chosen_106 (lv_at hl 0 rfl) ?_
                  refine lv_if_ne (tgt := 151) hx hb d_M_chosen_108 (by decide) (fun c_108 => ?_) (fun c_108 => ?_)
                  · exact absurd c_108 (by decide)
                  · refine lv_aload_n hx hb d_M_chosen_111 rfl (lv_at hl 6 rfl) ?_
                    refine g_get C i_M hP hvq.1 rfl 22 (by decide) wd_528 rfl rfl d_M_chosen_112 ?_
                    refine lv_lload hx hb d_M_chosen_115 (lv_at hl 5 rfl) ?_
                    refine W.lcmp hx hb d_M_chosen_117 ?_
                    refine lv_if_ne (tgt := 151) hx hb d_M_chosen_118 (by decide) (fun c_118 => ?_) (fun c_118 => ?_)
                    · have c_118 := fun z => c_118 ((lg_cmp_eq _ _).mpr z)
                      have hN : CHr b i ru q d (fun p => p < bN b ∧ p < (k + 1) ∧ (p = i ∨ AL b p i ru)) (some p0) := CH_keep hCH hf0 (fun p hp => ⟨hp.1, Nat.lt_succ_of_lt hp.2.1, hp.2.2⟩) (fun p hp => by rcases Nat.lt_succ_iff_lt_or_eq.mp hp.2.1 with y9 | y9; exact Or.inl ⟨hp.1, y9, hp.2.2⟩; exact Or.inr y9) hOFk (Or.inl (by have h8 : p1.2 ≠ o0.2 := fun z => c_118 (by rw [z]); omega))
                      refine lv_iload hx hb d_M_chosen_151 (lv_at hl 0 rfl) ?_
                      refine lv_if_eq (tgt := 172) hx hb d_M_chosen_153 (by decide) (fun c_153 => ?_) (fun c_153 => ?_)
                      · refine lv_iinc (v := nI (k + 1)) (lv' := [(9, .int (nI (k + 1))), (12, .int 0), (11, .int (nI p1.1)), (10, .int (nI v)), (6, .int (nI p0)), (7, .long (lN o0.2)), (0, .ref y), (1, .int (nI i)), (2, .int (nI ru)), (3, .int (nI q)), (4, .long d)]) hx hb d_M_chosen_172 hl (k := 3) rfl (nI_1 k) (by decide) rfl (fun ls hl => ?_)
                        refine lv_goto (tgt := 14) hx hb d_M_chosen_175 (by decide) ?_
                        exact ih (k + 1) (some p0) (lN o0.2) _ _ f3 ls H locs (by omega) (by omega) hN (fun p o9 hp h9 => by cases hp; cases OF_uni h9 hf0; rfl) hcp ⟨MK_1, PL_1, AB_1, BE_1, AS_1, FP_1, PC_1, PF_1, PT_1, PU_1, RA_1, KC_1, PK_1, ST_1, DC_1, DY_1, DS_1, SU_1, hvq, hR_1⟩ hP hS (lv_sub hl [0, 4, 5, 6, 7, 8, 9, 10] rfl)
                      · exact absurd c_153 (by decide)
                    · have c_118 := (lg_cmp_eq _ _).mp c_118
                      have q_2 : p1.2 = o0.2 := (pk_lEQ (by omega) (by omega)).mp c_118
                      refine lv_iload hx hb d_M_chosen_121 (lv_at hl 4 rfl) ?_
                      refine lv_iload_n hx hb d_M_chosen_123 rfl (lv_at hl 7 rfl) ?_
                      refine lv_icmp_eq (tgt := 148) hx hb d_M_chosen_124 (by decide) (fun c_124 => ?_) (fun c_124 => ?_)
                      · have q_3 : p0 = i := (nI_eq (by omega) (by omega)).mp c_124
                        have hN : CHr b i ru q d (fun p => p < bN b ∧ p < (k + 1) ∧ (p = i ∨ AL b p i ru)) (some p0) := CH_keep hCH hf0 (fun p hp => ⟨hp.1, Nat.lt_succ_of_lt hp.2.1, hp.2.2⟩) (fun p hp => by rcases Nat.lt_succ_iff_lt_or_eq.mp hp.2.1 with y9 | y9; exact Or.inl ⟨hp.1, y9, hp.2.2⟩; exact Or.inr y9) hOFk (Or.inr ⟨q_2.symm, fun z9 => absurd hm0.2.1 (by omega), Or.inl q_3⟩)
                        refine lv_iconst (v := 0) hx hb d_M_chosen_148 (by decide) ?_
                        refine lv_istore (lv' := [(12, .int 0), (11, .int (nI p1.1)), (10, .int (nI v)), (9, .int (nI k)), (6, .int (nI p0)), (7, .long (lN o0.2)), (0, .ref y), (1, .int (nI i)), (2, .int (nI ru)), (3, .int (nI q)), (4, .long d)]) hx hb d_M_chosen_149 hl (by decide) rfl (fun ls hl => ?_)
                        refine lv_iload hx hb d_M_chosen_151 (lv_at hl 0 rfl) ?_
                        refine lv_if_eq (tgt := 172) hx hb d_M_chosen_153 (by decide) (fun c_153 => ?_) (fun c_153 => ?_)
                        · refine lv_iinc (v := nI (k + 1)) (lv' := [(9, .int (nI (k + 1))), (12, .int 0), (11, .int (nI p1.1)), (10, .int (nI v)), (6, .int (nI p0)), (7, .long (lN o0.2)), (0, .ref y), (1, .int (nI i)), (2, .int (nI ru)), (3, .int (nI q)), (4, .long d)]) hx hb d_M_chosen_172 hl (k := 3) rfl (nI_1 k) (by decide) rfl (fun ls hl => ?_)
                          refine lv_goto (tgt := 14) hx hb d_M_chosen_175 (by decide) ?_
                          exact ih (k + 1) (some p0) (lN o0.2) _ _ f3 ls H locs (by omega) (by omega) hN (fun p o9 hp h9 => by cases hp; cases OF_uni h9 hf0; rfl) hcp ⟨MK_1, PL_1, AB_1, BE_1, AS_1, FP_1, PC_1, PF_1, PT_1, PU_1, RA_1, KC_1, PK_1, ST_1, DC_1, DY_1, DS_1, SU_1, hvq, hR_1⟩ hP hS (lv_sub hl [0, 4, 5, 6, 7, 8, 9, 10] rfl)
                        · exact absurd c_153 (by decide)
                      · have q_3 : p0 ≠ i := fun z9 => c_124 (by rw [z9])
                        refine lv_iload hx hb d_M_chosen_127 (lv_at hl 3 rfl) ?_
                        refine lv_iload_n hx hb d_M_chosen_129 rfl (lv_at hl 7 rfl) ?_
                        refine lv_icmp_eq (tgt := 144) hx hb d_M_chosen_130 (by decide) (fun c_130 => ?_) (fun c_130 => ?_)
                        · have q_4 : k = i := (nI_eq (by omega) (by omega)).mp c_130
                          have hN : CHr b i ru q d (fun p => p < bN b ∧ p < (k + 1) ∧ (p = i ∨ AL b p i ru)) (some k) := CH_take hCH (fun p hp => by rcases Nat.lt_succ_iff_lt_or_eq.mp hp.2.1 with y9 | y9; exact Or.inl ⟨hp.1, y9, hp.2.2⟩; exact Or.inr y9) hMk hOFk (fun p o9 hp h9 => by cases hp; cases OF_uni h9 hf0; exact Or.inr ⟨q_2, q_3, Or.inl q_4⟩)
                          refine lv_iconst (v := 1) hx hb d_M_chosen_144 (by decide) ?_
                          refine lv_goto (tgt := 149) hx hb d_M_chosen_145 (by decide) ?_
                          refine lv_istore (lv' := [(12, .int 1), (11, .int (nI p1.1)), (10, .int (nI v)), (9, .int (nI k)), (6, .int (nI p0)), (7, .long (lN o0.2)), (0, .ref y), (1, .int (nI i)), (2, .int (nI ru)), (3, .int (nI q)), (4, .long d)]) hx hb d_M_chosen_149 hl (by decide) rfl (fun ls hl => ?_)
                          refine lv_iload hx hb d_M_chosen_151 (lv_at hl 0 rfl) ?_
                          refine lv_if_eq (tgt := 172) hx hb d_M_chosen_153 (by decide) (fun c_153 => ?_) (fun c_153 => ?_)
                          · exact absurd c_153 (by decide)
                          · refine lv_iload hx hb d_M_chosen_156 (lv_at hl 3 rfl) ?_
                            refine lv_istore (lv' := [(6, .int (nI k)), (12, .int 1), (11, .int (nI p1.1)), (10, .int (nI v)), (9, .int (nI k)), (7, .long (lN o0.2)), (0, .ref y), (1, .int (nI i)), (2, .int (nI ru)), (3, .int (nI q)), (4, .long d)]) hx hb d_M_chosen_158 hl (by decide) rfl (fun ls hl => ?_)
                            refine lv_aload_n hx hb d_M_chosen_160 rfl (lv_at hl 6 rfl) ?_
                            refine g_get C i_M hP hvq.1 rfl 22 (by decide) wd_528 rfl rfl d_M_chosen_161 ?_
                            refine lv_lstore (lv' := [(7, .long (lN p1.2)), (6, .int (nI k)), (12, .int 1), (11, .int (nI p1.1)), (10, .int (nI v)), (9, .int (nI k)), (0, .ref y), (1, .int (nI i)), (2, .int (nI ru)), (3, .int (nI q)), (4, .long d)]) hx hb d_M_chosen_164 hl (by decide) rfl (fun ls hl => ?_)
                            refine lv_aload_n hx hb d_M_chosen_166 rfl (lv_at hl 6 rfl) ?_
                            refine lv_iload hx hb d_M_chosen_167 (lv_at hl 3 rfl) ?_
                            refine g_put C i_M t_M t_M_ok n_M hP hS hvq.1 rfl 23 (by decide) wd_529 rfl rfl rfl (rfl) (Nat.le_of_ble_eq_true rfl) d_M_chosen_169 (fun H locs hP hS => ?_)
                            obtain ⟨f6, ef6⟩ : ∃ z99, z99 = va_up f3 y (some (ob 4 [.int th, .int (nI (bN b)), .ref (ca 0), .ref (ca 1), .ref (ca 2), .ref (ca 3), .int (nI (bRc b)), .ref (ca 4), .int (nI (bHc b)), .ref (ca 5), .ref (ca 6), .ref (ca 7), .ref (ca 8), .ref (ca 9), .ref (ca 10), .ref (ca 11), .ref (ca 12), .ref (ca 13), .ref (ca 14), .ref (ca 15), .ref (ca 16), .ref (ca 17), .long (lN p1.2), .int (nI p1.1)])) := ⟨_, rfl⟩
                            replace hP : hH G (hA f s.heap.size) f6 H := by rw [ef6]; exact hP
                            have hv_f6 : mv G f6 y ca th (nI (bN b)) (nI (bRc b)) (nI (bHc b)) (lN p1.2) (nI p1.1) MK_1 PL_1 AB_1 BE_1 AS_1 FP_1 PC_1 PF_1 PT_1 PU_1 RA_1 KC_1 PK_1 ST_1 DC_1 DY_1 DS_1 SU_1 := by rw [ef6]; exact mv_y hvq _ _ _ _ _ _
                            refine lv_iinc (v := nI (k + 1)) (lv' := [(9, .int (nI (k + 1))), (7, .long (lN p1.2)), (6, .int (nI k)), (12, .int 1), (11, .int (nI p1.1)), (10, .int (nI v)), (0, .ref y), (1, .int (nI i)), (2, .int (nI ru)), (3, .int (nI q)), (4, .long d)]) hx hb d_M_chosen_172 hl (k := 5) rfl (nI_1 k) (by decide) rfl (fun ls hl => ?_)
                            refine lv_goto (tgt := 14) hx hb d_M_chosen_175 (by decide) ?_
                            exact ih (k + 1) (some k) (lN p1.2) _ _ f6 ls H locs (by omega) (by omega) hN (fun p o9 hp h9 => by cases hp; cases OF_uni h9 hOFk; rfl) (fun z hz => by cases hz; exact ⟨p1, hB1, rfl⟩) ⟨MK_1, PL_1, AB_1, BE_1, AS_1, FP_1, PC_1, PF_1, PT_1, PU_1, RA_1, KC_1, PK_1, ST_1, DC_1, DY_1, DS_1, SU_1, hv_f6, hR_1⟩ hP hS (lv_sub hl [0, 2, 1, 6, 7, 8, 9, 10] rfl)
                        · have q_4 : k ≠ i := fun z9 => c_130 (by rw [z9])
                          refine lv_aload_n hx hb d_M_chosen_133 rfl (lv_at hl 6 rfl) ?_
                          refine lv_iload hx hb d_M_chosen_134 (lv_at hl 3 rfl) ?_
                          refine lv_iload hx hb d_M_chosen_136 (lv_at hl 4 rfl) ?_
                          refine g_calli (g_runV C hl.1 (ct_M_isAhead f3 y ca b hok th (lN p1.2) cpx ⟨MK_1, PL_1, AB_1, BE_1, AS_1, FP_1, PC_1, PF_1, PT_1, PU_1, RA_1, KC_1, PK_1, ST_1, DC_1, DY_1, DS_1, SU_1, hvq, hR_1⟩ k p0 hkk hp0 _) (cx_V C 2 wd_655 wd_657 wp_20 wd_3 wd_658 rfl rfl (by decide +kernel) ⟨Nat.le_of_ble_eq_true rfl, Nat.le_of_ble_eq_true rfl⟩) hP hvq.1 rfl rfl rfl (Nat.le_of_ble_eq_true rfl) d_M_chosen_138 ⟨Nat.le_of_ble_eq_true rfl, Nat.le_of_ble_eq_true rfl⟩) hP hS hA0 (fun r8 f7 H locs hq hP hS => ?_)
                          obtain ⟨hza, hu⟩ := hq
                          rw [hu] at hP
                          refine lv_if_eq (tgt := 148) hx hb d_M_chosen_141 (by decide) (fun c_141 => ?_) (fun c_141 => ?_)
                          · have hN : CHr b i ru q d (fun p => p < bN b ∧ p < (k + 1) ∧ (p = i ∨ AL b p i ru)) (some p0) := CH_keep hCH hf0 (fun p hp => ⟨hp.1, Nat.lt_succ_of_lt hp.2.1, hp.2.2⟩) (fun p hp => by rcases Nat.lt_succ_iff_lt_or_eq.mp hp.2.1 with y9 | y9; exact Or.inl ⟨hp.1, y9, hp.2.2⟩; exact Or.inr y9) hOFk (Or.inr ⟨q_2.symm, q_4, Or.inr (sb_tot (fun z9 => absurd hm0.2.1 (by omega)) (bz_f hza c_141))⟩)
                            refine lv_iconst (v := 0) hx hb d_M_chosen_148 (by decide) ?_
                            refine lv_istore (lv' := [(12, .int 0), (11, .int (nI p1.1)), (10, .int (nI v)), (9, .int (nI k)), (6, .int (nI p0)), (7, .long (lN o0.2)), (0, .ref y), (1, .int (nI i)), (2, .int (nI ru)), (3, .int (nI q)), (4, .long d)]) hx hb d_M_chosen_149 hl (by decide) rfl (fun ls hl => ?_)
                            refine lv_iload hx hb d_M_chosen_151 (lv_at hl 0 rfl) ?_
                            refine lv_if_eq (tgt := 172) hx hb d_M_chosen_153 (by decide) (fun c_153 => ?_) (fun c_153 => ?_)
                            · refine lv_iinc (v := nI (k + 1)) (lv' := [(9, .int (nI (k + 1))), (12, .int 0), (11, .int (nI p1.1)), (10, .int (nI v)), (6, .int (nI p0)), (7, .long (lN o0.2)), (0, .ref y), (1, .int (nI i)), (2, .int (nI ru)), (3, .int (nI q)), (4, .long d)]) hx hb d_M_chosen_172 hl (k := 3) rfl (nI_1 k) (by decide) rfl (fun ls hl => ?_)
                              refine lv_goto (tgt := 14) hx hb d_M_chosen_175 (by decide) ?_
                              exact ih (k + 1) (some p0) (lN o0.2) _ _ f3 ls H locs (by omega) (by omega) hN (fun p o9 hp h9 => by cases hp; cases OF_uni h9 hf0; rfl) hcp ⟨MK_1, PL_1, AB_1, BE_1, AS_1, FP_1, PC_1, PF_1, PT_1, PU_1, RA_1, KC_1, PK_1, ST_1, DC_1, DY_1, DS_1, SU_1, hvq, hR_1⟩ hP hS (lv_sub hl [0, 4, 5, 6, 7, 8, 9, 10] rfl)
                            · exact absurd c_153 (by decide)
                          · have hN : CHr b i ru q d (fun p => p < bN b ∧ p < (k + 1) ∧ (p = i ∨ AL b p i ru)) (some k) := CH_take hCH (fun p hp => by rcases Nat.lt_succ_iff_lt_or_eq.mp hp.2.1 with y9 | y9; exact Or.inl ⟨hp.1, y9, hp.2.2⟩; exact Or.inr y9) hMk hOFk (fun p o9 hp h9 => by cases hp; cases OF_uni h9 hf0; exact Or.inr ⟨q_2, q_3, Or.inr (bz_t hza c_141)⟩)
                            refine lv_iconst (v := 1) hx hb d_M_chosen_144 (by decide) ?_
                            refine lv_goto (tgt := 149) hx hb d_M_chosen_145 (by decide) ?_
                            refine lv_istore (lv' := [(12, .int 1), (11, .int (nI p1.1)), (10, .int (nI v)), (9, .int (nI k)), (6, .int (nI p0)), (7, .long (lN o0.2)), (0, .ref y), (1, .int (nI i)), (2, .int (nI ru)), (3, .int (nI q)), (4, .long d)]) hx hb d_M_chosen_149 hl (by decide) rfl (fun ls hl => ?_)
                            refine lv_iload hx hb d_M_chosen_151 (lv_at hl 0 rfl) ?_
                            refine lv_if_eq (tgt := 172) hx hb d_M_chosen_153 (by decide) (fun c_153 => ?_) (fun c_153 => ?_)
                            · exact absurd c_153 (by decide)
                            · refine lv_iload hx hb d_M_chosen_156 (lv_at hl 3 rfl) ?_
                              refine lv_istore (lv' := [(6, .int (nI k)), (12, .int 1), (11, .int (nI p1.1)), (10, .int (nI v)), (9, .int (nI k)), (7, .long (lN o0.2)), (0, .ref y), (1, .int (nI i)), (2, .int (nI ru)), (3, .int (nI q)), (4, .long d)]) hx hb d_M_chosen_158 hl (by decide) rfl (fun ls hl => ?_)
                              refine lv_aload_n hx hb d_M_chosen_160 rfl (lv_at hl 6 rfl) ?_
                              refine g_get C i_M hP hvq.1 rfl 22 (by decide) wd_528 rfl rfl d_M_chosen_161 ?_
                              refine lv_lstore (lv' := [(7, .long (lN p1.2)), (6, .int (nI k)), (12, .int 1), (11, .int (nI p1.1)), (10, .int (nI v)), (9, .int (nI k)), (0, .ref y), (1, .int (nI i)), (2, .int (nI ru)), (3, .int (nI q)), (4, .long d)]) hx hb d_M_chosen_164 hl (by decide) rfl (fun ls hl => ?_)
                              refine lv_aload_n hx hb d_M_chosen_166 rfl (lv_at hl 6 rfl) ?_
                              refine lv_iload hx hb d_M_chosen_167 (lv_at hl 3 rfl) ?_
                              refine g_put C i_M t_M t_M_ok n_M hP hS hvq.1 rfl 23 (by decide) wd_529 rfl rfl rfl (rfl) (Nat.le_of_ble_eq_true rfl) d_M_chosen_169 (fun H locs hP hS => ?_)
                              obtain ⟨f9, ef9⟩ : ∃ z99, z99 = va_up f3 y (some (ob 4 [.int th, .int (nI (bN b)), .ref (ca 0), .ref (ca 1), .ref (ca 2), .ref (ca 3), .int (nI (bRc b)), .ref (ca 4), .int (nI (bHc b)), .ref (ca 5), .ref (ca 6), .ref (ca 7), .ref (ca 8), .ref (ca 9), .ref (ca 10), .ref (ca 11), .ref (ca 12), .ref (ca 13), .ref (ca 14), .ref (ca 15), .ref (ca 16), .ref (ca 17), .long (lN p1.2), .int (nI p1.1)])) := ⟨_, rfl⟩
                              replace hP : hH G (hA f s.heap.size) f9 H := by rw [ef9]; exact hP
                              have hv_f9 : mv G f9 y ca th (nI (bN b)) (nI (bRc b)) (nI (bHc b)) (lN p1.2) (nI p1.1) MK_1 PL_1 AB_1 BE_1 AS_1 FP_1 PC_1 PF_1 PT_1 PU_1 RA_1 KC_1 PK_1 ST_1 DC_1 DY_1 DS_1 SU_1 := by rw [ef9]; exact mv_y hvq _ _ _ _ _ _
                              refine lv_iinc (v := nI (k + 1)) (lv' := [(9, .int (nI (k + 1))), (7, .long (lN p1.2)), (6, .int (nI k)), (12, .int 1), (11, .int (nI p1.1)), (10, .int (nI v)), (0, .ref y), (1, .int (nI i)), (2, .int (nI ru)), (3, .int (nI q)), (4, .long d)]) hx hb d_M_chosen_172 hl (k := 5) rfl (nI_1 k) (by decide) rfl (fun ls hl => ?_)
                              refine lv_goto (tgt := 14) hx hb d_M_chosen_175 (by decide) ?_
                              exact ih (k + 1) (some k) (lN p1.2) _ _ f9 ls H locs (by omega) (by omega) hN (fun p o9 hp h9 => by cases hp; cases OF_uni h9 hOFk; rfl) (fun z hz => by cases hz; exact ⟨p1, hB1, rfl⟩) ⟨MK_1, PL_1, AB_1, BE_1, AS_1, FP_1, PC_1, PF_1, PT_1, PU_1, RA_1, KC_1, PK_1, ST_1, DC_1, DY_1, DS_1, SU_1, hv_f9, hR_1⟩ hP hS (lv_sub hl [0, 2, 1, 6, 7, 8, 9, 10] rfl)
                · have c_96 := fun z => c_96 ((lg_cmp_ge _ _).mpr z)
                  have hN : CHr b i ru q d (fun p => p < bN b ∧ p < (k + 1) ∧ (p = i ∨ AL b p i ru)) (some k) := CH_take hCH (fun p hp => by rcases Nat.lt_succ_iff_lt_or_eq.mp hp.2.1 with y9 | y9; exact Or.inl ⟨hp.1, y9, hp.2.2⟩; exact Or.inr y9) hMk hOFk (fun p o9 hp h9 => by cases hp; cases OF_uni h9 hf0; exact Or.inl ((pk_lLT (by omega) (by omega)).mp (Int64.not_le.mp c_96)))
                  refine lv_iconst (v := 1) hx hb d_M_chosen_99 (by decide) ?_
                  refine lv_goto (tgt := 104) hx hb d_M_chosen_100 (by decide) ?_
                  refine lv_istore (lv' := [(12, .int 1), (11, .int (nI p1.1)), (10, .int (nI v)), (9, .int (nI k)), (6, .int (nI p0)), (7, .long (lN o0.2)), (0, .ref y), (1, .int (nI i)), (2, .int (nI ru)), (3, .int (nI q)), (4, .long d)]) hx hb d_M_chosen_104 hl (by decide) rfl (fun ls hl => ?_)
                  refine lv_iload hx hb d_M_chosen_106 (lv_at hl 0 rfl) ?_
                  refine lv_if_ne (tgt := 151) hx hb d_M_chosen_108 (by decide) (fun c_108 => ?_) (fun c_108 => ?_)
                  · refine lv_iload hx hb d_M_chosen_151 (lv_at hl 0 rfl) ?_
                    refine lv_if_eq (tgt := 172) hx hb d_M_chosen_153 (by decide) (fun c_153 => ?_) (fun c_153 => ?_)
                    · exact absurd c_153 (by decide)
                    · refine lv_iload hx hb d_M_chosen_156 (lv_at hl 3 rfl) ?_
                      refine lv_istore (lv' := [(6, .int (nI k)), (12, .int 1), (11, .int (nI p1.1)), (10, .int (nI v)), (9, .int (nI k)), (7, .long (lN o0.2)), (0, .ref y), (1, .int (nI i)), (2, .int (nI ru)), (3, .int (nI q)), (4, .long d)]) hx hb d_M_chosen_158 hl (by decide) rfl (fun ls hl => ?_)
                      refine lv_aload_n hx hb d_M_chosen_160 rfl (lv_at hl 6 rfl) ?_
                      refine g_get C i_M hP hvq.1 rfl 22 (by decide) wd_528 rfl rfl d_M_chosen_161 ?_
                      refine lv_lstore (lv' := [(7, .long (lN p1.2)), (6, .int (nI k)), (12, .int 1), (11, .int (nI p1.1)), (10, .int (nI v)), (9, .int (nI k)), (0, .ref y), (1, .int (nI i)), (2, .int (nI ru)), (3, .int (nI q)), (4, .long d)]) hx hb d_M_chosen_164 hl (by decide) rfl (fun ls hl => ?_)
                      refine lv_aload_n hx hb d_M_chosen_166 rfl (lv_at hl 6 rfl) ?_
                      refine lv_iload hx hb d_M_chosen_167 (lv_at hl 3 rfl) ?_
                      refine g_put C i_M t_M t_M_ok n_M hP hS hvq.1 rfl 23 (by decide) wd_529 rfl rfl rfl (rfl) (Nat.le_of_ble_eq_true rfl) d_M_chosen_169 (fun H locs hP hS => ?_)
                      obtain ⟨f10, ef10⟩ : ∃ z99, z99 = va_up f3 y (some (ob 4 [.int th, .int (nI (bN b)), .ref (ca 0), .ref (ca 1), .ref (ca 2), .ref (ca 3), .int (nI (bRc b)), .ref (ca 4), .int (nI (bHc b)), .ref (ca 5), .ref (ca 6), .ref (ca 7), .ref (ca 8), .ref (ca 9), .ref (ca 10), .ref (ca 11), .ref (ca 12), .ref (ca 13), .ref (ca 14), .ref (ca 15), .ref (ca 16), .ref (ca 17), .long (lN p1.2), .int (nI p1.1)])) := ⟨_, rfl⟩
                      replace hP : hH G (hA f s.heap.size) f10 H := by rw [ef10]; exact hP
                      have hv_f10 : mv G f10 y ca th (nI (bN b)) (nI (bRc b)) (nI (bHc b)) (lN p1.2) (nI p1.1) MK_1 PL_1 AB_1 BE_1 AS_1 FP_1 PC_1 PF_1 PT_1 PU_1 RA_1 KC_1 PK_1 ST_1 DC_1 DY_1 DS_1 SU_1 := by rw [ef10]; exact mv_y hvq _ _ _ _ _ _
                      refine lv_iinc (v := nI (k + 1)) (lv' := [(9, .int (nI (k + 1))), (7, .long (lN p1.2)), (6, .int (nI k)), (12, .int 1), (11, .int (nI p1.1)), (10, .int (nI v)), (0, .ref y), (1, .int (nI i)), (2, .int (nI ru)), (3, .int (nI q)), (4, .long d)]) hx hb d_M_chosen_172 hl (k := 5) rfl (nI_1 k) (by decide) rfl (fun ls hl => ?_)
                      refine lv_goto (tgt := 14) hx hb d_M_chosen_175 (by decide) ?_
                      exact ih (k + 1) (some k) (lN p1.2) _ _ f10 ls H locs (by omega) (by omega) hN (fun p o9 hp h9 => by cases hp; cases OF_uni h9 hOFk; rfl) (fun z hz => by cases hz; exact ⟨p1, hB1, rfl⟩) ⟨MK_1, PL_1, AB_1, BE_1, AS_1, FP_1, PC_1, PF_1, PT_1, PU_1, RA_1, KC_1, PK_1, ST_1, DC_1, DY_1, DS_1, SU_1, hv_f10, hR_1⟩ hP hS (lv_sub hl [0, 2, 1, 6, 7, 8, 9, 10] rfl)
                  · exact absurd c_108 (by decide)
            · have q_o : o1 = none := oT_m c_77 (fun p hp => by subst hp; obtain ⟨k9, -, hc, -⟩ := hBT; have := hc.2.1; have := (hok.2.1 k hkk).1.2.1; omega)
              have hN : CHr b i ru q d (fun p => p < bN b ∧ p < (k + 1) ∧ (p = i ∨ AL b p i ru)) o := CH_skip hCH (fun p hp => ⟨hp.1, Nat.lt_succ_of_lt hp.2.1, hp.2.2⟩) (fun p hp => by rcases Nat.lt_succ_iff_lt_or_eq.mp hp.2.1 with y9 | y9; exact Or.inl ⟨hp.1, y9, hp.2.2⟩; exact Or.inr y9) (fun hm o9 h9 => by rw [q_o] at hBT; cases OF_uni h9 ⟨v, hsd, Or.inl ⟨hv12, hBT⟩⟩)
              refine lv_goto (tgt := 172) hx hb d_M_chosen_80 (by decide) ?_
              refine lv_iinc (v := nI (k + 1)) (lv' := [(9, .int (nI (k + 1))), (11, .int (oT o1)), (10, .int (nI v)), (6, .int (oP o)), (7, .long L), (0, .ref y), (1, .int (nI i)), (2, .int (nI ru)), (3, .int (nI q)), (4, .long d)]) hx hb d_M_chosen_172 hl (k := 2) rfl (nI_1 k) (by decide) rfl (fun ls hl => ?_)
              refine lv_goto (tgt := 14) hx hb d_M_chosen_175 (by decide) ?_
              exact ih (k + 1) o L _ _ f3 ls H locs (by omega) (by omega) hN hL hcp ⟨MK_1, PL_1, AB_1, BE_1, AS_1, FP_1, PC_1, PF_1, PT_1, PU_1, RA_1, KC_1, PK_1, ST_1, DC_1, DY_1, DS_1, SU_1, hv_1, hR_1⟩ hP hS (lv_sub hl [0, 3, 4, 5, 6, 7, 8, 9] rfl)
          · have hki : k ≠ i := fun z9 => c_48 (by rw [z9])
            refine lv_aload_n hx hb d_M_chosen_51 rfl (lv_at hl 4 rfl) ?_
            refine lv_iload hx hb d_M_chosen_52 (lv_at hl 1 rfl) ?_
            refine lv_iload_n hx hb d_M_chosen_54 rfl (lv_at hl 5 rfl) ?_
            refine lv_iload_n hx hb d_M_chosen_55 rfl (lv_at hl 6 rfl) ?_
            refine g_calli (g_runV C hl.1 (ct_M_isAlternate fi y ca b hok th bcx cpx ⟨MK, PL, AB, BE, AS, FP, PC, PF, PT, PU, RA, KC, PK, ST, DC, DY, DS, SU, hvF, hR⟩ k i ru hkk hi hru _) (cx_V C 3 wd_640 wd_642 wp_17 wd_3 wd_643 rfl rfl (by decide +kernel) ⟨Nat.le_of_ble_eq_true rfl, Nat.le_of_ble_eq_true rfl⟩) hP hvF.1 rfl rfl rfl (Nat.le_of_ble_eq_true rfl) d_M_chosen_56 ⟨Nat.le_of_ble_eq_true rfl, Nat.le_of_ble_eq_true rfl⟩) hP hS hA0 (fun r12 f11 H locs hq hP hS => ?_)
            obtain ⟨hz, hu⟩ := hq
            rw [hu] at hP
            refine lv_if_ne (tgt := 65) hx hb d_M_chosen_59 (by decide) (fun c_59 => ?_) (fun c_59 => ?_)
            · have hAL : k = i ∨ AL b k i ru := Or.inr (bz_t hz c_59)
              refine lv_aload_n hx hb d_M_chosen_65 rfl (lv_at hl 4 rfl) ?_
              refine lv_iload hx hb d_M_chosen_66 (lv_at hl 1 rfl) ?_
              refine lv_iload_n hx hb d_M_chosen_68 rfl (lv_at hl 7 rfl) ?_
              refine g_calli (g_runV C hl.1 (ct_M_bestOf fi y ca b hok th bcx cpx ⟨MK, PL, AB, BE, AS, FP, PC, PF, PT, PU, RA, KC, PK, ST, DC, DY, DS, SU, hvF, hR⟩ k hkk q hq1 hq2 _) (cx_V C 2 wd_693 wd_695 wp_21 wd_3 wd_696 rfl rfl (by decide +kernel) ⟨Nat.le_of_ble_eq_true rfl, Nat.le_of_ble_eq_true rfl⟩) hP hvF.1 rfl rfl rfl (Nat.le_of_ble_eq_true rfl) d_M_chosen_69 ⟨Nat.le_of_ble_eq_true rfl, Nat.le_of_ble_eq_true rfl⟩) hP hS hA0 (fun r14 f13 H locs hq hP hS => ?_)
              obtain ⟨o1, bc2, hBT, rfl, hbc, hm2⟩ := hq
              obtain ⟨MK_1, PL_1, AB_1, BE_1, AS_1, FP_1, PC_1, PF_1, PT_1, PU_1, RA_1, KC_1, PK_1, ST_1, DC_1, DY_1, DS_1, SU_1, hv_10, hR_1⟩ := hm2
              have hv_1 : mv G f13 y ca th (nI (bN b)) (nI (bRc b)) (nI (bHc b)) bc2 cpx MK_1 PL_1 AB_1 BE_1 AS_1 FP_1 PC_1 PF_1 PT_1 PU_1 RA_1 KC_1 PK_1 ST_1 DC_1 DY_1 DS_1 SU_1 := hv_10
              refine lv_istore (lv' := [(11, .int (oT o1)), (10, .int (nI v)), (9, .int (nI k)), (6, .int (oP o)), (7, .long L), (0, .ref y), (1, .int (nI i)), (2, .int (nI ru)), (3, .int (nI q)), (4, .long d)]) hx hb d_M_chosen_72 hl (by decide) rfl (fun ls hl => ?_)
              refine lv_iload hx hb d_M_chosen_74 (lv_at hl 0 rfl) ?_
              refine lv_iconst (v := (-1)) hx hb d_M_chosen_76 (by decide) ?_
              refine lv_icmp_ne (tgt := 83) hx hb d_M_chosen_77 (by decide) (fun c_77 => ?_) (fun c_77 => ?_)
              · obtain ⟨p1, rfl⟩ : ∃ p1, o1 = some p1 := by rcases o1 with _ | p1; exact absurd rfl c_77; exact ⟨p1, rfl⟩
                have hbc1 := hbc p1 rfl
                subst hbc1
                have hvq := hv_1
                have hOFk : OF b k q d (some p1) := ⟨v, hsd, Or.inl ⟨hv12, hBT⟩⟩
                obtain ⟨hB1, hB2, hB3⟩ := OF_lt (hok.2.1 k hkk) hok.2.2.2.2.1 hOFk
                have hp1a : p1.1 < 2 ^ 31 := by have := (hok.2.1 k hkk).1.2.1; omega
                refine lv_iload hx hb d_M_chosen_83 (lv_at hl 3 rfl) ?_
                refine lv_iconst (v := (-1)) hx hb d_M_chosen_85 (by decide) ?_
                refine lv_icmp_eq (tgt := 99) hx hb d_M_chosen_86 (by decide) (fun c_86 => ?_) (fun c_86 => ?_)
                · have q_n : o = none := by rcases o with _ | p0; rfl; exact absurd c_86 (nI_nm1 (by obtain ⟨o9, hm9, -⟩ := hCH; have := hm9.1; omega))
                  have hMk : (fun p => p < bN b ∧ p < (k + 1) ∧ (p = i ∨ AL b p i ru)) k := ⟨hkk, Nat.lt_succ_self k, hAL⟩
                  have hN : CHr b i ru q d (fun p => p < bN b ∧ p < (k + 1) ∧ (p = i ∨ AL b p i ru)) (some k) := CH_take hCH (fun p hp => by rcases Nat.lt_succ_iff_lt_or_eq.mp hp.2.1 with y9 | y9; exact Or.inl ⟨hp.1, y9, hp.2.2⟩; exact Or.inr y9) hMk hOFk (fun p o9 hp h9 => by rw [q_n] at hp; cases hp)
                  refine lv_iconst (v := 1) hx hb d_M_chosen_99 (by decide) ?_
                  refine lv_goto (tgt := 104) hx hb d_M_chosen_100 (by decide) ?_
                  refine lv_istore (lv' := [(12, .int 1), (11, .int (nI p1.1)), (10, .int (nI v)), (9, .int (nI k)), (6, .int (oP o)), (7, .long L), (0, .ref y), (1, .int (nI i)), (2, .int (nI ru)), (3, .int (nI q)), (4, .long d)]) hx hb d_M_chosen_104 hl (by decide) rfl (fun ls hl => ?_)
                  refine lv_iload hx hb d_M_chosen_106 (lv_at hl 0 rfl) ?_
                  refine lv_if_ne (tgt := 151) hx hb d_M_chosen_108 (by decide) (fun c_108 => ?_) (fun c_108 => ?_)
                  · refine lv_iload hx hb d_M_chosen_151 (lv_at hl 0 rfl) ?_
                    refine lv_if_eq (tgt := 172) hx hb d_M_chosen_153 (by decide) (fun c_153 => ?_) (fun c_153 => ?_)
                    · exact absurd c_153 (by decide)
                    · refine lv_iload hx hb d_M_chosen_156 (lv_at hl 3 rfl) ?_
                      refine lv_istore (lv' := [(6, .int (nI k)), (12, .int 1), (11, .int (nI p1.1)), (10, .int (nI v)), (9, .int (nI k)), (7, .long L), (0, .ref y), (1, .int (nI i)), (2, .int (nI ru)), (3, .int (nI q)), (4, .long d)]) hx hb d_M_chosen_158 hl (by decide) rfl (fun ls hl => ?_)
                      refine lv_aload_n hx hb d_M_chosen_160 rfl (lv_at hl 6 rfl) ?_
                      refine g_get C i_M hP hvq.1 rfl 22 (by decide) wd_528 rfl rfl d_M_chosen_161 ?_
                      refine lv_lstore (lv' := [(7, .long (lN p1.2)), (6, .int (nI k)), (12, .int 1), (11, .int (nI p1.1)), (10, .int (nI v)), (9, .int (nI k)), (0, .ref y), (1, .int (nI i)), (2, .int (nI ru)), (3, .int (nI q)), (4, .long d)]) hx hb d_M_chosen_164 hl (by decide) rfl (fun ls hl => ?_)
                      refine lv_aload_n hx hb d_M_chosen_166 rfl (lv_at hl 6 rfl) ?_
                      refine lv_iload hx hb d_M_chosen_167 (lv_at hl 3 rfl) ?_
                      refine g_put C i_M t_M t_M_ok n_M hP hS hvq.1 rfl 23 (by decide) wd_529 rfl rfl rfl (rfl) (Nat.le_of_ble_eq_true rfl) d_M_chosen_169 (fun H locs hP hS => ?_)
                      obtain ⟨f15, ef15⟩ : ∃ z99, z99 = va_up f13 y (some (ob 4 [.int th, .int (nI (bN b)), .ref (ca 0), .ref (ca 1), .ref (ca 2), .ref (ca 3), .int (nI (bRc b)), .ref (ca 4), .int (nI (bHc b)), .ref (ca 5), .ref (ca 6), .ref (ca 7), .ref (ca 8), .ref (ca 9), .ref (ca 10), .ref (ca 11), .ref (ca 12), .ref (ca 13), .ref (ca 14), .ref (ca 15), .ref (ca 16), .ref (ca 17), .long (lN p1.2), .int (nI p1.1)])) := ⟨_, rfl⟩
                      replace hP : hH G (hA f s.heap.size) f15 H := by rw [ef15]; exact hP
                      have hv_f15 : mv G f15 y ca th (nI (bN b)) (nI (bRc b)) (nI (bHc b)) (lN p1.2) (nI p1.1) MK_1 PL_1 AB_1 BE_1 AS_1 FP_1 PC_1 PF_1 PT_1 PU_1 RA_1 KC_1 PK_1 ST_1 DC_1 DY_1 DS_1 SU_1 := by rw [ef15]; exact mv_y hvq _ _ _ _ _ _
                      refine lv_iinc (v := nI (k + 1)) (lv' := [(9, .int (nI (k + 1))), (7, .long (lN p1.2)), (6, .int (nI k)), (12, .int 1), (11, .int (nI p1.1)), (10, .int (nI v)), (0, .ref y), (1, .int (nI i)), (2, .int (nI ru)), (3, .int (nI q)), (4, .long d)]) hx hb d_M_chosen_172 hl (k := 5) rfl (nI_1 k) (by decide) rfl (fun ls hl => ?_)
                      refine lv_goto (tgt := 14) hx hb d_M_chosen_175 (by decide) ?_
                      exact ih (k + 1) (some k) (lN p1.2) _ _ f15 ls H locs (by omega) (by omega) hN (fun p o9 hp h9 => by cases hp; cases OF_uni h9 hOFk; rfl) (fun z hz => by cases hz; exact ⟨p1, hB1, rfl⟩) ⟨MK_1, PL_1, AB_1, BE_1, AS_1, FP_1, PC_1, PF_1, PT_1, PU_1, RA_1, KC_1, PK_1, ST_1, DC_1, DY_1, DS_1, SU_1, hv_f15, hR_1⟩ hP hS (lv_sub hl [0, 2, 1, 6, 7, 8, 9, 10] rfl)
                  · exact absurd c_108 (by decide)
                · obtain ⟨p0, rfl⟩ : ∃ p0, o = some p0 := by rcases o with _ | p0; exact absurd rfl c_86; exact ⟨p0, rfl⟩
                  have hCH0 := hCH
                  obtain ⟨o0, hm0, hf0, -⟩ := hCH0
                  have hp0 : p0 < bN b := hm0.1
                  have hL1 := hL p0 o0 rfl hf0
                  subst hL1
                  have hB4 := (OF_lt (hok.2.1 p0 hp0) hok.2.2.2.2.1 hf0).2.1
                  have hMk : (fun p => p < bN b ∧ p < (k + 1) ∧ (p = i ∨ AL b p i ru)) k := ⟨hkk, Nat.lt_succ_self k, hAL⟩
                  refine lv_aload_n hx hb d_M_chosen_89 rfl (lv_at hl 5 rfl) ?_
                  refine g_get C i_M hP hvq.1 rfl 22 (by decide) wd_528 rfl rfl d_M_chosen_90 ?_
                  refine lv_lload hx hb d_M_chosen_93 (lv_at hl 4 rfl) ?_
                  refine W.lcmp hx hb d_M_chosen_95 ?_
                  refine lv_if_ge (tgt := 103) hx hb d_M_chosen_96 (by decide) (fun c_96 => ?_) (fun c_96 => ?_)
                  · have c_96 := (lg_cmp_ge _ _).mp c_96
                    have q_96 : o0.2 ≤ p1.2 := (pk_lLE (by omega) (by omega)).mp c_96
                    refine lv_iconst (v := 0) hx hb d_M_chosen_103 (by decide) ?_
                    refine lv_istore (lv' := [(12, .int 0), (11, .int (nI p1.1)), (10, .int (nI v)), (9, .int (nI k)), (6, .int (nI p0)), (7, .long (lN o0.2)), (0, .ref y), (1, .int (nI i)), (2, .int (nI ru)), (3, .int (nI q)), (4, .long d)]) hx hb d_M_chosen_104 hl (by decide) rfl (fun ls hl => ?_)
                    refine lv_iload hx hb d_M_chosen_106 (lv_at hl 0 rfl) ?_
                    refine lv_if_ne (tgt := 151) hx hb d_M_chosen_108 (by decide) (fun c_108 => ?_) (fun c_108 => ?_)
                    · exact absurd c_108 (by decide)
                    · refine lv_aload_n hx hb d_M_chosen_111 rfl (lv_at hl 6 rfl) ?_
                      refine g_get C i_M hP hvq.1 rfl 22 (by decide) wd_528 rfl rfl d_M_chosen_112 ?_
                      refine lv_lload hx hb d_M_chosen_115 (lv_at hl 5 rfl) ?_
                      refine W.lcmp hx hb d_M_chosen_117 ?_
                      refine lv_if_ne (tgt := 151) hx hb d_M_chosen_118 (by decide) (fun c_118 => ?_) (fun c_118 => ?_)
                      · have c_118 := fun z => c_118 ((lg_cmp_eq _ _).mpr z)
                        have hN : CHr b i ru q d (fun p => p < bN b ∧ p < (k + 1) ∧ (p = i ∨ AL b p i ru)) (some p0) := CH_keep hCH hf0 (fun p hp => ⟨hp.1, Nat.lt_succ_of_lt hp.2.1, hp.2.2⟩) (fun p hp => by rcases Nat.lt_succ_iff_lt_or_eq.mp hp.2.1 with y9 | y9; exact Or.inl ⟨hp.1, y9, hp.2.2⟩; exact Or.inr y9) hOFk (Or.inl (by have h8 : p1.2 ≠ o0.2 := fun z => c_118 (by rw [z]); omega))
                        refine lv_iload hx hb d_M_chosen_151 (lv_at hl 0 rfl) ?_
                        refine lv_if_eq (tgt := 172) hx hb d_M_chosen_153 (by decide) (fun c_153 => ?_) (fun c_153 => ?_)
                        · refine lv_iinc (v := nI (k + 1)) (lv' := [(9, .int (nI (k + 1))), (12, .int 0), (11, .int (nI p1.1)), (10, .int (nI v)), (6, .int (nI p0)), (7, .long (lN o0.2)), (0, .ref y), (1, .int (nI i)), (2, .int (nI ru)), (3, .int (nI q)), (4, .long d)]) hx hb d_M_chosen_172 hl (k := 3) rfl (nI_1 k) (by decide) rfl (fun ls hl => ?_)
                          refine lv_goto (tgt := 14) hx hb d_M_chosen_175 (by decide) ?_
                          exact ih (k + 1) (some p0) (lN o0.2) _ _ f13 ls H locs (by omega) (by omega) hN (fun p o9 hp h9 => by cases hp; cases OF_uni h9 hf0; rfl) hcp ⟨MK_1, PL_1, AB_1, BE_1, AS_1, FP_1, PC_1, PF_1, PT_1, PU_1, RA_1, KC_1, PK_1, ST_1, DC_1, DY_1, DS_1, SU_1, hvq, hR_1⟩ hP hS (lv_sub hl [0, 4, 5, 6, 7, 8, 9, 10] rfl)
                        · exact absurd c_153 (by decide)
                      · have c_118 := (lg_cmp_eq _ _).mp c_118
                        have q_2 : p1.2 = o0.2 := (pk_lEQ (by omega) (by omega)).mp c_118
                        refine lv_iload hx hb d_M_chosen_121 (lv_at hl 4 rfl) ?_
                        refine lv_iload_n hx hb d_M_chosen_123 rfl (lv_at hl 7 rfl) ?_
                        refine lv_icmp_eq (tgt := 148) hx hb d_M_chosen_124 (by decide) (fun c_124 => ?_) (fun c_124 => ?_)
                        · have q_3 : p0 = i := (nI_eq (by omega) (by omega)).mp c_124
                          have hN : CHr b i ru q d (fun p => p < bN b ∧ p < (k + 1) ∧ (p = i ∨ AL b p i ru)) (some p0) := CH_keep hCH hf0 (fun p hp => ⟨hp.1, Nat.lt_succ_of_lt hp.2.1, hp.2.2⟩) (fun p hp => by rcases Nat.lt_succ_iff_lt_or_eq.mp hp.2.1 with y9 | y9; exact Or.inl ⟨hp.1, y9, hp.2.2⟩; exact Or.inr y9) hOFk (Or.inr ⟨q_2.symm, fun z9 => absurd hm0.2.1 (by omega), Or.inl q_3⟩)
                          refine lv_iconst (v := 0) hx hb d_M_chosen_148 (by decide) ?_
                          refine lv_istore (lv' := [(12, .int 0), (11, .int (nI p1.1)), (10, .int (nI v)), (9, .int (nI k)), (6, .int (nI p0)), (7, .long (lN o0.2)), (0, .ref y), (1, .int (nI i)), (2, .int (nI ru)), (3, .int (nI q)), (4, .long d)]) hx hb d_M_chosen_149 hl (by decide) rfl (fun ls hl => ?_)
                          refine lv_iload hx hb d_M_chosen_151 (lv_at hl 0 rfl) ?_
                          refine lv_if_eq (tgt := 172) hx hb d_M_chosen_153 (by decide) (fun c_153 => ?_) (fun c_153 => ?_)
                          · refine lv_iinc (v := nI (k + 1)) (lv' := [(9, .int (nI (k + 1))), (12, .int 0), (11, .int (nI p1.1)), (10, .int (nI v)), (6, .int (nI p0)), (7, .long (lN o0.2)), (0, .ref y), (1, .int (nI i)), (2, .int (nI ru)), (3, .int (nI q)), (4, .long d)]) hx hb d_M_chosen_172 hl (k := 3) rfl (nI_1 k) (by decide) rfl (fun ls hl => ?_)
                            refine lv_goto (tgt := 14) hx hb d_M_chosen_175 (by decide) ?_
                            exact ih (k + 1) (some p0) (lN o0.2) _ _ f13 ls H locs (by omega) (by omega) hN (fun p o9 hp h9 => by cases hp; cases OF_uni h9 hf0; rfl) hcp ⟨MK_1, PL_1, AB_1, BE_1, AS_1, FP_1, PC_1, PF_1, PT_1, PU_1, RA_1, KC_1, PK_1, ST_1, DC_1, DY_1, DS_1, SU_1, hvq, hR_1⟩ hP hS (lv_sub hl [0, 4, 5, 6, 7, 8, 9, 10] rfl)
                          · exact absurd c_153 (by decide)
                        · have q_3 : p0 ≠ i := fun z9 => c_124 (by rw [z9])
                          refine lv_iload hx hb d_M_chosen_127 (lv_at hl 3 rfl) ?_
                          refine lv_iload_n hx hb d_M_chosen_129 rfl (lv_at hl 7 rfl) ?_
                          refine lv_icmp_eq (tgt := 144) hx hb d_M_chosen_130 (by decide) (fun c_130 => ?_) (fun c_130 => ?_)
                          · have q_4 : k = i := (nI_eq (by omega) (by omega)).mp c_130
                            have hN : CHr b i ru q d (fun p => p < bN b ∧ p < (k + 1) ∧ (p = i ∨ AL b p i ru)) (some k) := CH_take hCH (fun p hp => by rcases Nat.lt_succ_iff_lt_or_eq.mp hp.2.1 with y9 | y9; exact Or.inl ⟨hp.1, y9, hp.2.2⟩; exact Or.inr y9) hMk hOFk (fun p o9 hp h9 => by cases hp; cases OF_uni h9 hf0; exact Or.inr ⟨q_2, q_3, Or.inl q_4⟩)
                            refine lv_iconst (v := 1) hx hb d_M_chosen_144 (by decide) ?_
                            refine lv_goto (tgt := 149) hx hb d_M_chosen_145 (by decide) ?_
                            refine lv_istore (lv' := [(12, .int 1), (11, .int (nI p1.1)), (10, .int (nI v)), (9, .int (nI k)), (6, .int (nI p0)), (7, .long (lN o0.2)), (0, .ref y), (1, .int (nI i)), (2, .int (nI ru)), (3, .int (nI q)), (4, .long d)]) hx hb d_M_chosen_149 hl (by decide) rfl (fun ls hl => ?_)
                            refine lv_iload hx hb d_M_chosen_151 (lv_at hl 0 rfl) ?_
                            refine lv_if_eq (tgt := 172) hx hb d_M_chosen_153 (by decide) (fun c_153 => ?_) (fun c_153 => ?_)
                            · exact absurd c_153 (by decide)
                            · refine lv_iload hx hb d_M_chosen_156 (lv_at hl 3 rfl) ?_
                              refine lv_istore (lv' := [(6, .int (nI k)), (12, .int 1), (11, .int (nI p1.1)), (10, .int (nI v)), (9, .int (nI k)), (7, .long (lN o0.2)), (0, .ref y), (1, .int (nI i)), (2, .int (nI ru)), (3, .int (nI q)), (4, .long d)]) hx hb d_M_chosen_158 hl (by decide) rfl (fun ls hl => ?_)
                              refine lv_aload_n hx hb d_M_chosen_160 rfl (lv_at hl 6 rfl) ?_
                              refine g_get C i_M hP hvq.1 rfl 22 (by decide) wd_528 rfl rfl d_M_chosen_161 ?_
                              refine lv_lstore (lv' := [(7, .long (lN p1.2)), (6, .int (nI k)), (12, .int 1), (11, .int (nI p1.1)), (10, .int (nI v)), (9, .int (nI k)), (0, .ref y), (1, .int (nI i)), (2, .int (nI ru)), (3, .int (nI q)), (4, .long d)]) hx hb d_M_chosen_164 hl (by decide) rfl (fun ls hl => ?_)
                              refine lv_aload_n hx hb d_M_chosen_166 rfl (lv_at hl 6 rfl) ?_
                              refine lv_iload hx hb d_M_chosen_167 (lv_at hl 3 rfl) ?_
                              refine g_put C i_M t_M t_M_ok n_M hP hS hvq.1 rfl 23 (by decide) wd_529 rfl rfl rfl (rfl) (Nat.le_of_ble_eq_true rfl) d_M_chosen_169 (fun H locs hP hS => ?_)
                              obtain ⟨f16, ef16⟩ : ∃ z99, z99 = va_up f13 y (some (ob 4 [.int th, .int (nI (bN b)), .ref (ca 0), .ref (ca 1), .ref (ca 2), .ref (ca 3), .int (nI (bRc b)), .ref (ca 4), .int (nI (bHc b)), .ref (ca 5), .ref (ca 6), .ref (ca 7), .ref (ca 8), .ref (ca 9), .ref (ca 10), .ref (ca 11), .ref (ca 12), .ref (ca 13), .ref (ca 14), .ref (ca 15), .ref (ca 16), .ref (ca 17), .long (lN p1.2), .int (nI p1.1)])) := ⟨_, rfl⟩
                              replace hP : hH G (hA f s.heap.size) f16 H := by rw [ef16]; exact hP
                              have hv_f16 : mv G f16 y ca th (nI (bN b)) (nI (bRc b)) (nI (bHc b)) (lN p1.2) (nI p1.1) MK_1 PL_1 AB_1 BE_1 AS_1 FP_1 PC_1 PF_1 PT_1 PU_1 RA_1 KC_1 PK_1 ST_1 DC_1 DY_1 DS_1 SU_1 := by rw [ef16]; exact mv_y hvq _ _ _ _ _ _
                              refine lv_iinc (v := nI (k + 1)) (lv' := [(9, .int (nI (k + 1))), (7, .long (lN p1.2)), (6, .int (nI k)), (12, .int 1), (11, .int (nI p1.1)), (10, .int (nI v)), (0, .ref y), (1, .int (nI i)), (2, .int (nI ru)), (3, .int (nI q)), (4, .long d)]) hx hb d_M_chosen_172 hl (k := 5) rfl (nI_1 k) (by decide) rfl (fun ls hl => ?_)
                              refine lv_goto (tgt := 14) hx hb d_M_chosen_175 (by decide) ?_
                              exact ih (k + 1) (some k) (lN p1.2) _ _ f16 ls H locs (by omega) (by omega) hN (fun p o9 hp h9 => by cases hp; cases OF_uni h9 hOFk; rfl) (fun z hz => by cases hz; exact ⟨p1, hB1, rfl⟩) ⟨MK_1, PL_1, AB_1, BE_1, AS_1, FP_1, PC_1, PF_1, PT_1, PU_1, RA_1, KC_1, PK_1, ST_1, DC_1, DY_1, DS_1, SU_1, hv_f16, hR_1⟩ hP hS (lv_sub hl [0, 2, 1, 6, 7, 8, 9, 10] rfl)
                          · have q_4 : k ≠ i := fun z9 => c_130 (by rw [z9])
                            refine lv_aload_n hx hb d_M_chosen_133 rfl (lv_at hl 6 rfl) ?_
                            refine lv_iload hx hb d_M_chosen_134 (lv_at hl 3 rfl) ?_
                            refine lv_iload hx hb d_M_chosen_136 (lv_at hl 4 rfl) ?_
                            refine g_calli (g_runV C hl.1 (ct_M_isAhead f13 y ca b hok th (lN p1.2) cpx ⟨MK_1, PL_1, AB_1, BE_1, AS_1, FP_1, PC_1, PF_1, PT_1, PU_1, RA_1, KC_1, PK_1, ST_1, DC_1, DY_1, DS_1, SU_1, hvq, hR_1⟩ k p0 hkk hp0 _) (cx_V C 2 wd_655 wd_657 wp_20 wd_3 wd_658 rfl rfl (by decide +kernel) ⟨Nat.le_of_ble_eq_true rfl, Nat.le_of_ble_eq_true rfl⟩) hP hvq.1 rfl rfl rfl (Nat.le_of_ble_eq_true rfl) d_M_chosen_138 ⟨Nat.le_of_ble_eq_true rfl, Nat.le_of_ble_eq_true rfl⟩) hP hS hA0 (fun r18 f17 H locs hq hP hS => ?_)
                            obtain ⟨hza, hu⟩ := hq
                            rw [hu] at hP
                            refine lv_if_eq (tgt := 148) hx hb d_M_chosen_141 (by decide) (fun c_141 => ?_) (fun c_141 => ?_)
                            · have hN : CHr b i ru q d (fun p => p < bN b ∧ p < (k + 1) ∧ (p = i ∨ AL b p i ru)) (some p0) := CH_keep hCH hf0 (fun p hp => ⟨hp.1, Nat.lt_succ_of_lt hp.2.1, hp.2.2⟩) (fun p hp => by rcases Nat.lt_succ_iff_lt_or_eq.mp hp.2.1 with y9 | y9; exact Or.inl ⟨hp.1, y9, hp.2.2⟩; exact Or.inr y9) hOFk (Or.inr ⟨q_2.symm, q_4, Or.inr (sb_tot (fun z9 => absurd hm0.2.1 (by omega)) (bz_f hza c_141))⟩)
                              refine lv_iconst (v := 0) hx hb d_M_chosen_148 (by decide) ?_
                              refine lv_istore (lv' := [(12, .int 0), (11, .int (nI p1.1)), (10, .int (nI v)), (9, .int (nI k)), (6, .int (nI p0)), (7, .long (lN o0.2)), (0, .ref y), (1, .int (nI i)), (2, .int (nI ru)), (3, .int (nI q)), (4, .long d)]) hx hb d_M_chosen_149 hl (by decide) rfl (fun ls hl => ?_)
                              refine lv_iload hx hb d_M_chosen_151 (lv_at hl 0 rfl) ?_
                              refine lv_if_eq (tgt := 172) hx hb d_M_chosen_153 (by decide) (fun c_153 => ?_) (fun c_153 => ?_)
                              · refine lv_iinc (v := nI (k + 1)) (lv' := [(9, .int (nI (k + 1))), (12, .int 0), (11, .int (nI p1.1)), (10, .int (nI v)), (6, .int (nI p0)), (7, .long (lN o0.2)), (0, .ref y), (1, .int (nI i)), (2, .int (nI ru)), (3, .int (nI q)), (4, .long d)]) hx hb d_M_chosen_172 hl (k := 3) rfl (nI_1 k) (by decide) rfl (fun ls hl => ?_)
                                refine lv_goto (tgt := 14) hx hb d_M_chosen_175 (by decide) ?_
                                exact ih (k + 1) (some p0) (lN o0.2) _ _ f13 ls H locs (by omega) (by omega) hN (fun p o9 hp h9 => by cases hp; cases OF_uni h9 hf0; rfl) hcp ⟨MK_1, PL_1, AB_1, BE_1, AS_1, FP_1, PC_1, PF_1, PT_1, PU_1, RA_1, KC_1, PK_1, ST_1, DC_1, DY_1, DS_1, SU_1, hvq, hR_1⟩ hP hS (lv_sub hl [0, 4, 5, 6, 7, 8, 9, 10] rfl)
                              · exact absurd c_153 (by decide)
                            · have hN : CHr b i ru q d (fun p => p < bN b ∧ p < (k + 1) ∧ (p = i ∨ AL b p i ru)) (some k) := CH_take hCH (fun p hp => by rcases Nat.lt_succ_iff_lt_or_eq.mp hp.2.1 with y9 | y9; exact Or.inl ⟨hp.1, y9, hp.2.2⟩; exact Or.inr y9) hMk hOFk (fun p o9 hp h9 => by cases hp; cases OF_uni h9 hf0; exact Or.inr ⟨q_2, q_3, Or.inr (bz_t hza c_141)⟩)
                              refine lv_iconst (v := 1) hx hb d_M_chosen_144 (by decide) ?_
                              refine lv_goto (tgt := 149) hx hb d_M_chosen_145 (by decide) ?_
                              refine lv_istore (lv' := [(12, .int 1), (11, .int (nI p1.1)), (10, .int (nI v)), (9, .int (nI k)), (6, .int (nI p0)), (7, .long (lN o0.2)), (0, .ref y), (1, .int (nI i)), (2, .int (nI ru)), (3, .int (nI q)), (4, .long d)]) hx hb d_M_chosen_149 hl (by decide) rfl (fun ls hl => ?_)
                              refine lv_iload hx hb d_M_chosen_151 (lv_at hl 0 rfl) ?_
                              refine lv_if_eq (tgt := 172) hx hb d_M_chosen_153 (by decide) (fun c_153 => ?_) (fun c_153 => ?_)
                              · exact absurd c_153 (by decide)
                              · refine lv_iload hx hb d_M_chosen_156 (lv_at hl 3 rfl) ?_
                                refine lv_istore (lv' := [(6, .int (nI k)), (12, .int 1), (11, .int (nI p1.1)), (10, .int (nI v)), (9, .int (nI k)), (7, .long (lN o0.2)), (0, .ref y), (1, .int (nI i)), (2, .int (nI ru)), (3, .int (nI q)), (4, .long d)]) hx hb d_M_chosen_158 hl (by decide) rfl (fun ls hl => ?_)
                                refine lv_aload_n hx hb d_M_chosen_160 rfl (lv_at hl 6 rfl) ?_
                                refine g_get C i_M hP hvq.1 rfl 22 (by decide) wd_528 rfl rfl d_M_chosen_161 ?_
                                refine lv_lstore (lv' := [(7, .long (lN p1.2)), (6, .int (nI k)), (12, .int 1), (11, .int (nI p1.1)), (10, .int (nI v)), (9, .int (nI k)), (0, .ref y), (1, .int (nI i)), (2, .int (nI ru)), (3, .int (nI q)), (4, .long d)]) hx hb d_M_chosen_164 hl (by decide) rfl (fun ls hl => ?_)
                                refine lv_aload_n hx hb d_M_chosen_166 rfl (lv_at hl 6 rfl) ?_
                                refine lv_iload hx hb d_M_chosen_167 (lv_at hl 3 rfl) ?_
                                refine g_put C i_M t_M t_M_ok n_M hP hS hvq.1 rfl 23 (by decide) wd_529 rfl rfl rfl (rfl) (Nat.le_of_ble_eq_true rfl) d_M_chosen_169 (fun H locs hP hS => ?_)
                                obtain ⟨f19, ef19⟩ : ∃ z99, z99 = va_up f13 y (some (ob 4 [.int th, .int (nI (bN b)), .ref (ca 0), .ref (ca 1), .ref (ca 2), .ref (ca 3), .int (nI (bRc b)), .ref (ca 4), .int (nI (bHc b)), .ref (ca 5), .ref (ca 6), .ref (ca 7), .ref (ca 8), .ref (ca 9), .ref (ca 10), .ref (ca 11), .ref (ca 12), .ref (ca 13), .ref (ca 14), .ref (ca 15), .ref (ca 16), .ref (ca 17), .long (lN p1.2), .int (nI p1.1)])) := ⟨_, rfl⟩
                                replace hP : hH G (hA f s.heap.size) f19 H := by rw [ef19]; exact hP
                                have hv_f19 : mv G f19 y ca th (nI (bN b)) (nI (bRc b)) (nI (bHc b)) (lN p1.2) (nI p1.1) MK_1 PL_1 AB_1 BE_1 AS_1 FP_1 PC_1 PF_1 PT_1 PU_1 RA_1 KC_1 PK_1 ST_1 DC_1 DY_1 DS_1 SU_1 := by rw [ef19]; exact mv_y hvq _ _ _ _ _ _
                                refine lv_iinc (v := nI (k + 1)) (lv' := [(9, .int (nI (k + 1))), (7, .long (lN p1.2)), (6, .int (nI k)), (12, .int 1), (11, .int (nI p1.1)), (10, .int (nI v)), (0, .ref y), (1, .int (nI i)), (2, .int (nI ru)), (3, .int (nI q)), (4, .long d)]) hx hb d_M_chosen_172 hl (k := 5) rfl (nI_1 k) (by decide) rfl (fun ls hl => ?_)
                                refine lv_goto (tgt := 14) hx hb d_M_chosen_175 (by decide) ?_
                                exact ih (k + 1) (some k) (lN p1.2) _ _ f19 ls H locs (by omega) (by omega) hN (fun p o9 hp h9 => by cases hp; cases OF_uni h9 hOFk; rfl) (fun z hz => by cases hz; exact ⟨p1, hB1, rfl⟩) ⟨MK_1, PL_1, AB_1, BE_1, AS_1, FP_1, PC_1, PF_1, PT_1, PU_1, RA_1, KC_1, PK_1, ST_1, DC_1, DY_1, DS_1, SU_1, hv_f19, hR_1⟩ hP hS (lv_sub hl [0, 2, 1, 6, 7, 8, 9, 10] rfl)
                  · have c_96 := fun z => c_96 ((lg_cmp_ge _ _).mpr z)
                    have hN : CHr b i ru q d (fun p => p < bN b ∧ p < (k + 1) ∧ (p = i ∨ AL b p i ru)) (some k) := CH_take hCH (fun p hp => by rcases Nat.lt_succ_iff_lt_or_eq.mp hp.2.1 with y9 | y9; exact Or.inl ⟨hp.1, y9, hp.2.2⟩; exact Or.inr y9) hMk hOFk (fun p o9 hp h9 => by cases hp; cases OF_uni h9 hf0; exact Or.inl ((pk_lLT (by omega) (by omega)).mp (Int64.not_le.mp c_96)))
                    refine lv_iconst (v := 1) hx hb d_M_chosen_99 (by decide) ?_
                    refine lv_goto (tgt := 104) hx hb d_M_chosen_100 (by decide) ?_
                    refine lv_istore (lv' := [(12, .int 1), (11, .int (nI p1.1)), (10, .int (nI v)), (9, .int (nI k)), (6, .int (nI p0)), (7, .long (lN o0.2)), (0, .ref y), (1, .int (nI i)), (2, .int (nI ru)), (3, .int (nI q)), (4, .long d)]) hx hb d_M_chosen_104 hl (by decide) rfl (fun ls hl => ?_)
                    refine lv_iload hx hb d_M_chosen_106 (lv_at hl 0 rfl) ?_
                    refine lv_if_ne (tgt := 151) hx hb d_M_chosen_108 (by decide) (fun c_108 => ?_) (fun c_108 => ?_)
                    · refine lv_iload hx hb d_M_chosen_151 (lv_at hl 0 rfl) ?_
                      refine lv_if_eq (tgt := 172) hx hb d_M_chosen_153 (by decide) (fun c_153 => ?_) (fun c_153 => ?_)
                      · exact absurd c_153 (by decide)
                      · refine lv_iload hx hb d_M_chosen_156 (lv_at hl 3 rfl) ?_
                        refine lv_istore (lv' := [(6, .int (nI k)), (12, .int 1), (11, .int (nI p1.1)), (10, .int (nI v)), (9, .int (nI k)), (7, .long (lN o0.2)), (0, .ref y), (1, .int (nI i)), (2, .int (nI ru)), (3, .int (nI q)), (4, .long d)]) hx hb d_M_chosen_158 hl (by decide) rfl (fun ls hl => ?_)
                        refine lv_aload_n hx hb d_M_chosen_160 rfl (lv_at hl 6 rfl) ?_
                        refine g_get C i_M hP hvq.1 rfl 22 (by decide) wd_528 rfl rfl d_M_chosen_161 ?_
                        refine lv_lstore (lv' := [(7, .long (lN p1.2)), (6, .int (nI k)), (12, .int 1), (11, .int (nI p1.1)), (10, .int (nI v)), (9, .int (nI k)), (0, .ref y), (1, .int (nI i)), (2, .int (nI ru)), (3, .int (nI q)), (4, .long d)]) hx hb d_M_chosen_164 hl (by decide) rfl (fun ls hl => ?_)
                        refine lv_aload_n hx hb d_M_chosen_166 rfl (lv_at hl 6 rfl) ?_
                        refine lv_iload hx hb d_M_chosen_167 (lv_at hl 3 rfl) ?_
                        refine g_put C i_M t_M t_M_ok n_M hP hS hvq.1 rfl 23 (by decide) wd_529 rfl rfl rfl (rfl) (Nat.le_of_ble_eq_true rfl) d_M_chosen_169 (fun H locs hP hS => ?_)
                        obtain ⟨f20, ef20⟩ : ∃ z99, z99 = va_up f13 y (some (ob 4 [.int th, .int (nI (bN b)), .ref (ca 0), .ref (ca 1), .ref (ca 2), .ref (ca 3), .int (nI (bRc b)), .ref (ca 4), .int (nI (bHc b)), .ref (ca 5), .ref (ca 6), .ref (ca 7), .ref (ca 8), .ref (ca 9), .ref (ca 10), .ref (ca 11), .ref (ca 12), .ref (ca 13), .ref (ca 14), .ref (ca 15), .ref (ca 16), .ref (ca 17), .long (lN p1.2), .int (nI p1.1)])) := ⟨_, rfl⟩
                        replace hP : hH G (hA f s.heap.size) f20 H := by rw [ef20]; exact hP
                        have hv_f20 : mv G f20 y ca th (nI (bN b)) (nI (bRc b)) (nI (bHc b)) (lN p1.2) (nI p1.1) MK_1 PL_1 AB_1 BE_1 AS_1 FP_1 PC_1 PF_1 PT_1 PU_1 RA_1 KC_1 PK_1 ST_1 DC_1 DY_1 DS_1 SU_1 := by rw [ef20]; exact mv_y hvq _ _ _ _ _ _
                        refine lv_iinc (v := nI (k + 1)) (lv' := [(9, .int (nI (k + 1))), (7, .long (lN p1.2)), (6, .int (nI k)), (12, .int 1), (11, .int (nI p1.1)), (10, .int (nI v)), (0, .ref y), (1, .int (nI i)), (2, .int (nI ru)), (3, .int (nI q)), (4, .long d)]) hx hb d_M_chosen_172 hl (k := 5) rfl (nI_1 k) (by decide) rfl (fun ls hl => ?_)
                        refine lv_goto (tgt := 14) hx hb d_M_chosen_175 (by decide) ?_
                        exact ih (k + 1) (some k) (lN p1.2) _ _ f20 ls H locs (by omega) (by omega) hN (fun p o9 hp h9 => by cases hp; cases OF_uni h9 hOFk; rfl) (fun z hz => by cases hz; exact ⟨p1, hB1, rfl⟩) ⟨MK_1, PL_1, AB_1, BE_1, AS_1, FP_1, PC_1, PF_1, PT_1, PU_1, RA_1, KC_1, PK_1, ST_1, DC_1, DY_1, DS_1, SU_1, hv_f20, hR_1⟩ hP hS (lv_sub hl [0, 2, 1, 6, 7, 8, 9, 10] rfl)
                    · exact absurd c_108 (by decide)
              · have q_o : o1 = none := oT_m c_77 (fun p hp => by subst hp; obtain ⟨k9, -, hc, -⟩ := hBT; have := hc.2.1; have := (hok.2.1 k hkk).1.2.1; omega)
                have hN : CHr b i ru q d (fun p => p < bN b ∧ p < (k + 1) ∧ (p = i ∨ AL b p i ru)) o := CH_skip hCH (fun p hp => ⟨hp.1, Nat.lt_succ_of_lt hp.2.1, hp.2.2⟩) (fun p hp => by rcases Nat.lt_succ_iff_lt_or_eq.mp hp.2.1 with y9 | y9; exact Or.inl ⟨hp.1, y9, hp.2.2⟩; exact Or.inr y9) (fun hm o9 h9 => by rw [q_o] at hBT; cases OF_uni h9 ⟨v, hsd, Or.inl ⟨hv12, hBT⟩⟩)
                refine lv_goto (tgt := 172) hx hb d_M_chosen_80 (by decide) ?_
                refine lv_iinc (v := nI (k + 1)) (lv' := [(9, .int (nI (k + 1))), (11, .int (oT o1)), (10, .int (nI v)), (6, .int (oP o)), (7, .long L), (0, .ref y), (1, .int (nI i)), (2, .int (nI ru)), (3, .int (nI q)), (4, .long d)]) hx hb d_M_chosen_172 hl (k := 2) rfl (nI_1 k) (by decide) rfl (fun ls hl => ?_)
                refine lv_goto (tgt := 14) hx hb d_M_chosen_175 (by decide) ?_
                exact ih (k + 1) o L _ _ f13 ls H locs (by omega) (by omega) hN hL hcp ⟨MK_1, PL_1, AB_1, BE_1, AS_1, FP_1, PC_1, PF_1, PT_1, PU_1, RA_1, KC_1, PK_1, ST_1, DC_1, DY_1, DS_1, SU_1, hv_1, hR_1⟩ hP hS (lv_sub hl [0, 3, 4, 5, 6, 7, 8, 9] rfl)
            · have hN : CHr b i ru q d (fun p => p < bN b ∧ p < (k + 1) ∧ (p = i ∨ AL b p i ru)) o := CH_skip hCH (fun p hp => ⟨hp.1, Nat.lt_succ_of_lt hp.2.1, hp.2.2⟩) (fun p hp => by rcases Nat.lt_succ_iff_lt_or_eq.mp hp.2.1 with y9 | y9; exact Or.inl ⟨hp.1, y9, hp.2.2⟩; exact Or.inr y9) (fun hm o9 h9 => absurd hm.2.2 (fun z9 => z9.elim hki (bz_f hz c_59)))
              refine lv_goto (tgt := 172) hx hb d_M_chosen_62 (by decide) ?_
              refine lv_iinc (v := nI (k + 1)) (lv' := [(9, .int (nI (k + 1))), (10, .int (nI v)), (6, .int (oP o)), (7, .long L), (0, .ref y), (1, .int (nI i)), (2, .int (nI ru)), (3, .int (nI q)), (4, .long d)]) hx hb d_M_chosen_172 hl (k := 1) rfl (nI_1 k) (by decide) rfl (fun ls hl => ?_)
              refine lv_goto (tgt := 14) hx hb d_M_chosen_175 (by decide) ?_
              exact ih (k + 1) o L _ _ fi ls H locs (by omega) (by omega) hN hL hcp ⟨MK, PL, AB, BE, AS, FP, PC, PF, PT, PU, RA, KC, PK, ST, DC, DY, DS, SU, hvF, hR⟩ hP hS (lv_sub hl [0, 2, 3, 4, 5, 6, 7, 8] rfl)
        · refine lv_iload hx hb d_M_chosen_39 (lv_at hl 0 rfl) ?_
          refine lv_iconst (v := 2) hx hb d_M_chosen_41 (by decide) ?_
          refine lv_icmp_ne (tgt := 172) hx hb d_M_chosen_42 (by decide) (fun c_42 => ?_) (fun c_42 => ?_)
          · have hv12 : ¬ (v = 1 ∨ v = 2) := fun z9 => z9.elim (fun z => c_36 (by rw [z]; rfl)) (fun z => c_42 (by rw [z]; rfl))
            have hN : CHr b i ru q d (fun p => p < bN b ∧ p < (k + 1) ∧ (p = i ∨ AL b p i ru)) o := CH_skip hCH (fun p hp => ⟨hp.1, Nat.lt_succ_of_lt hp.2.1, hp.2.2⟩) (fun p hp => by rcases Nat.lt_succ_iff_lt_or_eq.mp hp.2.1 with y9 | y9; exact Or.inl ⟨hp.1, y9, hp.2.2⟩; exact Or.inr y9) (fun hm o9 h9 => by cases OF_uni h9 ⟨v, hsd, Or.inr ⟨hv12, rfl⟩⟩)
            refine lv_iinc (v := nI (k + 1)) (lv' := [(9, .int (nI (k + 1))), (10, .int (nI v)), (6, .int (oP o)), (7, .long L), (0, .ref y), (1, .int (nI i)), (2, .int (nI ru)), (3, .int (nI q)), (4, .long d)]) hx hb d_M_chosen_172 hl (k := 1) rfl (nI_1 k) (by decide) rfl (fun ls hl => ?_)
            refine lv_goto (tgt := 14) hx hb d_M_chosen_175 (by decide) ?_
            exact ih (k + 1) o L _ _ fi ls H locs (by omega) (by omega) hN hL hcp ⟨MK, PL, AB, BE, AS, FP, PC, PF, PT, PU, RA, KC, PK, ST, DC, DY, DS, SU, hvF, hR⟩ hP hS (lv_sub hl [0, 2, 3, 4, 5, 6, 7, 8] rfl)
          · have hv12 : v = 1 ∨ v = 2 := Or.inr ((nI_eq (b := 2) (by omega) (by decide)).mp c_42)
            refine lv_iload hx hb d_M_chosen_45 (lv_at hl 1 rfl) ?_
            refine lv_iload_n hx hb d_M_chosen_47 rfl (lv_at hl 5 rfl) ?_
            refine lv_icmp_eq (tgt := 65) hx hb d_M_chosen_48 (by decide) (fun c_48 => ?_) (fun c_48 => ?_)
            · have hAL : k = i ∨ AL b k i ru := Or.inl ((nI_eq (by omega) (by omega)).mp c_48)
              refine lv_aload_n hx hb d_M_chosen_65 rfl (lv_at hl 4 rfl) ?_
              refine lv_iload hx hb d_M_chosen_66 (lv_at hl 1 rfl) ?_
              refine lv_iload_n hx hb d_M_chosen_68 rfl (lv_at hl 7 rfl) ?_
              refine g_calli (g_runV C hl.1 (ct_M_bestOf fi y ca b hok th bcx cpx ⟨MK, PL, AB, BE, AS, FP, PC, PF, PT, PU, RA, KC, PK, ST, DC, DY, DS, SU, hvF, hR⟩ k hkk q hq1 hq2 _) (cx_V C 2 wd_693 wd_695 wp_21 wd_3 wd_696 rfl rfl (by decide +kernel) ⟨Nat.le_of_ble_eq_true rfl, Nat.le_of_ble_eq_true rfl⟩) hP hvF.1 rfl rfl rfl (Nat.le_of_ble_eq_true rfl) d_M_chosen_69 ⟨Nat.le_of_ble_eq_true rfl, Nat.le_of_ble_eq_true rfl⟩) hP hS hA0 (fun r22 f21 H locs hq hP hS => ?_)
              obtain ⟨o1, bc2, hBT, rfl, hbc, hm2⟩ := hq
              obtain ⟨MK_1, PL_1, AB_1, BE_1, AS_1, FP_1, PC_1, PF_1, PT_1, PU_1, RA_1, KC_1, PK_1, ST_1, DC_1, DY_1, DS_1, SU_1, hv_10, hR_1⟩ := hm2
              have hv_1 : mv G f21 y ca th (nI (bN b)) (nI (bRc b)) (nI (bHc b)) bc2 cpx MK_1 PL_1 AB_1 BE_1 AS_1 FP_1 PC_1 PF_1 PT_1 PU_1 RA_1 KC_1 PK_1 ST_1 DC_1 DY_1 DS_1 SU_1 := hv_10
              refine lv_istore (lv' := [(11, .int (oT o1)), (10, .int (nI v)), (9, .int (nI k)), (6, .int (oP o)), (7, .long L), (0, .ref y), (1, .int (nI i)), (2, .int (nI ru)), (3, .int (nI q)), (4, .long d)]) hx hb d_M_chosen_72 hl (by decide) rfl (fun ls hl => ?_)
              refine lv_iload hx hb d_M_chosen_74 (lv_at hl 0 rfl) ?_
              refine lv_iconst (v := (-1)) hx hb d_M_chosen_76 (by decide) ?_
              refine lv_icmp_ne (tgt := 83) hx hb d_M_chosen_77 (by decide) (fun c_77 => ?_) (fun c_77 => ?_)
              · obtain ⟨p1, rfl⟩ : ∃ p1, o1 = some p1 := by rcases o1 with _ | p1; exact absurd rfl c_77; exact ⟨p1, rfl⟩
                have hbc1 := hbc p1 rfl
                subst hbc1
                have hvq := hv_1
                have hOFk : OF b k q d (some p1) := ⟨v, hsd, Or.inl ⟨hv12, hBT⟩⟩
                obtain ⟨hB1, hB2, hB3⟩ := OF_lt (hok.2.1 k hkk) hok.2.2.2.2.1 hOFk
                have hp1a : p1.1 < 2 ^ 31 := by have := (hok.2.1 k hkk).1.2.1; omega
                refine lv_iload hx hb d_M_chosen_83 (lv_at hl 3 rfl) ?_
                refine lv_iconst (v := (-1)) hx hb d_M_chosen_85 (by decide) ?_
                refine lv_icmp_eq (tgt := 99) hx hb d_M_chosen_86 (by decide) (fun c_86 => ?_) (fun c_86 => ?_)
                · have q_n : o = none := by rcases o with _ | p0; rfl; exact absurd c_86 (nI_nm1 (by obtain ⟨o9, hm9, -⟩ := hCH; have := hm9.1; omega))
                  have hMk : (fun p => p < bN b ∧ p < (k + 1) ∧ (p = i ∨ AL b p i ru)) k := ⟨hkk, Nat.lt_succ_self k, hAL⟩
                  have hN : CHr b i ru q d (fun p => p < bN b ∧ p < (k + 1) ∧ (p = i ∨ AL b p i ru)) (some k) := CH_take hCH (fun p hp => by rcases Nat.lt_succ_iff_lt_or_eq.mp hp.2.1 with y9 | y9; exact Or.inl ⟨hp.1, y9, hp.2.2⟩; exact Or.inr y9) hMk hOFk (fun p o9 hp h9 => by rw [q_n] at hp; cases hp)
                  refine lv_iconst (v := 1) hx hb d_M_chosen_99 (by decide) ?_
                  refine lv_goto (tgt := 104) hx hb d_M_chosen_100 (by decide) ?_
                  refine lv_istore (lv' := [(12, .int 1), (11, .int (nI p1.1)), (10, .int (nI v)), (9, .int (nI k)), (6, .int (oP o)), (7, .long L), (0, .ref y), (1, .int (nI i)), (2, .int (nI ru)), (3, .int (nI q)), (4, .long d)]) hx hb d_M_chosen_104 hl (by decide) rfl (fun ls hl => ?_)
                  refine lv_iload hx hb d_M_chosen_106 (lv_at hl 0 rfl) ?_
                  refine lv_if_ne (tgt := 151) hx hb d_M_chosen_108 (by decide) (fun c_108 => ?_) (fun c_108 => ?_)
                  · refine lv_iload hx hb d_M_chosen_151 (lv_at hl 0 rfl) ?_
                    refine lv_if_eq (tgt := 172) hx hb d_M_chosen_153 (by decide) (fun c_153 => ?_) (fun c_153 => ?_)
                    · exact absurd c_153 (by decide)
                    · refine lv_iload hx hb d_M_chosen_156 (lv_at hl 3 rfl) ?_
                      refine lv_istore (lv' := [(6, .int (nI k)), (12, .int 1), (11, .int (nI p1.1)), (10, .int (nI v)), (9, .int (nI k)), (7, .long L), (0, .ref y), (1, .int (nI i)), (2, .int (nI ru)), (3, .int (nI q)), (4, .long d)]) hx hb d_M_chosen_158 hl (by decide) rfl (fun ls hl => ?_)
                      refine lv_aload_n hx hb d_M_chosen_160 rfl (lv_at hl 6 rfl) ?_
                      refine g_get C i_M hP hvq.1 rfl 22 (by decide) wd_528 rfl rfl d_M_chosen_161 ?_
                      refine lv_lstore (lv' := [(7, .long (lN p1.2)), (6, .int (nI k)), (12, .int 1), (11, .int (nI p1.1)), (10, .int (nI v)), (9, .int (nI k)), (0, .ref y), (1, .int (nI i)), (2, .int (nI ru)), (3, .int (nI q)), (4, .long d)]) hx hb d_M_chosen_164 hl (by decide) rfl (fun ls hl => ?_)
                      refine lv_aload_n hx hb d_M_chosen_166 rfl (lv_at hl 6 rfl) ?_
                      refine lv_iload hx hb d_M_chosen_167 (lv_at hl 3 rfl) ?_
                      refine g_put C i_M t_M t_M_ok n_M hP hS hvq.1 rfl 23 (by decide) wd_529 rfl rfl rfl (rfl) (Nat.le_of_ble_eq_true rfl) d_M_chosen_169 (fun H locs hP hS => ?_)
                      obtain ⟨f23, ef23⟩ : ∃ z99, z99 = va_up f21 y (some (ob 4 [.int th, .int (nI (bN b)), .ref (ca 0), .ref (ca 1), .ref (ca 2), .ref (ca 3), .int (nI (bRc b)), .ref (ca 4), .int (nI (bHc b)), .ref (ca 5), .ref (ca 6), .ref (ca 7), .ref (ca 8), .ref (ca 9), .ref (ca 10), .ref (ca 11), .ref (ca 12), .ref (ca 13), .ref (ca 14), .ref (ca 15), .ref (ca 16), .ref (ca 17), .long (lN p1.2), .int (nI p1.1)])) := ⟨_, rfl⟩
                      replace hP : hH G (hA f s.heap.size) f23 H := by rw [ef23]; exact hP
                      have hv_f23 : mv G f23 y ca th (nI (bN b)) (nI (bRc b)) (nI (bHc b)) (lN p1.2) (nI p1.1) MK_1 PL_1 AB_1 BE_1 AS_1 FP_1 PC_1 PF_1 PT_1 PU_1 RA_1 KC_1 PK_1 ST_1 DC_1 DY_1 DS_1 SU_1 := by rw [ef23]; exact mv_y hvq _ _ _ _ _ _
                      refine lv_iinc (v := nI (k + 1)) (lv' := [(9, .int (nI (k + 1))), (7, .long (lN p1.2)), (6, .int (nI k)), (12, .int 1), (11, .int (nI p1.1)), (10, .int (nI v)), (0, .ref y), (1, .int (nI i)), (2, .int (nI ru)), (3, .int (nI q)), (4, .long d)]) hx hb d_M_chosen_172 hl (k := 5) rfl (nI_1 k) (by decide) rfl (fun ls hl => ?_)
                      refine lv_goto (tgt := 14) hx hb d_M_chosen_175 (by decide) ?_
                      exact ih (k + 1) (some k) (lN p1.2) _ _ f23 ls H locs (by omega) (by omega) hN (fun p o9 hp h9 => by cases hp; cases OF_uni h9 hOFk; rfl) (fun z hz => by cases hz; exact ⟨p1, hB1, rfl⟩) ⟨MK_1, PL_1, AB_1, BE_1, AS_1, FP_1, PC_1, PF_1, PT_1, PU_1, RA_1, KC_1, PK_1, ST_1, DC_1, DY_1, DS_1, SU_1, hv_f23, hR_1⟩ hP hS (lv_sub hl [0, 2, 1, 6, 7, 8, 9, 10] rfl)
                  · exact absurd c_108 (by decide)
                · obtain ⟨p0, rfl⟩ : ∃ p0, o = some p0 := by rcases o with _ | p0; exact absurd rfl c_86; exact ⟨p0, rfl⟩
                  have hCH0 := hCH
                  obtain ⟨o0, hm0, hf0, -⟩ := hCH0
                  have hp0 : p0 < bN b := hm0.1
                  have hL1 := hL p0 o0 rfl hf0
                  subst hL1
                  have hB4 := (OF_lt (hok.2.1 p0 hp0) hok.2.2.2.2.1 hf0).2.1
                  have hMk : (fun p => p < bN b ∧ p < (k + 1) ∧ (p = i ∨ AL b p i ru)) k := ⟨hkk, Nat.lt_succ_self k, hAL⟩
                  refine lv_aload_n hx hb d_M_chosen_89 rfl (lv_at hl 5 rfl) ?_
                  refine g_get C i_M hP hvq.1 rfl 22 (by decide) wd_528 rfl rfl d_M_chosen_90 ?_
                  refine lv_lload hx hb d_M_chosen_93 (lv_at hl 4 rfl) ?_
                  refine W.lcmp hx hb d_M_chosen_95 ?_
                  refine lv_if_ge (tgt := 103) hx hb d_M_chosen_96 (by decide) (fun c_96 => ?_) (fun c_96 => ?_)
                  · have c_96 := (lg_cmp_ge _ _).mp c_96
                    have q_96 : o0.2 ≤ p1.2 := (pk_lLE (by omega) (by omega)).mp c_96
                    refine lv_iconst (v := 0) hx hb d_M_chosen_103 (by decide) ?_
                    refine lv_istore (lv' := [(12, .int 0), (11, .int (nI p1.1)), (10, .int (nI v)), (9, .int (nI k)), (6, .int (nI p0)), (7, .long (lN o0.2)), (0, .ref y), (1, .int (nI i)), (2, .int (nI ru)), (3, .int (nI q)), (4, .long d)]) hx hb d_M_chosen_104 hl (by decide) rfl (fun ls hl => ?_)
                    refine lv_iload hx hb d_M_chosen_106 (lv_at hl 0 rfl) ?_
                    refine lv_if_ne (tgt := 151) hx hb d_M_chosen_108 (by decide) (fun c_108 => ?_) (fun c_108 => ?_)
                    · exact absurd c_108 (by decide)
                    · refine lv_aload_n hx hb d_M_chosen_111 rfl (lv_at hl 6 rfl) ?_
                      refine g_get C i_M hP hvq.1 rfl 22 (by decide) wd_528 rfl rfl d_M_chosen_112 ?_
                      refine lv_lload hx hb d_M_chosen_115 (lv_at hl 5 rfl) ?_
                      refine W.lcmp hx hb d_M_chosen_117 ?_
                      refine lv_if_ne (tgt := 151) hx hb d_M_chosen_118 (by decide) (fun c_118 => ?_) (fun c_118 => ?_)
                      · have c_118 := fun z => c_118 ((lg_cmp_eq _ _).mpr z)
                        have hN : CHr b i ru q d (fun p => p < bN b ∧ p < (k + 1) ∧ (p = i ∨ AL b p i ru)) (some p0) := CH_keep hCH hf0 (fun p hp => ⟨hp.1, Nat.lt_succ_of_lt hp.2.1, hp.2.2⟩) (fun p hp => by rcases Nat.lt_succ_iff_lt_or_eq.mp hp.2.1 with y9 | y9; exact Or.inl ⟨hp.1, y9, hp.2.2⟩; exact Or.inr y9) hOFk (Or.inl (by have h8 : p1.2 ≠ o0.2 := fun z => c_118 (by rw [z]); omega))
                        refine lv_iload hx hb d_M_chosen_151 (lv_at hl 0 rfl) ?_
                        refine lv_if_eq (tgt := 172) hx hb d_M_chosen_153 (by decide) (fun c_153 => ?_) (fun c_153 => ?_)
                        · refine lv_iinc (v := nI (k + 1)) (lv' := [(9, .int (nI (k + 1))), (12, .int 0), (11, .int (nI p1.1)), (10, .int (nI v)), (6, .int (nI p0)), (7, .long (lN o0.2)), (0, .ref y), (1, .int (nI i)), (2, .int (nI ru)), (3, .int (nI q)), (4, .long d)]) hx hb d_M_chosen_172 hl (k := 3) rfl (nI_1 k) (by decide) rfl (fun ls hl => ?_)
                          refine lv_goto (tgt := 14) hx hb d_M_chosen_175 (by decide) ?_
                          exact ih (k + 1) (some p0) (lN o0.2) _ _ f21 ls H locs (by omega) (by omega) hN (fun p o9 hp h9 => by cases hp; cases OF_uni h9 hf0; rfl) hcp ⟨MK_1, PL_1, AB_1, BE_1, AS_1, FP_1, PC_1, PF_1, PT_1, PU_1, RA_1, KC_1, PK_1, ST_1, DC_1, DY_1, DS_1, SU_1, hvq, hR_1⟩ hP hS (lv_sub hl [0, 4, 5, 6, 7, 8, 9, 10] rfl)
                        · exact absurd c_153 (by decide)
                      · have c_118 := (lg_cmp_eq _ _).mp c_118
                        have q_2 : p1.2 = o0.2 := (pk_lEQ (by omega) (by omega)).mp c_118
                        refine lv_iload hx hb d_M_chosen_121 (lv_at hl 4 rfl) ?_
                        refine lv_iload_n hx hb d_M_chosen_123 rfl (lv_at hl 7 rfl) ?_
                        refine lv_icmp_eq (tgt := 148) hx hb d_M_chosen_124 (by decide) (fun c_124 => ?_) (fun c_124 => ?_)
                        · have q_3 : p0 = i := (nI_eq (by omega) (by omega)).mp c_124
                          have hN : CHr b i ru q d (fun p => p < bN b ∧ p < (k + 1) ∧ (p = i ∨ AL b p i ru)) (some p0) := CH_keep hCH hf0 (fun p hp => ⟨hp.1, Nat.lt_succ_of_lt hp.2.1, hp.2.2⟩) (fun p hp => by rcases Nat.lt_succ_iff_lt_or_eq.mp hp.2.1 with y9 | y9; exact Or.inl ⟨hp.1, y9, hp.2.2⟩; exact Or.inr y9) hOFk (Or.inr ⟨q_2.symm, fun z9 => absurd hm0.2.1 (by omega), Or.inl q_3⟩)
                          refine lv_iconst (v := 0) hx hb d_M_chosen_148 (by decide) ?_
                          refine lv_istore (lv' := [(12, .int 0), (11, .int (nI p1.1)), (10, .int (nI v)), (9, .int (nI k)), (6, .int (nI p0)), (7, .long (lN o0.2)), (0, .ref y), (1, .int (nI i)), (2, .int (nI ru)), (3, .int (nI q)), (4, .long d)]) hx hb d_M_chosen_149 hl (by decide) rfl (fun ls hl => ?_)
                          refine lv_iload hx hb d_M_chosen_151 (lv_at hl 0 rfl) ?_
                          refine lv_if_eq (tgt := 172) hx hb d_M_chosen_153 (by decide) (fun c_153 => ?_) (fun c_153 => ?_)
                          · refine lv_iinc (v := nI (k + 1)) (lv' := [(9, .int (nI (k + 1))), (12, .int 0), (11, .int (nI p1.1)), (10, .int (nI v)), (6, .int (nI p0)), (7, .long (lN o0.2)), (0, .ref y), (1, .int (nI i)), (2, .int (nI ru)), (3, .int (nI q)), (4, .long d)]) hx hb d_M_chosen_172 hl (k := 3) rfl (nI_1 k) (by decide) rfl (fun ls hl => ?_)
                            refine lv_goto (tgt := 14) hx hb d_M_chosen_175 (by decide) ?_
                            exact ih (k + 1) (some p0) (lN o0.2) _ _ f21 ls H locs (by omega) (by omega) hN (fun p o9 hp h9 => by cases hp; cases OF_uni h9 hf0; rfl) hcp ⟨MK_1, PL_1, AB_1, BE_1, AS_1, FP_1, PC_1, PF_1, PT_1, PU_1, RA_1, KC_1, PK_1, ST_1, DC_1, DY_1, DS_1, SU_1, hvq, hR_1⟩ hP hS (lv_sub hl [0, 4, 5, 6, 7, 8, 9, 10] rfl)
                          · exact absurd c_153 (by decide)
                        · have q_3 : p0 ≠ i := fun z9 => c_124 (by rw [z9])
                          refine lv_iload hx hb d_M_chosen_127 (lv_at hl 3 rfl) ?_
                          refine lv_iload_n hx hb d_M_chosen_129 rfl (lv_at hl 7 rfl) ?_
                          refine lv_icmp_eq (tgt := 144) hx hb d_M_chosen_130 (by decide) (fun c_130 => ?_) (fun c_130 => ?_)
                          · have q_4 : k = i := (nI_eq (by omega) (by omega)).mp c_130
                            have hN : CHr b i ru q d (fun p => p < bN b ∧ p < (k + 1) ∧ (p = i ∨ AL b p i ru)) (some k) := CH_take hCH (fun p hp => by rcases Nat.lt_succ_iff_lt_or_eq.mp hp.2.1 with y9 | y9; exact Or.inl ⟨hp.1, y9, hp.2.2⟩; exact Or.inr y9) hMk hOFk (fun p o9 hp h9 => by cases hp; cases OF_uni h9 hf0; exact Or.inr ⟨q_2, q_3, Or.inl q_4⟩)
                            refine lv_iconst (v := 1) hx hb d_M_chosen_144 (by decide) ?_
                            refine lv_goto (tgt := 149) hx hb d_M_chosen_145 (by decide) ?_
                            refine lv_istore (lv' := [(12, .int 1), (11, .int (nI p1.1)), (10, .int (nI v)), (9, .int (nI k)), (6, .int (nI p0)), (7, .long (lN o0.2)), (0, .ref y), (1, .int (nI i)), (2, .int (nI ru)), (3, .int (nI q)), (4, .long d)]) hx hb d_M_chosen_149 hl (by decide) rfl (fun ls hl => ?_)
                            refine lv_iload hx hb d_M_chosen_151 (lv_at hl 0 rfl) ?_
                            refine lv_if_eq (tgt := 172) hx hb d_M_chosen_153 (by decide) (fun c_153 => ?_) (fun c_153 => ?_)
                            · exact absurd c_153 (by decide)
                            · refine lv_iload hx hb d_M_chosen_156 (lv_at hl 3 rfl) ?_
                              refine lv_istore (lv' := [(6, .int (nI k)), (12, .int 1), (11, .int (nI p1.1)), (10, .int (nI v)), (9, .int (nI k)), (7, .long (lN o0.2)), (0, .ref y), (1, .int (nI i)), (2, .int (nI ru)), (3, .int (nI q)), (4, .long d)]) hx hb d_M_chosen_158 hl (by decide) rfl (fun ls hl => ?_)
                              refine lv_aload_n hx hb d_M_chosen_160 rfl (lv_at hl 6 rfl) ?_
                              refine g_get C i_M hP hvq.1 rfl 22 (by decide) wd_528 rfl rfl d_M_chosen_161 ?_
                              refine lv_lstore (lv' := [(7, .long (lN p1.2)), (6, .int (nI k)), (12, .int 1), (11, .int (nI p1.1)), (10, .int (nI v)), (9, .int (nI k)), (0, .ref y), (1, .int (nI i)), (2, .int (nI ru)), (3, .int (nI q)), (4, .long d)]) hx hb d_M_chosen_164 hl (by decide) rfl (fun ls hl => ?_)
                              refine lv_aload_n hx hb d_M_chosen_166 rfl (lv_at hl 6 rfl) ?_
                              refine lv_iload hx hb d_M_chosen_167 (lv_at hl 3 rfl) ?_
                              refine g_put C i_M t_M t_M_ok n_M hP hS hvq.1 rfl 23 (by decide) wd_529 rfl rfl rfl (rfl) (Nat.le_of_ble_eq_true rfl) d_M_chosen_169 (fun H locs hP hS => ?_)
                              obtain ⟨f24, ef24⟩ : ∃ z99, z99 = va_up f21 y (some (ob 4 [.int th, .int (nI (bN b)), .ref (ca 0), .ref (ca 1), .ref (ca 2), .ref (ca 3), .int (nI (bRc b)), .ref (ca 4), .int (nI (bHc b)), .ref (ca 5), .ref (ca 6), .ref (ca 7), .ref (ca 8), .ref (ca 9), .ref (ca 10), .ref (ca 11), .ref (ca 12), .ref (ca 13), .ref (ca 14), .ref (ca 15), .ref (ca 16), .ref (ca 17), .long (lN p1.2), .int (nI p1.1)])) := ⟨_, rfl⟩
                              replace hP : hH G (hA f s.heap.size) f24 H := by rw [ef24]; exact hP
                              have hv_f24 : mv G f24 y ca th (nI (bN b)) (nI (bRc b)) (nI (bHc b)) (lN p1.2) (nI p1.1) MK_1 PL_1 AB_1 BE_1 AS_1 FP_1 PC_1 PF_1 PT_1 PU_1 RA_1 KC_1 PK_1 ST_1 DC_1 DY_1 DS_1 SU_1 := by rw [ef24]; exact mv_y hvq _ _ _ _ _ _
                              refine lv_iinc (v := nI (k + 1)) (lv' := [(9, .int (nI (k + 1))), (7, .long (lN p1.2)), (6, .int (nI k)), (12, .int 1), (11, .int (nI p1.1)), (10, .int (nI v)), (0, .ref y), (1, .int (nI i)), (2, .int (nI ru)), (3, .int (nI q)), (4, .long d)]) hx hb d_M_chosen_172 hl (k := 5) rfl (nI_1 k) (by decide) rfl (fun ls hl => ?_)
                              refine lv_goto (tgt := 14) hx hb d_M_chosen_175 (by decide) ?_
                              exact ih (k + 1) (some k) (lN p1.2) _ _ f24 ls H locs (by omega) (by omega) hN (fun p o9 hp h9 => by cases hp; cases OF_uni h9 hOFk; rfl) (fun z hz => by cases hz; exact ⟨p1, hB1, rfl⟩) ⟨MK_1, PL_1, AB_1, BE_1, AS_1, FP_1, PC_1, PF_1, PT_1, PU_1, RA_1, KC_1, PK_1, ST_1, DC_1, DY_1, DS_1, SU_1, hv_f24, hR_1⟩ hP hS (lv_sub hl [0, 2, 1, 6, 7, 8, 9, 10] rfl)
                          · have q_4 : k ≠ i := fun z9 => c_130 (by rw [z9])
                            refine lv_aload_n hx hb d_M_chosen_133 rfl (lv_at hl 6 rfl) ?_
                            refine lv_iload hx hb d_M_chosen_134 (lv_at hl 3 rfl) ?_
                            refine lv_iload hx hb d_M_chosen_136 (lv_at hl 4 rfl) ?_
                            refine g_calli (g_runV C hl.1 (ct_M_isAhead f21 y ca b hok th (lN p1.2) cpx ⟨MK_1, PL_1, AB_1, BE_1, AS_1, FP_1, PC_1, PF_1, PT_1, PU_1, RA_1, KC_1, PK_1, ST_1, DC_1, DY_1, DS_1, SU_1, hvq, hR_1⟩ k p0 hkk hp0 _) (cx_V C 2 wd_655 wd_657 wp_20 wd_3 wd_658 rfl rfl (by decide +kernel) ⟨Nat.le_of_ble_eq_true rfl, Nat.le_of_ble_eq_true rfl⟩) hP hvq.1 rfl rfl rfl (Nat.le_of_ble_eq_true rfl) d_M_chosen_138 ⟨Nat.le_of_ble_eq_true rfl, Nat.le_of_ble_eq_true rfl⟩) hP hS hA0 (fun r26 f25 H locs hq hP hS => ?_)
                            obtain ⟨hza, hu⟩ := hq
                            rw [hu] at hP
                            refine lv_if_eq (tgt := 148) hx hb d_M_chosen_141 (by decide) (fun c_141 => ?_) (fun c_141 => ?_)
                            · have hN : CHr b i ru q d (fun p => p < bN b ∧ p < (k + 1) ∧ (p = i ∨ AL b p i ru)) (some p0) := CH_keep hCH hf0 (fun p hp => ⟨hp.1, Nat.lt_succ_of_lt hp.2.1, hp.2.2⟩) (fun p hp => by rcases Nat.lt_succ_iff_lt_or_eq.mp hp.2.1 with y9 | y9; exact Or.inl ⟨hp.1, y9, hp.2.2⟩; exact Or.inr y9) hOFk (Or.inr ⟨q_2.symm, q_4, Or.inr (sb_tot (fun z9 => absurd hm0.2.1 (by omega)) (bz_f hza c_141))⟩)
                              refine lv_iconst (v := 0) hx hb d_M_chosen_148 (by decide) ?_
                              refine lv_istore (lv' := [(12, .int 0), (11, .int (nI p1.1)), (10, .int (nI v)), (9, .int (nI k)), (6, .int (nI p0)), (7, .long (lN o0.2)), (0, .ref y), (1, .int (nI i)), (2, .int (nI ru)), (3, .int (nI q)), (4, .long d)]) hx hb d_M_chosen_149 hl (by decide) rfl (fun ls hl => ?_)
                              refine lv_iload hx hb d_M_chosen_151 (lv_at hl 0 rfl) ?_
                              refine lv_if_eq (tgt := 172) hx hb d_M_chosen_153 (by decide) (fun c_153 => ?_) (fun c_153 => ?_)
                              · refine lv_iinc (v := nI (k + 1)) (lv' := [(9, .int (nI (k + 1))), (12, .int 0), (11, .int (nI p1.1)), (10, .int (nI v)), (6, .int (nI p0)), (7, .long (lN o0.2)), (0, .ref y), (1, .int (nI i)), (2, .int (nI ru)), (3, .int (nI q)), (4, .long d)]) hx hb d_M_chosen_172 hl (k := 3) rfl (nI_1 k) (by decide) rfl (fun ls hl => ?_)
                                refine lv_goto (tgt := 14) hx hb d_M_chosen_175 (by decide) ?_
                                exact ih (k + 1) (some p0) (lN o0.2) _ _ f21 ls H locs (by omega) (by omega) hN (fun p o9 hp h9 => by cases hp; cases OF_uni h9 hf0; rfl) hcp ⟨MK_1, PL_1, AB_1, BE_1, AS_1, FP_1, PC_1, PF_1, PT_1, PU_1, RA_1, KC_1, PK_1, ST_1, DC_1, DY_1, DS_1, SU_1, hvq, hR_1⟩ hP hS (lv_sub hl [0, 4, 5, 6, 7, 8, 9, 10] rfl)
                              · exact absurd c_153 (by decide)
                            · have hN : CHr b i ru q d (fun p => p < bN b ∧ p < (k + 1) ∧ (p = i ∨ AL b p i ru)) (some k) := CH_take hCH (fun p hp => by rcases Nat.lt_succ_iff_lt_or_eq.mp hp.2.1 with y9 | y9; exact Or.inl ⟨hp.1, y9, hp.2.2⟩; exact Or.inr y9) hMk hOFk (fun p o9 hp h9 => by cases hp; cases OF_uni h9 hf0; exact Or.inr ⟨q_2, q_3, Or.inr (bz_t hza c_141)⟩)
                              refine lv_iconst (v := 1) hx hb d_M_chosen_144 (by decide) ?_
                              refine lv_goto (tgt := 149) hx hb d_M_chosen_145 (by decide) ?_
                              refine lv_istore (lv' := [(12, .int 1), (11, .int (nI p1.1)), (10, .int (nI v)), (9, .int (nI k)), (6, .int (nI p0)), (7, .long (lN o0.2)), (0, .ref y), (1, .int (nI i)), (2, .int (nI ru)), (3, .int (nI q)), (4, .long d)]) hx hb d_M_chosen_149 hl (by decide) rfl (fun ls hl => ?_)
                              refine lv_iload hx hb d_M_chosen_151 (lv_at hl 0 rfl) ?_
                              refine lv_if_eq (tgt := 172) hx hb d_M_chosen_153 (by decide) (fun c_153 => ?_) (fun c_153 => ?_)
                              · exact absurd c_153 (by decide)
                              · refine lv_iload hx hb d_M_chosen_156 (lv_at hl 3 rfl) ?_
                                refine lv_istore (lv' := [(6, .int (nI k)), (12, .int 1), (11, .int (nI p1.1)), (10, .int (nI v)), (9, .int (nI k)), (7, .long (lN o0.2)), (0, .ref y), (1, .int (nI i)), (2, .int (nI ru)), (3, .int (nI q)), (4, .long d)]) hx hb d_M_chosen_158 hl (by decide) rfl (fun ls hl => ?_)
                                refine lv_aload_n hx hb d_M_chosen_160 rfl (lv_at hl 6 rfl) ?_
                                refine g_get C i_M hP hvq.1 rfl 22 (by decide) wd_528 rfl rfl d_M_chosen_161 ?_
                                refine lv_lstore (lv' := [(7, .long (lN p1.2)), (6, .int (nI k)), (12, .int 1), (11, .int (nI p1.1)), (10, .int (nI v)), (9, .int (nI k)), (0, .ref y), (1, .int (nI i)), (2, .int (nI ru)), (3, .int (nI q)), (4, .long d)]) hx hb d_M_chosen_164 hl (by decide) rfl (fun ls hl => ?_)
                                refine lv_aload_n hx hb d_M_chosen_166 rfl (lv_at hl 6 rfl) ?_
                                refine lv_iload hx hb d_M_chosen_167 (lv_at hl 3 rfl) ?_
                                refine g_put C i_M t_M t_M_ok n_M hP hS hvq.1 rfl 23 (by decide) wd_529 rfl rfl rfl (rfl) (Nat.le_of_ble_eq_true rfl) d_M_chosen_169 (fun H locs hP hS => ?_)
                                obtain ⟨f27, ef27⟩ : ∃ z99, z99 = va_up f21 y (some (ob 4 [.int th, .int (nI (bN b)), .ref (ca 0), .ref (ca 1), .ref (ca 2), .ref (ca 3), .int (nI (bRc b)), .ref (ca 4), .int (nI (bHc b)), .ref (ca 5), .ref (ca 6), .ref (ca 7), .ref (ca 8), .ref (ca 9), .ref (ca 10), .ref (ca 11), .ref (ca 12), .ref (ca 13), .ref (ca 14), .ref (ca 15), .ref (ca 16), .ref (ca 17), .long (lN p1.2), .int (nI p1.1)])) := ⟨_, rfl⟩
                                replace hP : hH G (hA f s.heap.size) f27 H := by rw [ef27]; exact hP
                                have hv_f27 : mv G f27 y ca th (nI (bN b)) (nI (bRc b)) (nI (bHc b)) (lN p1.2) (nI p1.1) MK_1 PL_1 AB_1 BE_1 AS_1 FP_1 PC_1 PF_1 PT_1 PU_1 RA_1 KC_1 PK_1 ST_1 DC_1 DY_1 DS_1 SU_1 := by rw [ef27]; exact mv_y hvq _ _ _ _ _ _
                                refine lv_iinc (v := nI (k + 1)) (lv' := [(9, .int (nI (k + 1))), (7, .long (lN p1.2)), (6, .int (nI k)), (12, .int 1), (11, .int (nI p1.1)), (10, .int (nI v)), (0, .ref y), (1, .int (nI i)), (2, .int (nI ru)), (3, .int (nI q)), (4, .long d)]) hx hb d_M_chosen_172 hl (k := 5) rfl (nI_1 k) (by decide) rfl (fun ls hl => ?_)
                                refine lv_goto (tgt := 14) hx hb d_M_chosen_175 (by decide) ?_
                                exact ih (k + 1) (some k) (lN p1.2) _ _ f27 ls H locs (by omega) (by omega) hN (fun p o9 hp h9 => by cases hp; cases OF_uni h9 hOFk; rfl) (fun z hz => by cases hz; exact ⟨p1, hB1, rfl⟩) ⟨MK_1, PL_1, AB_1, BE_1, AS_1, FP_1, PC_1, PF_1, PT_1, PU_1, RA_1, KC_1, PK_1, ST_1, DC_1, DY_1, DS_1, SU_1, hv_f27, hR_1⟩ hP hS (lv_sub hl [0, 2, 1, 6, 7, 8, 9, 10] rfl)
                  · have c_96 := fun z => c_96 ((lg_cmp_ge _ _).mpr z)
                    have hN : CHr b i ru q d (fun p => p < bN b ∧ p < (k + 1) ∧ (p = i ∨ AL b p i ru)) (some k) := CH_take hCH (fun p hp => by rcases Nat.lt_succ_iff_lt_or_eq.mp hp.2.1 with y9 | y9; exact Or.inl ⟨hp.1, y9, hp.2.2⟩; exact Or.inr y9) hMk hOFk (fun p o9 hp h9 => by cases hp; cases OF_uni h9 hf0; exact Or.inl ((pk_lLT (by omega) (by omega)).mp (Int64.not_le.mp c_96)))
                    refine lv_iconst (v := 1) hx hb d_M_chosen_99 (by decide) ?_
                    refine lv_goto (tgt := 104) hx hb d_M_chosen_100 (by decide) ?_
                    refine lv_istore (lv' := [(12, .int 1), (11, .int (nI p1.1)), (10, .int (nI v)), (9, .int (nI k)), (6, .int (nI p0)), (7, .long (lN o0.2)), (0, .ref y), (1, .int (nI i)), (2, .int (nI ru)), (3, .int (nI q)), (4, .long d)]) hx hb d_M_chosen_104 hl (by decide) rfl (fun ls hl => ?_)
                    refine lv_iload hx hb d_M_chosen_106 (lv_at hl 0 rfl) ?_
                    refine lv_if_ne (tgt := 151) hx hb d_M_chosen_108 (by decide) (fun c_108 => ?_) (fun c_108 => ?_)
                    · refine lv_iload hx hb d_M_chosen_151 (lv_at hl 0 rfl) ?_
                      refine lv_if_eq (tgt := 172) hx hb d_M_chosen_153 (by decide) (fun c_153 => ?_) (fun c_153 => ?_)
                      · exact absurd c_153 (by decide)
                      · refine lv_iload hx hb d_M_chosen_156 (lv_at hl 3 rfl) ?_
                        refine lv_istore (lv' := [(6, .int (nI k)), (12, .int 1), (11, .int (nI p1.1)), (10, .int (nI v)), (9, .int (nI k)), (7, .long (lN o0.2)), (0, .ref y), (1, .int (nI i)), (2, .int (nI ru)), (3, .int (nI q)), (4, .long d)]) hx hb d_M_chosen_158 hl (by decide) rfl (fun ls hl => ?_)
                        refine lv_aload_n hx hb d_M_chosen_160 rfl (lv_at hl 6 rfl) ?_
                        refine g_get C i_M hP hvq.1 rfl 22 (by decide) wd_528 rfl rfl d_M_chosen_161 ?_
                        refine lv_lstore (lv' := [(7, .long (lN p1.2)), (6, .int (nI k)), (12, .int 1), (11, .int (nI p1.1)), (10, .int (nI v)), (9, .int (nI k)), (0, .ref y), (1, .int (nI i)), (2, .int (nI ru)), (3, .int (nI q)), (4, .long d)]) hx hb d_M_chosen_164 hl (by decide) rfl (fun ls hl => ?_)
                        refine lv_aload_n hx hb d_M_chosen_166 rfl (lv_at hl 6 rfl) ?_
                        refine lv_iload hx hb d_M_chosen_167 (lv_at hl 3 rfl) ?_
                        refine g_put C i_M t_M t_M_ok n_M hP hS hvq.1 rfl 23 (by decide) wd_529 rfl rfl rfl (rfl) (Nat.le_of_ble_eq_true rfl) d_M_chosen_169 (fun H locs hP hS => ?_)
                        obtain ⟨f28, ef28⟩ : ∃ z99, z99 = va_up f21 y (some (ob 4 [.int th, .int (nI (bN b)), .ref (ca 0), .ref (ca 1), .ref (ca 2), .ref (ca 3), .int (nI (bRc b)), .ref (ca 4), .int (nI (bHc b)), .ref (ca 5), .ref (ca 6), .ref (ca 7), .ref (ca 8), .ref (ca 9), .ref (ca 10), .ref (ca 11), .ref (ca 12), .ref (ca 13), .ref (ca 14), .ref (ca 15), .ref (ca 16), .ref (ca 17), .long (lN p1.2), .int (nI p1.1)])) := ⟨_, rfl⟩
                        replace hP : hH G (hA f s.heap.size) f28 H := by rw [ef28]; exact hP
                        have hv_f28 : mv G f28 y ca th (nI (bN b)) (nI (bRc b)) (nI (bHc b)) (lN p1.2) (nI p1.1) MK_1 PL_1 AB_1 BE_1 AS_1 FP_1 PC_1 PF_1 PT_1 PU_1 RA_1 KC_1 PK_1 ST_1 DC_1 DY_1 DS_1 SU_1 := by rw [ef28]; exact mv_y hvq _ _ _ _ _ _
                        refine lv_iinc (v := nI (k + 1)) (lv' := [(9, .int (nI (k + 1))), (7, .long (lN p1.2)), (6, .int (nI k)), (12, .int 1), (11, .int (nI p1.1)), (10, .int (nI v)), (0, .ref y), (1, .int (nI i)), (2, .int (nI ru)), (3, .int (nI q)), (4, .long d)]) hx hb d_M_chosen_172 hl (k := 5) rfl (nI_1 k) (by decide) rfl (fun ls hl => ?_)
                        refine lv_goto (tgt := 14) hx hb d_M_chosen_175 (by decide) ?_
                        exact ih (k + 1) (some k) (lN p1.2) _ _ f28 ls H locs (by omega) (by omega) hN (fun p o9 hp h9 => by cases hp; cases OF_uni h9 hOFk; rfl) (fun z hz => by cases hz; exact ⟨p1, hB1, rfl⟩) ⟨MK_1, PL_1, AB_1, BE_1, AS_1, FP_1, PC_1, PF_1, PT_1, PU_1, RA_1, KC_1, PK_1, ST_1, DC_1, DY_1, DS_1, SU_1, hv_f28, hR_1⟩ hP hS (lv_sub hl [0, 2, 1, 6, 7, 8, 9, 10] rfl)
                    · exact absurd c_108 (by decide)
              · have q_o : o1 = none := oT_m c_77 (fun p hp => by subst hp; obtain ⟨k9, -, hc, -⟩ := hBT; have := hc.2.1; have := (hok.2.1 k hkk).1.2.1; omega)
                have hN : CHr b i ru q d (fun p => p < bN b ∧ p < (k + 1) ∧ (p = i ∨ AL b p i ru)) o := CH_skip hCH (fun p hp => ⟨hp.1, Nat.lt_succ_of_lt hp.2.1, hp.2.2⟩) (fun p hp => by rcases Nat.lt_succ_iff_lt_or_eq.mp hp.2.1 with y9 | y9; exact Or.inl ⟨hp.1, y9, hp.2.2⟩; exact Or.inr y9) (fun hm o9 h9 => by rw [q_o] at hBT; cases OF_uni h9 ⟨v, hsd, Or.inl ⟨hv12, hBT⟩⟩)
                refine lv_goto (tgt := 172) hx hb d_M_chosen_80 (by decide) ?_
                refine lv_iinc (v := nI (k + 1)) (lv' := [(9, .int (nI (k + 1))), (11, .int (oT o1)), (10, .int (nI v)), (6, .int (oP o)), (7, .long L), (0, .ref y), (1, .int (nI i)), (2, .int (nI ru)), (3, .int (nI q)), (4, .long d)]) hx hb d_M_chosen_172 hl (k := 2) rfl (nI_1 k) (by decide) rfl (fun ls hl => ?_)
                refine lv_goto (tgt := 14) hx hb d_M_chosen_175 (by decide) ?_
                exact ih (k + 1) o L _ _ f21 ls H locs (by omega) (by omega) hN hL hcp ⟨MK_1, PL_1, AB_1, BE_1, AS_1, FP_1, PC_1, PF_1, PT_1, PU_1, RA_1, KC_1, PK_1, ST_1, DC_1, DY_1, DS_1, SU_1, hv_1, hR_1⟩ hP hS (lv_sub hl [0, 3, 4, 5, 6, 7, 8, 9] rfl)
            · have hki : k ≠ i := fun z9 => c_48 (by rw [z9])
              refine lv_aload_n hx hb d_M_chosen_51 rfl (lv_at hl 4 rfl) ?_
              refine lv_iload hx hb d_M_chosen_52 (lv_at hl 1 rfl) ?_
              refine lv_iload_n hx hb d_M_chosen_54 rfl (lv_at hl 5 rfl) ?_
              refine lv_iload_n hx hb d_M_chosen_55 rfl (lv_at hl 6 rfl) ?_
              refine g_calli (g_runV C hl.1 (ct_M_isAlternate fi y ca b hok th bcx cpx ⟨MK, PL, AB, BE, AS, FP, PC, PF, PT, PU, RA, KC, PK, ST, DC, DY, DS, SU, hvF, hR⟩ k i ru hkk hi hru _) (cx_V C 3 wd_640 wd_642 wp_17 wd_3 wd_643 rfl rfl (by decide +kernel) ⟨Nat.le_of_ble_eq_true rfl, Nat.le_of_ble_eq_true rfl⟩) hP hvF.1 rfl rfl rfl (Nat.le_of_ble_eq_true rfl) d_M_chosen_56 ⟨Nat.le_of_ble_eq_true rfl, Nat.le_of_ble_eq_true rfl⟩) hP hS hA0 (fun r30 f29 H locs hq hP hS => ?_)
              obtain ⟨hz, hu⟩ := hq
              rw [hu] at hP
              refine lv_if_ne (tgt := 65) hx hb d_M_chosen_59 (by decide) (fun c_59 => ?_) (fun c_59 => ?_)
              · have hAL : k = i ∨ AL b k i ru := Or.inr (bz_t hz c_59)
                refine lv_aload_n hx hb d_M_chosen_65 rfl (lv_at hl 4 rfl) ?_
                refine lv_iload hx hb d_M_chosen_66 (lv_at hl 1 rfl) ?_
                refine lv_iload_n hx hb d_M_chosen_68 rfl (lv_at hl 7 rfl) ?_
                refine g_calli (g_runV C hl.1 (ct_M_bestOf fi y ca b hok th bcx cpx ⟨MK, PL, AB, BE, AS, FP, PC, PF, PT, PU, RA, KC, PK, ST, DC, DY, DS, SU, hvF, hR⟩ k hkk q hq1 hq2 _) (cx_V C 2 wd_693 wd_695 wp_21 wd_3 wd_696 rfl rfl (by decide +kernel) ⟨Nat.le_of_ble_eq_true rfl, Nat.le_of_ble_eq_true rfl⟩) hP hvF.1 rfl rfl rfl (Nat.le_of_ble_eq_true rfl) d_M_chosen_69 ⟨Nat.le_of_ble_eq_true rfl, Nat.le_of_ble_eq_true rfl⟩) hP hS hA0 (fun r32 f31 H locs hq hP hS => ?_)
                obtain ⟨o1, bc2, hBT, rfl, hbc, hm2⟩ := hq
                obtain ⟨MK_1, PL_1, AB_1, BE_1, AS_1, FP_1, PC_1, PF_1, PT_1, PU_1, RA_1, KC_1, PK_1, ST_1, DC_1, DY_1, DS_1, SU_1, hv_10, hR_1⟩ := hm2
                have hv_1 : mv G f31 y ca th (nI (bN b)) (nI (bRc b)) (nI (bHc b)) bc2 cpx MK_1 PL_1 AB_1 BE_1 AS_1 FP_1 PC_1 PF_1 PT_1 PU_1 RA_1 KC_1 PK_1 ST_1 DC_1 DY_1 DS_1 SU_1 := hv_10
                refine lv_istore (lv' := [(11, .int (oT o1)), (10, .int (nI v)), (9, .int (nI k)), (6, .int (oP o)), (7, .long L), (0, .ref y), (1, .int (nI i)), (2, .int (nI ru)), (3, .int (nI q)), (4, .long d)]) hx hb d_M_chosen_72 hl (by decide) rfl (fun ls hl => ?_)
                refine lv_iload hx hb d_M_chosen_74 (lv_at hl 0 rfl) ?_
                refine lv_iconst (v := (-1)) hx hb d_M_chosen_76 (by decide) ?_
                refine lv_icmp_ne (tgt := 83) hx hb d_M_chosen_77 (by decide) (fun c_77 => ?_) (fun c_77 => ?_)
                · obtain ⟨p1, rfl⟩ : ∃ p1, o1 = some p1 := by rcases o1 with _ | p1; exact absurd rfl c_77; exact ⟨p1, rfl⟩
                  have hbc1 := hbc p1 rfl
                  subst hbc1
                  have hvq := hv_1
                  have hOFk : OF b k q d (some p1) := ⟨v, hsd, Or.inl ⟨hv12, hBT⟩⟩
                  obtain ⟨hB1, hB2, hB3⟩ := OF_lt (hok.2.1 k hkk) hok.2.2.2.2.1 hOFk
                  have hp1a : p1.1 < 2 ^ 31 := by have := (hok.2.1 k hkk).1.2.1; omega
                  refine lv_iload hx hb d_M_chosen_83 (lv_at hl 3 rfl) ?_
                  refine lv_iconst (v := (-1)) hx hb d_M_chosen_85 (by decide) ?_
                  refine lv_icmp_eq (tgt := 99) hx hb d_M_chosen_86 (by decide) (fun c_86 => ?_) (fun c_86 => ?_)
                  · have q_n : o = none := by rcases o with _ | p0; rfl; exact absurd c_86 (nI_nm1 (by obtain ⟨o9, hm9, -⟩ := hCH; have := hm9.1; omega))
                    have hMk : (fun p => p < bN b ∧ p < (k + 1) ∧ (p = i ∨ AL b p i ru)) k := ⟨hkk, Nat.lt_succ_self k, hAL⟩
                    have hN : CHr b i ru q d (fun p => p < bN b ∧ p < (k + 1) ∧ (p = i ∨ AL b p i ru)) (some k) := CH_take hCH (fun p hp => by rcases Nat.lt_succ_iff_lt_or_eq.mp hp.2.1 with y9 | y9; exact Or.inl ⟨hp.1, y9, hp.2.2⟩; exact Or.inr y9) hMk hOFk (fun p o9 hp h9 => by rw [q_n] at hp; cases hp)
                    refine lv_iconst (v := 1) hx hb d_M_chosen_99 (by decide) ?_
                    refine lv_goto (tgt := 104) hx hb d_M_chosen_100 (by decide) ?_
                    refine lv_istore (lv' := [(12, .int 1), (11, .int (nI p1.1)), (10, .int (nI v)), (9, .int (nI k)), (6, .int (oP o)), (7, .long L), (0, .ref y), (1, .int (nI i)), (2, .int (nI ru)), (3, .int (nI q)), (4, .long d)]) hx hb d_M_chosen_104 hl (by decide) rfl (fun ls hl => ?_)
                    refine lv_iload hx hb d_M_chosen_106 (lv_at hl 0 rfl) ?_
                    refine lv_if_ne (tgt := 151) hx hb d_M_chosen_108 (by decide) (fun c_108 => ?_) (fun c_108 => ?_)
                    · refine lv_iload hx hb d_M_chosen_151 (lv_at hl 0 rfl) ?_
                      refine lv_if_eq (tgt := 172) hx hb d_M_chosen_153 (by decide) (fun c_153 => ?_) (fun c_153 => ?_)
                      · exact absurd c_153 (by decide)
                      · refine lv_iload hx hb d_M_chosen_156 (lv_at hl 3 rfl) ?_
                        refine lv_istore (lv' := [(6, .int (nI k)), (12, .int 1), (11, .int (nI p1.1)), (10, .int (nI v)), (9, .int (nI k)), (7, .long L), (0, .ref y), (1, .int (nI i)), (2, .int (nI ru)), (3, .int (nI q)), (4, .long d)]) hx hb d_M_chosen_158 hl (by decide) rfl (fun ls hl => ?_)
                        refine lv_aload_n hx hb d_M_chosen_160 rfl (lv_at hl 6 rfl) ?_
                        refine g_get C i_M hP hvq.1 rfl 22 (by decide) wd_528 rfl rfl d_M_chosen_161 ?_
                        refine lv_lstore (lv' := [(7, .long (lN p1.2)), (6, .int (nI k)), (12, .int 1), (11, .int (nI p1.1)), (10, .int (nI v)), (9, .int (nI k)), (0, .ref y), (1, .int (nI i)), (2, .int (nI ru)), (3, .int (nI q)), (4, .long d)]) hx hb d_M_chosen_164 hl (by decide) rfl (fun ls hl => ?_)
                        refine lv_aload_n hx hb d_M_chosen_166 rfl (lv_at hl 6 rfl) ?_
                        refine lv_iload hx hb d_M_chosen_167 (lv_at hl 3 rfl) ?_
                        refine g_put C i_M t_M t_M_ok n_M hP hS hvq.1 rfl 23 (by decide) wd_529 rfl rfl rfl (rfl) (Nat.le_of_ble_eq_true rfl) d_M_chosen_169 (fun H locs hP hS => ?_)
                        obtain ⟨f33, ef33⟩ : ∃ z99, z99 = va_up f31 y (some (ob 4 [.int th, .int (nI (bN b)), .ref (ca 0), .ref (ca 1), .ref (ca 2), .ref (ca 3), .int (nI (bRc b)), .ref (ca 4), .int (nI (bHc b)), .ref (ca 5), .ref (ca 6), .ref (ca 7), .ref (ca 8), .ref (ca 9), .ref (ca 10), .ref (ca 11), .ref (ca 12), .ref (ca 13), .ref (ca 14), .ref (ca 15), .ref (ca 16), .ref (ca 17), .long (lN p1.2), .int (nI p1.1)])) := ⟨_, rfl⟩
                        replace hP : hH G (hA f s.heap.size) f33 H := by rw [ef33]; exact hP
                        have hv_f33 : mv G f33 y ca th (nI (bN b)) (nI (bRc b)) (nI (bHc b)) (lN p1.2) (nI p1.1) MK_1 PL_1 AB_1 BE_1 AS_1 FP_1 PC_1 PF_1 PT_1 PU_1 RA_1 KC_1 PK_1 ST_1 DC_1 DY_1 DS_1 SU_1 := by rw [ef33]; exact mv_y hvq _ _ _ _ _ _
                        refine lv_iinc (v := nI (k + 1)) (lv' := [(9, .int (nI (k + 1))), (7, .long (lN p1.2)), (6, .int (nI k)), (12, .int 1), (11, .int (nI p1.1)), (10, .int (nI v)), (0, .ref y), (1, .int (nI i)), (2, .int (nI ru)), (3, .int (nI q)), (4, .long d)]) hx hb d_M_chosen_172 hl (k := 5) rfl (nI_1 k) (by decide) rfl (fun ls hl => ?_)
                        refine lv_goto (tgt := 14) hx hb d_M_chosen_175 (by decide) ?_
                        exact ih (k + 1) (some k) (lN p1.2) _ _ f33 ls H locs (by omega) (by omega) hN (fun p o9 hp h9 => by cases hp; cases OF_uni h9 hOFk; rfl) (fun z hz => by cases hz; exact ⟨p1, hB1, rfl⟩) ⟨MK_1, PL_1, AB_1, BE_1, AS_1, FP_1, PC_1, PF_1, PT_1, PU_1, RA_1, KC_1, PK_1, ST_1, DC_1, DY_1, DS_1, SU_1, hv_f33, hR_1⟩ hP hS (lv_sub hl [0, 2, 1, 6, 7, 8, 9, 10] rfl)
                    · exact absurd c_108 (by decide)
                  · obtain ⟨p0, rfl⟩ : ∃ p0, o = some p0 := by rcases o with _ | p0; exact absurd rfl c_86; exact ⟨p0, rfl⟩
                    have hCH0 := hCH
                    obtain ⟨o0, hm0, hf0, -⟩ := hCH0
                    have hp0 : p0 < bN b := hm0.1
                    have hL1 := hL p0 o0 rfl hf0
                    subst hL1
                    have hB4 := (OF_lt (hok.2.1 p0 hp0) hok.2.2.2.2.1 hf0).2.1
                    have hMk : (fun p => p < bN b ∧ p < (k + 1) ∧ (p = i ∨ AL b p i ru)) k := ⟨hkk, Nat.lt_succ_self k, hAL⟩
                    refine lv_aload_n hx hb d_M_chosen_89 rfl (lv_at hl 5 rfl) ?_
                    refine g_get C i_M hP hvq.1 rfl 22 (by decide) wd_528 rfl rfl d_M_chosen_90 ?_
                    refine lv_lload hx hb d_M_chosen_93 (lv_at hl 4 rfl) ?_
                    refine W.lcmp hx hb d_M_chosen_95 ?_
                    refine lv_if_ge (tgt := 103) hx hb d_M_chosen_96 (by decide) (fun c_96 => ?_) (fun c_96 => ?_)
                    · have c_96 := (lg_cmp_ge _ _).mp c_96
                      have q_96 : o0.2 ≤ p1.2 := (pk_lLE (by omega) (by omega)).mp c_96
                      refine lv_iconst (v := 0) hx hb d_M_chosen_103 (by decide) ?_
                      refine lv_istore (lv' := [(12, .int 0), (11, .int (nI p1.1)), (10, .int (nI v)), (9, .int (nI k)), (6, .int (nI p0)), (7, .long (lN o0.2)), (0, .ref y), (1, .int (nI i)), (2, .int (nI ru)), (3, .int (nI q)), (4, .long d)]) hx hb d_M_chosen_104 hl (by decide) rfl (fun ls hl => ?_)
                      refine lv_iload hx hb d_M_chosen_106 (lv_at hl 0 rfl) ?_
                      refine lv_if_ne (tgt := 151) hx hb d_M_chosen_108 (by decide) (fun c_108 => ?_) (fun c_108 => ?_)
                      · exact absurd c_108 (by decide)
                      · refine lv_aload_n hx hb d_M_chosen_111 rfl (lv_at hl 6 rfl) ?_
                        refine g_get C i_M hP hvq.1 rfl 22 (by decide) wd_528 rfl rfl d_M_chosen_112 ?_
                        refine lv_lload hx hb d_M_chosen_115 (lv_at hl 5 rfl) ?_
                        refine W.lcmp hx hb d_M_chosen_117 ?_
                        refine lv_if_ne (tgt := 151) hx hb d_M_chosen_118 (by decide) (fun c_118 => ?_) (fun c_118 => ?_)
                        · have c_118 := fun z => c_118 ((lg_cmp_eq _ _).mpr z)
                          have hN : CHr b i ru q d (fun p => p < bN b ∧ p < (k + 1) ∧ (p = i ∨ AL b p i ru)) (some p0) := CH_keep hCH hf0 (fun p hp => ⟨hp.1, Nat.lt_succ_of_lt hp.2.1, hp.2.2⟩) (fun p hp => by rcases Nat.lt_succ_iff_lt_or_eq.mp hp.2.1 with y9 | y9; exact Or.inl ⟨hp.1, y9, hp.2.2⟩; exact Or.inr y9) hOFk (Or.inl (by have h8 : p1.2 ≠ o0.2 := fun z => c_118 (by rw [z]); omega))
                          refine lv_iload hx hb d_M_chosen_151 (lv_at hl 0 rfl) ?_
                          refine lv_if_eq (tgt := 172) hx hb d_M_chosen_153 (by decide) (fun c_153 => ?_) (fun c_153 => ?_)
                          · refine lv_iinc (v := nI (k + 1)) (lv' := [(9, .int (nI (k + 1))), (12, .int 0), (11, .int (nI p1.1)), (10, .int (nI v)), (6, .int (nI p0)), (7, .long (lN o0.2)), (0, .ref y), (1, .int (nI i)), (2, .int (nI ru)), (3, .int (nI q)), (4, .long d)]) hx hb d_M_chosen_172 hl (k := 3) rfl (nI_1 k) (by decide) rfl (fun ls hl => ?_)
                            refine lv_goto (tgt := 14) hx hb d_M_chosen_175 (by decide) ?_
                            exact ih (k + 1) (some p0) (lN o0.2) _ _ f31 ls H locs (by omega) (by omega) hN (fun p o9 hp h9 => by cases hp; cases OF_uni h9 hf0; rfl) hcp ⟨MK_1, PL_1, AB_1, BE_1, AS_1, FP_1, PC_1, PF_1, PT_1, PU_1, RA_1, KC_1, PK_1, ST_1, DC_1, DY_1, DS_1, SU_1, hvq, hR_1⟩ hP hS (lv_sub hl [0, 4, 5, 6, 7, 8, 9, 10] rfl)
                          · exact absurd c_153 (by decide)
                        · have c_118 := (lg_cmp_eq _ _).mp c_118
                          have q_2 : p1.2 = o0.2 := (pk_lEQ (by omega) (by omega)).mp c_118
                          refine lv_iload hx hb d_M_chosen_121 (lv_at hl 4 rfl) ?_
                          refine lv_iload_n hx hb d_M_chosen_123 rfl (lv_at hl 7 rfl) ?_
                          refine lv_icmp_eq (tgt := 148) hx hb d_M_chosen_124 (by decide) (fun c_124 => ?_) (fun c_124 => ?_)
                          · have q_3 : p0 = i := (nI_eq (by omega) (by omega)).mp c_124
                            have hN : CHr b i ru q d (fun p => p < bN b ∧ p < (k + 1) ∧ (p = i ∨ AL b p i ru)) (some p0) := CH_keep hCH hf0 (fun p hp => ⟨hp.1, Nat.lt_succ_of_lt hp.2.1, hp.2.2⟩) (fun p hp => by rcases Nat.lt_succ_iff_lt_or_eq.mp hp.2.1 with y9 | y9; exact Or.inl ⟨hp.1, y9, hp.2.2⟩; exact Or.inr y9) hOFk (Or.inr ⟨q_2.symm, fun z9 => absurd hm0.2.1 (by omega), Or.inl q_3⟩)
                            refine lv_iconst (v := 0) hx hb d_M_chosen_148 (by decide) ?_
                            refine lv_istore (lv' := [(12, .int 0), (11, .int (nI p1.1)), (10, .int (nI v)), (9, .int (nI k)), (6, .int (nI p0)), (7, .long (lN o0.2)), (0, .ref y), (1, .int (nI i)), (2, .int (nI ru)), (3, .int (nI q)), (4, .long d)]) hx hb d_M_chosen_149 hl (by decide) rfl (fun ls hl => ?_)
                            refine lv_iload hx hb d_M_chosen_151 (lv_at hl 0 rfl) ?_
                            refine lv_if_eq (tgt := 172) hx hb d_M_chosen_153 (by decide) (fun c_153 => ?_) (fun c_153 => ?_)
                            · refine lv_iinc (v := nI (k + 1)) (lv' := [(9, .int (nI (k + 1))), (12, .int 0), (11, .int (nI p1.1)), (10, .int (nI v)), (6, .int (nI p0)), (7, .long (lN o0.2)), (0, .ref y), (1, .int (nI i)), (2, .int (nI ru)), (3, .int (nI q)), (4, .long d)]) hx hb d_M_chosen_172 hl (k := 3) rfl (nI_1 k) (by decide) rfl (fun ls hl => ?_)
                              refine lv_goto (tgt := 14) hx hb d_M_chosen_175 (by decide) ?_
                              exact ih (k + 1) (some p0) (lN o0.2) _ _ f31 ls H locs (by omega) (by omega) hN (fun p o9 hp h9 => by cases hp; cases OF_uni h9 hf0; rfl) hcp ⟨MK_1, PL_1, AB_1, BE_1, AS_1, FP_1, PC_1, PF_1, PT_1, PU_1, RA_1, KC_1, PK_1, ST_1, DC_1, DY_1, DS_1, SU_1, hvq, hR_1⟩ hP hS (lv_sub hl [0, 4, 5, 6, 7, 8, 9, 10] rfl)
                            · exact absurd c_153 (by decide)
                          · have q_3 : p0 ≠ i := fun z9 => c_124 (by rw [z9])
                            refine lv_iload hx hb d_M_chosen_127 (lv_at hl 3 rfl) ?_
                            refine lv_iload_n hx hb d_M_chosen_129 rfl (lv_at hl 7 rfl) ?_
                            refine lv_icmp_eq (tgt := 144) hx hb d_M_chosen_130 (by decide) (fun c_130 => ?_) (fun c_130 => ?_)
                            · have q_4 : k = i := (nI_eq (by omega) (by omega)).mp c_130
                              have hN : CHr b i ru q d (fun p => p < bN b ∧ p < (k + 1) ∧ (p = i ∨ AL b p i ru)) (some k) := CH_take hCH (fun p hp => by rcases Nat.lt_succ_iff_lt_or_eq.mp hp.2.1 with y9 | y9; exact Or.inl ⟨hp.1, y9, hp.2.2⟩; exact Or.inr y9) hMk hOFk (fun p o9 hp h9 => by cases hp; cases OF_uni h9 hf0; exact Or.inr ⟨q_2, q_3, Or.inl q_4⟩)
                              refine lv_iconst (v := 1) hx hb d_M_chosen_144 (by decide) ?_
                              refine lv_goto (tgt := 149) hx hb d_M_chosen_145 (by decide) ?_
                              refine lv_istore (lv' := [(12, .int 1), (11, .int (nI p1.1)), (10, .int (nI v)), (9, .int (nI k)), (6, .int (nI p0)), (7, .long (lN o0.2)), (0, .ref y), (1, .int (nI i)), (2, .int (nI ru)), (3, .int (nI q)), (4, .long d)]) hx hb d_M_chosen_149 hl (by decide) rfl (fun ls hl => ?_)
                              refine lv_iload hx hb d_M_chosen_151 (lv_at hl 0 rfl) ?_
                              refine lv_if_eq (tgt := 172) hx hb d_M_chosen_153 (by decide) (fun c_153 => ?_) (fun c_153 => ?_)
                              · exact absurd c_153 (by decide)
                              · refine lv_iload hx hb d_M_chosen_156 (lv_at hl 3 rfl) ?_
                                refine lv_istore (lv' := [(6, .int (nI k)), (12, .int 1), (11, .int (nI p1.1)), (10, .int (nI v)), (9, .int (nI k)), (7, .long (lN o0.2)), (0, .ref y), (1, .int (nI i)), (2, .int (nI ru)), (3, .int (nI q)), (4, .long d)]) hx hb d_M_chosen_158 hl (by decide) rfl (fun ls hl => ?_)
                                refine lv_aload_n hx hb d_M_chosen_160 rfl (lv_at hl 6 rfl) ?_
                                refine g_get C i_M hP hvq.1 rfl 22 (by decide) wd_528 rfl rfl d_M_chosen_161 ?_
                                refine lv_lstore (lv' := [(7, .long (lN p1.2)), (6, .int (nI k)), (12, .int 1), (11, .int (nI p1.1)), (10, .int (nI v)), (9, .int (nI k)), (0, .ref y), (1, .int (nI i)), (2, .int (nI ru)), (3, .int (nI q)), (4, .long d)]) hx hb d_M_chosen_164 hl (by decide) rfl (fun ls hl => ?_)
                                refine lv_aload_n hx hb d_M_chosen_166 rfl (lv_at hl 6 rfl) ?_
                                refine lv_iload hx hb d_M_chosen_167 (lv_at hl 3 rfl) ?_
                                refine g_put C i_M t_M t_M_ok n_M hP hS hvq.1 rfl 23 (by decide) wd_529 rfl rfl rfl (rfl) (Nat.le_of_ble_eq_true rfl) d_M_chosen_169 (fun H locs hP hS => ?_)
                                obtain ⟨f34, ef34⟩ : ∃ z99, z99 = va_up f31 y (some (ob 4 [.int th, .int (nI (bN b)), .ref (ca 0), .ref (ca 1), .ref (ca 2), .ref (ca 3), .int (nI (bRc b)), .ref (ca 4), .int (nI (bHc b)), .ref (ca 5), .ref (ca 6), .ref (ca 7), .ref (ca 8), .ref (ca 9), .ref (ca 10), .ref (ca 11), .ref (ca 12), .ref (ca 13), .ref (ca 14), .ref (ca 15), .ref (ca 16), .ref (ca 17), .long (lN p1.2), .int (nI p1.1)])) := ⟨_, rfl⟩
                                replace hP : hH G (hA f s.heap.size) f34 H := by rw [ef34]; exact hP
                                have hv_f34 : mv G f34 y ca th (nI (bN b)) (nI (bRc b)) (nI (bHc b)) (lN p1.2) (nI p1.1) MK_1 PL_1 AB_1 BE_1 AS_1 FP_1 PC_1 PF_1 PT_1 PU_1 RA_1 KC_1 PK_1 ST_1 DC_1 DY_1 DS_1 SU_1 := by rw [ef34]; exact mv_y hvq _ _ _ _ _ _
                                refine lv_iinc (v := nI (k + 1)) (lv' := [(9, .int (nI (k + 1))), (7, .long (lN p1.2)), (6, .int (nI k)), (12, .int 1), (11, .int (nI p1.1)), (10, .int (nI v)), (0, .ref y), (1, .int (nI i)), (2, .int (nI ru)), (3, .int (nI q)), (4, .long d)]) hx hb d_M_chosen_172 hl (k := 5) rfl (nI_1 k) (by decide) rfl (fun ls hl => ?_)
                                refine lv_goto (tgt := 14) hx hb d_M_chosen_175 (by decide) ?_
                                exact ih (k + 1) (some k) (lN p1.2) _ _ f34 ls H locs (by omega) (by omega) hN (fun p o9 hp h9 => by cases hp; cases OF_uni h9 hOFk; rfl) (fun z hz => by cases hz; exact ⟨p1, hB1, rfl⟩) ⟨MK_1, PL_1, AB_1, BE_1, AS_1, FP_1, PC_1, PF_1, PT_1, PU_1, RA_1, KC_1, PK_1, ST_1, DC_1, DY_1, DS_1, SU_1, hv_f34, hR_1⟩ hP hS (lv_sub hl [0, 2, 1, 6, 7, 8, 9, 10] rfl)
                            · have q_4 : k ≠ i := fun z9 => c_130 (by rw [z9])
                              refine lv_aload_n hx hb d_M_chosen_133 rfl (lv_at hl 6 rfl) ?_
                              refine lv_iload hx hb d_M_chosen_134 (lv_at hl 3 rfl) ?_
                              refine lv_iload hx hb d_M_chosen_136 (lv_at hl 4 rfl) ?_
                              refine g_calli (g_runV C hl.1 (ct_M_isAhead f31 y ca b hok th (lN p1.2) cpx ⟨MK_1, PL_1, AB_1, BE_1, AS_1, FP_1, PC_1, PF_1, PT_1, PU_1, RA_1, KC_1, PK_1, ST_1, DC_1, DY_1, DS_1, SU_1, hvq, hR_1⟩ k p0 hkk hp0 _) (cx_V C 2 wd_655 wd_657 wp_20 wd_3 wd_658 rfl rfl (by decide +kernel) ⟨Nat.le_of_ble_eq_true rfl, Nat.le_of_ble_eq_true rfl⟩) hP hvq.1 rfl rfl rfl (Nat.le_of_ble_eq_true rfl) d_M_chosen_138 ⟨Nat.le_of_ble_eq_true rfl, Nat.le_of_ble_eq_true rfl⟩) hP hS hA0 (fun r36 f35 H locs hq hP hS => ?_)
                              obtain ⟨hza, hu⟩ := hq
                              rw [hu] at hP
                              refine lv_if_eq (tgt := 148) hx hb d_M_chosen_141 (by decide) (fun c_141 => ?_) (fun c_141 => ?_)
                              · have hN : CHr b i ru q d (fun p => p < bN b ∧ p < (k + 1) ∧ (p = i ∨ AL b p i ru)) (some p0) := CH_keep hCH hf0 (fun p hp => ⟨hp.1, Nat.lt_succ_of_lt hp.2.1, hp.2.2⟩) (fun p hp => by rcases Nat.lt_succ_iff_lt_or_eq.mp hp.2.1 with y9 | y9; exact Or.inl ⟨hp.1, y9, hp.2.2⟩; exact Or.inr y9) hOFk (Or.inr ⟨q_2.symm, q_4, Or.inr (sb_tot (fun z9 => absurd hm0.2.1 (by omega)) (bz_f hza c_141))⟩)
                                refine lv_iconst (v := 0) hx hb d_M_chosen_148 (by decide) ?_
                                refine lv_istore (lv' := [(12, .int 0), (11, .int (nI p1.1)), (10, .int (nI v)), (9, .int (nI k)), (6, .int (nI p0)), (7, .long (lN o0.2)), (0, .ref y), (1, .int (nI i)), (2, .int (nI ru)), (3, .int (nI q)), (4, .long d)]) hx hb d_M_chosen_149 hl (by decide) rfl (fun ls hl => ?_)
                                refine lv_iload hx hb d_M_chosen_151 (lv_at hl 0 rfl) ?_
                                refine lv_if_eq (tgt := 172) hx hb d_M_chosen_153 (by decide) (fun c_153 => ?_) (fun c_153 => ?_)
                                · refine lv_iinc (v := nI (k + 1)) (lv' := [(9, .int (nI (k + 1))), (12, .int 0), (11, .int (nI p1.1)), (10, .int (nI v)), (6, .int (nI p0)), (7, .long (lN o0.2)), (0, .ref y), (1, .int (nI i)), (2, .int (nI ru)), (3, .int (nI q)), (4, .long d)]) hx hb d_M_chosen_172 hl (k := 3) rfl (nI_1 k) (by decide) rfl (fun ls hl => ?_)
                                  refine lv_goto (tgt := 14) hx hb d_M_chosen_175 (by decide) ?_
                                  exact ih (k + 1) (some p0) (lN o0.2) _ _ f31 ls H locs (by omega) (by omega) hN (fun p o9 hp h9 => by cases hp; cases OF_uni h9 hf0; rfl) hcp ⟨MK_1, PL_1, AB_1, BE_1, AS_1, FP_1, PC_1, PF_1, PT_1, PU_1, RA_1, KC_1, PK_1, ST_1, DC_1, DY_1, DS_1, SU_1, hvq, hR_1⟩ hP hS (lv_sub hl [0, 4, 5, 6, 7, 8, 9, 10] rfl)
                                · exact absurd c_153 (by decide)
                              · have hN : CHr b i ru q d (fun p => p < bN b ∧ p < (k + 1) ∧ (p = i ∨ AL b p i ru)) (some k) := CH_take hCH (fun p hp => by rcases Nat.lt_succ_iff_lt_or_eq.mp hp.2.1 with y9 | y9; exact Or.inl ⟨hp.1, y9, hp.2.2⟩; exact Or.inr y9) hMk hOFk (fun p o9 hp h9 => by cases hp; cases OF_uni h9 hf0; exact Or.inr ⟨q_2, q_3, Or.inr (bz_t hza c_141)⟩)
                                refine lv_iconst (v := 1) hx hb d_M_chosen_144 (by decide) ?_
                                refine lv_goto (tgt := 149) hx hb d_M_chosen_145 (by decide) ?_
                                refine lv_istore (lv' := [(12, .int 1), (11, .int (nI p1.1)), (10, .int (nI v)), (9, .int (nI k)), (6, .int (nI p0)), (7, .long (lN o0.2)), (0, .ref y), (1, .int (nI i)), (2, .int (nI ru)), (3, .int (nI q)), (4, .long d)]) hx hb d_M_chosen_149 hl (by decide) rfl (fun ls hl => ?_)
                                refine lv_iload hx hb d_M_chosen_151 (lv_at hl 0 rfl) ?_
                                refine lv_if_eq (tgt := 172) hx hb d_M_chosen_153 (by decide) (fun c_153 => ?_) (fun c_153 => ?_)
                                · exact absurd c_153 (by decide)
                                · refine lv_iload hx hb d_M_chosen_156 (lv_at hl 3 rfl) ?_
                                  refine lv_istore (lv' := [(6, .int (nI k)), (12, .int 1), (11, .int (nI p1.1)), (10, .int (nI v)), (9, .int (nI k)), (7, .long (lN o0.2)), (0, .ref y), (1, .int (nI i)), (2, .int (nI ru)), (3, .int (nI q)), (4, .long d)]) hx hb d_M_chosen_158 hl (by decide) rfl (fun ls hl => ?_)
                                  refine lv_aload_n hx hb d_M_chosen_160 rfl (lv_at hl 6 rfl) ?_
                                  refine g_get C i_M hP hvq.1 rfl 22 (by decide) wd_528 rfl rfl d_M_chosen_161 ?_
                                  refine lv_lstore (lv' := [(7, .long (lN p1.2)), (6, .int (nI k)), (12, .int 1), (11, .int (nI p1.1)), (10, .int (nI v)), (9, .int (nI k)), (0, .ref y), (1, .int (nI i)), (2, .int (nI ru)), (3, .int (nI q)), (4, .long d)]) hx hb d_M_chosen_164 hl (by decide) rfl (fun ls hl => ?_)
                                  refine lv_aload_n hx hb d_M_chosen_166 rfl (lv_at hl 6 rfl) ?_
                                  refine lv_iload hx hb d_M_chosen_167 (lv_at hl 3 rfl) ?_
                                  refine g_put C i_M t_M t_M_ok n_M hP hS hvq.1 rfl 23 (by decide) wd_529 rfl rfl rfl (rfl) (Nat.le_of_ble_eq_true rfl) d_M_chosen_169 (fun H locs hP hS => ?_)
                                  obtain ⟨f37, ef37⟩ : ∃ z99, z99 = va_up f31 y (some (ob 4 [.int th, .int (nI (bN b)), .ref (ca 0), .ref (ca 1), .ref (ca 2), .ref (ca 3), .int (nI (bRc b)), .ref (ca 4), .int (nI (bHc b)), .ref (ca 5), .ref (ca 6), .ref (ca 7), .ref (ca 8), .ref (ca 9), .ref (ca 10), .ref (ca 11), .ref (ca 12), .ref (ca 13), .ref (ca 14), .ref (ca 15), .ref (ca 16), .ref (ca 17), .long (lN p1.2), .int (nI p1.1)])) := ⟨_, rfl⟩
                                  replace hP : hH G (hA f s.heap.size) f37 H := by rw [ef37]; exact hP
                                  have hv_f37 : mv G f37 y ca th (nI (bN b)) (nI (bRc b)) (nI (bHc b)) (lN p1.2) (nI p1.1) MK_1 PL_1 AB_1 BE_1 AS_1 FP_1 PC_1 PF_1 PT_1 PU_1 RA_1 KC_1 PK_1 ST_1 DC_1 DY_1 DS_1 SU_1 := by rw [ef37]; exact mv_y hvq _ _ _ _ _ _
                                  refine lv_iinc (v := nI (k + 1)) (lv' := [(9, .int (nI (k + 1))), (7, .long (lN p1.2)), (6, .int (nI k)), (12, .int 1), (11, .int (nI p1.1)), (10, .int (nI v)), (0, .ref y), (1, .int (nI i)), (2, .int (nI ru)), (3, .int (nI q)), (4, .long d)]) hx hb d_M_chosen_172 hl (k := 5) rfl (nI_1 k) (by decide) rfl (fun ls hl => ?_)
                                  refine lv_goto (tgt := 14) hx hb d_M_chosen_175 (by decide) ?_
                                  exact ih (k + 1) (some k) (lN p1.2) _ _ f37 ls H locs (by omega) (by omega) hN (fun p o9 hp h9 => by cases hp; cases OF_uni h9 hOFk; rfl) (fun z hz => by cases hz; exact ⟨p1, hB1, rfl⟩) ⟨MK_1, PL_1, AB_1, BE_1, AS_1, FP_1, PC_1, PF_1, PT_1, PU_1, RA_1, KC_1, PK_1, ST_1, DC_1, DY_1, DS_1, SU_1, hv_f37, hR_1⟩ hP hS (lv_sub hl [0, 2, 1, 6, 7, 8, 9, 10] rfl)
                    · have c_96 := fun z => c_96 ((lg_cmp_ge _ _).mpr z)
                      have hN : CHr b i ru q d (fun p => p < bN b ∧ p < (k + 1) ∧ (p = i ∨ AL b p i ru)) (some k) := CH_take hCH (fun p hp => by rcases Nat.lt_succ_iff_lt_or_eq.mp hp.2.1 with y9 | y9; exact Or.inl ⟨hp.1, y9, hp.2.2⟩; exact Or.inr y9) hMk hOFk (fun p o9 hp h9 => by cases hp; cases OF_uni h9 hf0; exact Or.inl ((pk_lLT (by omega) (by omega)).mp (Int64.not_le.mp c_96)))
                      refine lv_iconst (v := 1) hx hb d_M_chosen_99 (by decide) ?_
                      refine lv_goto (tgt := 104) hx hb d_M_chosen_100 (by decide) ?_
                      refine lv_istore (lv' := [(12, .int 1), (11, .int (nI p1.1)), (10, .int (nI v)), (9, .int (nI k)), (6, .int (nI p0)), (7, .long (lN o0.2)), (0, .ref y), (1, .int (nI i)), (2, .int (nI ru)), (3, .int (nI q)), (4, .long d)]) hx hb d_M_chosen_104 hl (by decide) rfl (fun ls hl => ?_)
                      refine lv_iload hx hb d_M_chosen_106 (lv_at hl 0 rfl) ?_
                      refine lv_if_ne (tgt := 151) hx hb d_M_chosen_108 (by decide) (fun c_108 => ?_) (fun c_108 => ?_)
                      · refine lv_iload hx hb d_M_chosen_151 (lv_at hl 0 rfl) ?_
                        refine lv_if_eq (tgt := 172) hx hb d_M_chosen_153 (by decide) (fun c_153 => ?_) (fun c_153 => ?_)
                        · exact absurd c_153 (by decide)
                        · refine lv_iload hx hb d_M_chosen_156 (lv_at hl 3 rfl) ?_
                          refine lv_istore (lv' := [(6, .int (nI k)), (12, .int 1), (11, .int (nI p1.1)), (10, .int (nI v)), (9, .int (nI k)), (7, .long (lN o0.2)), (0, .ref y), (1, .int (nI i)), (2, .int (nI ru)), (3, .int (nI q)), (4, .long d)]) hx hb d_M_chosen_158 hl (by decide) rfl (fun ls hl => ?_)
                          refine lv_aload_n hx hb d_M_chosen_160 rfl (lv_at hl 6 rfl) ?_
                          refine g_get C i_M hP hvq.1 rfl 22 (by decide) wd_528 rfl rfl d_M_chosen_161 ?_
                          refine lv_lstore (lv' := [(7, .long (lN p1.2)), (6, .int (nI k)), (12, .int 1), (11, .int (nI p1.1)), (10, .int (nI v)), (9, .int (nI k)), (0, .ref y), (1, .int (nI i)), (2, .int (nI ru)), (3, .int (nI q)), (4, .long d)]) hx hb d_M_chosen_164 hl (by decide) rfl (fun ls hl => ?_)
                          refine lv_aload_n hx hb d_M_chosen_166 rfl (lv_at hl 6 rfl) ?_
                          refine lv_iload hx hb d_M_chosen_167 (lv_at hl 3 rfl) ?_
                          refine g_put C i_M t_M t_M_ok n_M hP hS hvq.1 rfl 23 (by decide) wd_529 rfl rfl rfl (rfl) (Nat.le_of_ble_eq_true rfl) d_M_chosen_169 (fun H locs hP hS => ?_)
                          obtain ⟨f38, ef38⟩ : ∃ z99, z99 = va_up f31 y (some (ob 4 [.int th, .int (nI (bN b)), .ref (ca 0), .ref (ca 1), .ref (ca 2), .ref (ca 3), .int (nI (bRc b)), .ref (ca 4), .int (nI (bHc b)), .ref (ca 5), .ref (ca 6), .ref (ca 7), .ref (ca 8), .ref (ca 9), .ref (ca 10), .ref (ca 11), .ref (ca 12), .ref (ca 13), .ref (ca 14), .ref (ca 15), .ref (ca 16), .ref (ca 17), .long (lN p1.2), .int (nI p1.1)])) := ⟨_, rfl⟩
                          replace hP : hH G (hA f s.heap.size) f38 H := by rw [ef38]; exact hP
                          have hv_f38 : mv G f38 y ca th (nI (bN b)) (nI (bRc b)) (nI (bHc b)) (lN p1.2) (nI p1.1) MK_1 PL_1 AB_1 BE_1 AS_1 FP_1 PC_1 PF_1 PT_1 PU_1 RA_1 KC_1 PK_1 ST_1 DC_1 DY_1 DS_1 SU_1 := by rw [ef38]; exact mv_y hvq _ _ _ _ _ _
                          refine lv_iinc (v := nI (k + 1)) (lv' := [(9, .int (nI (k + 1))), (7, .long (lN p1.2)), (6, .int (nI k)), (12, .int 1), (11, .int (nI p1.1)), (10, .int (nI v)), (0, .ref y), (1, .int (nI i)), (2, .int (nI ru)), (3, .int (nI q)), (4, .long d)]) hx hb d_M_chosen_172 hl (k := 5) rfl (nI_1 k) (by decide) rfl (fun ls hl => ?_)
                          refine lv_goto (tgt := 14) hx hb d_M_chosen_175 (by decide) ?_
                          exact ih (k + 1) (some k) (lN p1.2) _ _ f38 ls H locs (by omega) (by omega) hN (fun p o9 hp h9 => by cases hp; cases OF_uni h9 hOFk; rfl) (fun z hz => by cases hz; exact ⟨p1, hB1, rfl⟩) ⟨MK_1, PL_1, AB_1, BE_1, AS_1, FP_1, PC_1, PF_1, PT_1, PU_1, RA_1, KC_1, PK_1, ST_1, DC_1, DY_1, DS_1, SU_1, hv_f38, hR_1⟩ hP hS (lv_sub hl [0, 2, 1, 6, 7, 8, 9, 10] rfl)
                      · exact absurd c_108 (by decide)
                · have q_o : o1 = none := oT_m c_77 (fun p hp => by subst hp; obtain ⟨k9, -, hc, -⟩ := hBT; have := hc.2.1; have := (hok.2.1 k hkk).1.2.1; omega)
                  have hN : CHr b i ru q d (fun p => p < bN b ∧ p < (k + 1) ∧ (p = i ∨ AL b p i ru)) o := CH_skip hCH (fun p hp => ⟨hp.1, Nat.lt_succ_of_lt hp.2.1, hp.2.2⟩) (fun p hp => by rcases Nat.lt_succ_iff_lt_or_eq.mp hp.2.1 with y9 | y9; exact Or.inl ⟨hp.1, y9, hp.2.2⟩; exact Or.inr y9) (fun hm o9 h9 => by rw [q_o] at hBT; cases OF_uni h9 ⟨v, hsd, Or.inl ⟨hv12, hBT⟩⟩)
                  refine lv_goto (tgt := 172) hx hb d_M_chosen_80 (by decide) ?_
                  refine lv_iinc (v := nI (k + 1)) (lv' := [(9, .int (nI (k + 1))), (11, .int (oT o1)), (10, .int (nI v)), (6, .int (oP o)), (7, .long L), (0, .ref y), (1, .int (nI i)), (2, .int (nI ru)), (3, .int (nI q)), (4, .long d)]) hx hb d_M_chosen_172 hl (k := 2) rfl (nI_1 k) (by decide) rfl (fun ls hl => ?_)
                  refine lv_goto (tgt := 14) hx hb d_M_chosen_175 (by decide) ?_
                  exact ih (k + 1) o L _ _ f31 ls H locs (by omega) (by omega) hN hL hcp ⟨MK_1, PL_1, AB_1, BE_1, AS_1, FP_1, PC_1, PF_1, PT_1, PU_1, RA_1, KC_1, PK_1, ST_1, DC_1, DY_1, DS_1, SU_1, hv_1, hR_1⟩ hP hS (lv_sub hl [0, 3, 4, 5, 6, 7, 8, 9] rfl)
              · have hN : CHr b i ru q d (fun p => p < bN b ∧ p < (k + 1) ∧ (p = i ∨ AL b p i ru)) o := CH_skip hCH (fun p hp => ⟨hp.1, Nat.lt_succ_of_lt hp.2.1, hp.2.2⟩) (fun p hp => by rcases Nat.lt_succ_iff_lt_or_eq.mp hp.2.1 with y9 | y9; exact Or.inl ⟨hp.1, y9, hp.2.2⟩; exact Or.inr y9) (fun hm o9 h9 => absurd hm.2.2 (fun z9 => z9.elim hki (bz_f hz c_59)))
                refine lv_goto (tgt := 172) hx hb d_M_chosen_62 (by decide) ?_
                refine lv_iinc (v := nI (k + 1)) (lv' := [(9, .int (nI (k + 1))), (10, .int (nI v)), (6, .int (oP o)), (7, .long L), (0, .ref y), (1, .int (nI i)), (2, .int (nI ru)), (3, .int (nI q)), (4, .long d)]) hx hb d_M_chosen_172 hl (k := 1) rfl (nI_1 k) (by decide) rfl (fun ls hl => ?_)
                refine lv_goto (tgt := 14) hx hb d_M_chosen_175 (by decide) ?_
                exact ih (k + 1) o L _ _ fi ls H locs (by omega) (by omega) hN hL hcp ⟨MK, PL, AB, BE, AS, FP, PC, PF, PT, PU, RA, KC, PK, ST, DC, DY, DS, SU, hvF, hR⟩ hP hS (lv_sub hl [0, 2, 3, 4, 5, 6, 7, 8] rfl)
  refine lv_iconst (v := (-1)) hx hb d_M_chosen_0 (by decide) ?_
  refine lv_istore (lv' := [(6, .int (-1)), (0, .ref y), (1, .int (nI i)), (2, .int (nI ru)), (3, .int (nI q)), (4, .long d)]) hx hb d_M_chosen_1 hl (by decide) rfl (fun ls hl => ?_)
  refine lv_lconst (v := 0) hx hb d_M_chosen_3 (by decide) ?_
  refine lv_lstore (lv' := [(7, .long 0), (6, .int (-1)), (0, .ref y), (1, .int (nI i)), (2, .int (nI ru)), (3, .int (nI q)), (4, .long d)]) hx hb d_M_chosen_4 hl (by decide) rfl (fun ls hl => ?_)
  refine lv_aload_n hx hb d_M_chosen_6 rfl (lv_at hl 2 rfl) ?_
  refine lv_iconst (v := (-1)) hx hb d_M_chosen_7 (by decide) ?_
  refine g_put C i_M t_M t_M_ok n_M hP hS hv.1 rfl 23 (by decide) wd_529 rfl rfl rfl (rfl) (Nat.le_of_ble_eq_true rfl) d_M_chosen_8 (fun H locs hP hS => ?_)
  obtain ⟨f1, ef1⟩ : ∃ z99, z99 = va_up f y (some (ob 4 [.int th, .int (nI (bN b)), .ref (ca 0), .ref (ca 1), .ref (ca 2), .ref (ca 3), .int (nI (bRc b)), .ref (ca 4), .int (nI (bHc b)), .ref (ca 5), .ref (ca 6), .ref (ca 7), .ref (ca 8), .ref (ca 9), .ref (ca 10), .ref (ca 11), .ref (ca 12), .ref (ca 13), .ref (ca 14), .ref (ca 15), .ref (ca 16), .ref (ca 17), .long bc, .int (-1)])) := ⟨_, rfl⟩
  replace hP : hH G (hA f s.heap.size) f1 H := by rw [ef1]; exact hP
  have hv_f1 : mv G f1 y ca th (nI (bN b)) (nI (bRc b)) (nI (bHc b)) bc (-1) MK PL AB BE AS FP PC PF PT PU RA KC PK ST DC DY DS SU := by rw [ef1]; exact mv_y hv _ _ _ _ _ _
  refine lv_iconst (v := 0) hx hb d_M_chosen_11 (by decide) ?_
  refine lv_istore (lv' := [(9, .int 0), (7, .long 0), (6, .int (-1)), (0, .ref y), (1, .int (nI i)), (2, .int (nI ru)), (3, .int (nI q)), (4, .long d)]) hx hb d_M_chosen_12 hl (by decide) rfl (fun ls hl => ?_)
  exact loop 41 0 none 0 bc (-1) f1 ls H locs (by omega) (Nat.zero_le _) (fun p o1 h1 => absurd h1.2.1 (Nat.not_lt_zero _)) (fun p o1 hp => by cases hp) (fun z hz => by cases hz) ⟨MK, PL, AB, BE, AS, FP, PC, PF, PT, PU, RA, KC, PK, ST, DC, DY, DS, SU, hv_f1, hR⟩ hP hS (lv_sub hl [0, 2, 1, 3, 4, 5, 6, 7] rfl)
set_option maxHeartbeats 4000000 in
set_option maxRecDepth 100000 in
theorem ct_M_refusal {l : Launch} {G : hG} (f : hm) (y : Nat) (ca : Nat → Nat) (b : BD) (hok : bOK b) (th : Int32) (bc : Int64) (cp : Int32) (hm : mS G f y ca b th bc cp) (p0 q0 n0 : Int32) : ci_ l G y_M_refusal w_M_refusal { frames := 1, cells := 0, slots := 0, locals := 40 } [.ref y, .int p0, .int q0, .int n0] f (fun r u => ((¬ (I_alt b p0 q0) ∧ r = 1) ∨ (I_alt b p0 q0 ∧ ¬ N_q n0 ∧ r = 2) ∨ (I_alt b p0 q0 ∧ N_q n0 ∧ r = 0)) ∧ u = f) := by
  intro sz
  refine h_ofW (cc := c_M_refusal) (maxL := 4) (ret := (some .int)) (by decide) rfl (Nat.le_of_ble_eq_true rfl) ?_
  intro p e s m below meth c ls C hin hsz hP hl
  obtain ⟨hx, hb, hml, hown, -, -, -, -⟩ := id C
  subst hsz
  have hA0 : ∀ q, s.heap.size ≤ q → hA f s.heap.size q := hA.new
  have hS : va_S (hA f s.heap.size) s.heap s.heap [] := va_S.rf
  replace hl : lv_has ls 4 [(0, .ref y), (1, .int p0), (2, .int q0), (3, .int n0)] := hl
  obtain ⟨MK, PL, AB, BE, AS, FP, PC, PF, PT, PU, RA, KC, PK, ST, DC, DY, DS, SU, hv, hR⟩ := hm
  have hNN : bN b ≤ 40 := hok.1.1
  have hRC : bRc b ≤ 10 := hok.1.2.1
  have hHC : bHc b ≤ 40 := hok.1.2.2
  refine lv_aload_n hx hb d_M_refusal_0 rfl (lv_at hl 0 rfl) ?_
  refine lv_iload_n hx hb d_M_refusal_1 rfl (lv_at hl 1 rfl) ?_
  refine g_calli (g_runV C hl.1 (ct_M_isPart f y ca b hok th bc cp ⟨MK, PL, AB, BE, AS, FP, PC, PF, PT, PU, RA, KC, PK, ST, DC, DY, DS, SU, hv, hR⟩ p0 _) (cx_V C 1 wd_605 wd_607 wp_14 wd_3 wd_608 rfl rfl (by decide +kernel) ⟨Nat.le_of_ble_eq_true rfl, Nat.le_of_ble_eq_true rfl⟩) hP hv.1 rfl rfl rfl (Nat.le_of_ble_eq_true rfl) d_M_refusal_2 ⟨Nat.le_of_ble_eq_true rfl, Nat.le_of_ble_eq_true rfl⟩) hP hS hA0 (fun r2 f1 H locs hq hP hS => ?_)
  obtain ⟨hzP, hu⟩ := hq
  rw [hu] at hP
  refine lv_if_eq (tgt := 16) hx hb d_M_refusal_5 (by decide) (fun c_5 => ?_) (fun c_5 => ?_)
  · refine lv_iconst (v := 1) hx hb d_M_refusal_16 (by decide) ?_
    exact g_iret C hP hS (⟨Or.inl ⟨fun z9 => by first | exact bz_f hzP c_5 z9.1 | exact bz_f hzR c_13 z9.2, rfl⟩, rfl⟩) (Nat.le_of_ble_eq_true rfl) (Nat.le_of_ble_eq_true rfl) d_M_refusal_17
  · refine lv_aload_n hx hb d_M_refusal_8 rfl (lv_at hl 0 rfl) ?_
    refine lv_iload_n hx hb d_M_refusal_9 rfl (lv_at hl 2 rfl) ?_
    refine g_calli (g_runV C hl.1 (ct_M_isRule f y ca b hok th bc cp ⟨MK, PL, AB, BE, AS, FP, PC, PF, PT, PU, RA, KC, PK, ST, DC, DY, DS, SU, hv, hR⟩ q0 _) (cx_V C 1 wd_632 wd_634 wp_16 wd_3 wd_635 rfl rfl (by decide +kernel) ⟨Nat.le_of_ble_eq_true rfl, Nat.le_of_ble_eq_true rfl⟩) hP hv.1 rfl rfl rfl (Nat.le_of_ble_eq_true rfl) d_M_refusal_10 ⟨Nat.le_of_ble_eq_true rfl, Nat.le_of_ble_eq_true rfl⟩) hP hS hA0 (fun r4 f3 H locs hq hP hS => ?_)
    obtain ⟨hzR, hu⟩ := hq
    rw [hu] at hP
    refine lv_if_ne (tgt := 18) hx hb d_M_refusal_13 (by decide) (fun c_13 => ?_) (fun c_13 => ?_)
    · refine lv_iload_n hx hb d_M_refusal_18 rfl (lv_at hl 3 rfl) ?_
      refine g_calli (g_runS C hl.1 (ct_M_isQuantity f n0 _) (cx_S C 1 wd_690 wd_691 wd_3 wd_692 rfl rfl (by decide +kernel) ⟨Nat.le_of_ble_eq_true rfl, Nat.le_of_ble_eq_true rfl⟩) hP rfl rfl (Nat.le_of_ble_eq_true rfl) d_M_refusal_19 ⟨Nat.le_of_ble_eq_true rfl, Nat.le_of_ble_eq_true rfl⟩) hP hS hA0 (fun r6 f5 H locs hq hP hS => ?_)
      obtain ⟨hzQ, hu⟩ := hq
      rw [hu] at hP
      refine lv_if_eq (tgt := 29) hx hb d_M_refusal_22 (by decide) (fun c_22 => ?_) (fun c_22 => ?_)
      · refine lv_iconst (v := 2) hx hb d_M_refusal_29 (by decide) ?_
        exact g_iret C hP hS (⟨Or.inr (Or.inl ⟨⟨bz_t hzP c_5, bz_t hzR c_13⟩, bz_f hzQ c_22, rfl⟩), rfl⟩) (Nat.le_of_ble_eq_true rfl) (Nat.le_of_ble_eq_true rfl) d_M_refusal_30
      · refine lv_iconst (v := 0) hx hb d_M_refusal_25 (by decide) ?_
        refine lv_goto (tgt := 30) hx hb d_M_refusal_26 (by decide) ?_
        exact g_iret C hP hS (⟨Or.inr (Or.inr ⟨⟨bz_t hzP c_5, bz_t hzR c_13⟩, bz_t hzQ c_22, rfl⟩), rfl⟩) (Nat.le_of_ble_eq_true rfl) (Nat.le_of_ble_eq_true rfl) d_M_refusal_30
    · refine lv_iconst (v := 1) hx hb d_M_refusal_16 (by decide) ?_
      exact g_iret C hP hS (⟨Or.inl ⟨fun z9 => by first | exact bz_f hzP c_5 z9.1 | exact bz_f hzR c_13 z9.2, rfl⟩, rfl⟩) (Nat.le_of_ble_eq_true rfl) (Nat.le_of_ble_eq_true rfl) d_M_refusal_17
set_option maxHeartbeats 4000000 in
set_option maxRecDepth 100000 in
theorem ct_M_choose {l : Launch} {G : hG} (f : hm) (y : Nat) (ca : Nat → Nat) (b : BD) (hok : bOK b) (th : Int32) (bc : Int64) (cp : Int32) (hm : mS G f y ca b th bc cp) (p0 : Int32) (q0 : Int32) (n0 : Int32) (d : Int64) (r0 : Int32) (b1 : BD) (hK0 : I_alt b p0 q0 → N_q n0 → K_choose b p0 q0 n0 d r0 ∧ b1 = b) : ci_ l G y_M_choose w_M_choose { frames := 4, cells := 0, slots := 0, locals := 180 } [.ref y, .int p0, .int q0, .int n0, .long d] f (fun r u => ∃ th2 b2 bc2 cp2, mS G u y ca b2 th2 bc2 cp2 ∧ mp (I_alt b p0 q0) (N_q n0) b b1 (r = r0) th2 b2) := by
  intro sz
  refine h_ofW (cc := c_M_choose) (maxL := 6) (ret := (some .int)) (by decide) rfl (Nat.le_of_ble_eq_true rfl) ?_
  intro p e s m below meth c ls C hin hsz hP hl
  obtain ⟨hx, hb, hml, hown, -, -, -, -⟩ := id C
  subst hsz
  have hA0 : ∀ q, s.heap.size ≤ q → hA f s.heap.size q := hA.new
  have hS : va_S (hA f s.heap.size) s.heap s.heap [] := va_S.rf
  replace hl : lv_has ls 6 [(0, .ref y), (1, .int p0), (2, .int q0), (3, .int n0), (4, .long d)] := hl
  obtain ⟨MK, PL, AB, BE, AS, FP, PC, PF, PT, PU, RA, KC, PK, ST, DC, DY, DS, SU, hv, hR⟩ := hm
  have hNN : bN b ≤ 40 := hok.1.1
  have hRC : bRc b ≤ 10 := hok.1.2.1
  have hHC : bHc b ≤ 40 := hok.1.2.2
  refine lv_aload_n hx hb d_M_choose_0 rfl (lv_at hl 0 rfl) ?_
  refine lv_aload_n hx hb d_M_choose_1 rfl (lv_at hl 0 rfl) ?_
  refine lv_iload_n hx hb d_M_choose_2 rfl (lv_at hl 1 rfl) ?_
  refine lv_iload_n hx hb d_M_choose_3 rfl (lv_at hl 2 rfl) ?_
  refine lv_iload_n hx hb d_M_choose_4 rfl (lv_at hl 3 rfl) ?_
  refine g_calli (g_runV C hl.1 (ct_M_refusal f y ca b hok th bc cp ⟨MK, PL, AB, BE, AS, FP, PC, PF, PT, PU, RA, KC, PK, ST, DC, DY, DS, SU, hv, hR⟩ p0 q0 n0 _) (cx_V C 3 wd_725 wd_727 wp_25 wd_3 wd_728 rfl rfl (by decide +kernel) ⟨Nat.le_of_ble_eq_true rfl, Nat.le_of_ble_eq_true rfl⟩) hP hv.1 rfl rfl rfl (Nat.le_of_ble_eq_true rfl) d_M_choose_5 ⟨Nat.le_of_ble_eq_true rfl, Nat.le_of_ble_eq_true rfl⟩) hP hS hA0 (fun r2 f1 H locs hq hP hS => ?_)
  obtain ⟨hq, hu⟩ := hq
  rw [hu] at hP
  rcases hq with ⟨hB, rfl⟩ | ⟨hI, hB, rfl⟩ | ⟨hI, hN, rfl⟩
  · have hx1 := hx
    refine g_put C i_M t_M t_M_ok n_M hP hS hv.1 rfl 0 (by decide) wd_506 rfl rfl rfl (rfl) (Nat.le_of_ble_eq_true rfl) d_M_choose_8 (fun H locs hP hS => ?_)
    obtain ⟨f3, ef3⟩ : ∃ z99, z99 = va_up f y (some (ob 4 [.int 1, .int (nI (bN b)), .ref (ca 0), .ref (ca 1), .ref (ca 2), .ref (ca 3), .int (nI (bRc b)), .ref (ca 4), .int (nI (bHc b)), .ref (ca 5), .ref (ca 6), .ref (ca 7), .ref (ca 8), .ref (ca 9), .ref (ca 10), .ref (ca 11), .ref (ca 12), .ref (ca 13), .ref (ca 14), .ref (ca 15), .ref (ca 16), .ref (ca 17), .long bc, .int cp])) := ⟨_, rfl⟩
    replace hP : hH G (hA f s.heap.size) f3 H := by rw [ef3]; exact hP
    have hv_f3 : mv G f3 y ca 1 (nI (bN b)) (nI (bRc b)) (nI (bHc b)) bc cp MK PL AB BE AS FP PC PF PT PU RA KC PK ST DC DY DS SU := by rw [ef3]; exact mv_y hv _ _ _ _ _ _
    refine lv_aload_n hx hb d_M_choose_11 rfl (lv_at hl 0 rfl) ?_
    refine g_get C i_M hP hv_f3.1 rfl 0 (by decide) wd_506 rfl rfl d_M_choose_12 ?_
    refine lv_if_ne (tgt := 30) hx hb d_M_choose_15 (by decide) (fun c_15 => ?_) (fun c_15 => ?_)
    · refine lv_iconst (v := 0) hx hb d_M_choose_30 (by decide) ?_
      exact g_iret C hP hS (⟨1, b, bc, cp, ⟨MK, PL, AB, BE, AS, FP, PC, PF, PT, PU, RA, KC, PK, ST, DC, DY, DS, SU, hv_f3, hR⟩, Or.inr (Or.inr ⟨hB, rfl, rfl⟩)⟩) (Nat.le_of_ble_eq_true rfl) (Nat.le_of_ble_eq_true rfl) d_M_choose_31
    · exact absurd c_15 (by decide)
  · have hx1 := hx
    refine g_put C i_M t_M t_M_ok n_M hP hS hv.1 rfl 0 (by decide) wd_506 rfl rfl rfl (rfl) (Nat.le_of_ble_eq_true rfl) d_M_choose_8 (fun H locs hP hS => ?_)
    obtain ⟨f4, ef4⟩ : ∃ z99, z99 = va_up f y (some (ob 4 [.int 2, .int (nI (bN b)), .ref (ca 0), .ref (ca 1), .ref (ca 2), .ref (ca 3), .int (nI (bRc b)), .ref (ca 4), .int (nI (bHc b)), .ref (ca 5), .ref (ca 6), .ref (ca 7), .ref (ca 8), .ref (ca 9), .ref (ca 10), .ref (ca 11), .ref (ca 12), .ref (ca 13), .ref (ca 14), .ref (ca 15), .ref (ca 16), .ref (ca 17), .long bc, .int cp])) := ⟨_, rfl⟩
    replace hP : hH G (hA f s.heap.size) f4 H := by rw [ef4]; exact hP
    have hv_f4 : mv G f4 y ca 2 (nI (bN b)) (nI (bRc b)) (nI (bHc b)) bc cp MK PL AB BE AS FP PC PF PT PU RA KC PK ST DC DY DS SU := by rw [ef4]; exact mv_y hv _ _ _ _ _ _
    refine lv_aload_n hx hb d_M_choose_11 rfl (lv_at hl 0 rfl) ?_
    refine g_get C i_M hP hv_f4.1 rfl 0 (by decide) wd_506 rfl rfl d_M_choose_12 ?_
    refine lv_if_ne (tgt := 30) hx hb d_M_choose_15 (by decide) (fun c_15 => ?_) (fun c_15 => ?_)
    · refine lv_iconst (v := 0) hx hb d_M_choose_30 (by decide) ?_
      exact g_iret C hP hS (⟨2, b, bc, cp, ⟨MK, PL, AB, BE, AS, FP, PC, PF, PT, PU, RA, KC, PK, ST, DC, DY, DS, SU, hv_f4, hR⟩, Or.inr (Or.inl ⟨hI, hB, rfl, rfl⟩)⟩) (Nat.le_of_ble_eq_true rfl) (Nat.le_of_ble_eq_true rfl) d_M_choose_31
    · exact absurd c_15 (by decide)
  · obtain ⟨⟨v, o0, ⟨i, j, hi, rfl, hj, rfl, hv1, hv2, rfl, hCH0⟩, hr0⟩, eb⟩ := hK0 hI hN
    refine g_put C i_M t_M t_M_ok n_M hP hS hv.1 rfl 0 (by decide) wd_506 rfl rfl rfl (rfl) (Nat.le_of_ble_eq_true rfl) d_M_choose_8 (fun H locs hP hS => ?_)
    obtain ⟨f5, ef5⟩ : ∃ z99, z99 = va_up f y (some (ob 4 [.int 0, .int (nI (bN b)), .ref (ca 0), .ref (ca 1), .ref (ca 2), .ref (ca 3), .int (nI (bRc b)), .ref (ca 4), .int (nI (bHc b)), .ref (ca 5), .ref (ca 6), .ref (ca 7), .ref (ca 8), .ref (ca 9), .ref (ca 10), .ref (ca 11), .ref (ca 12), .ref (ca 13), .ref (ca 14), .ref (ca 15), .ref (ca 16), .ref (ca 17), .long bc, .int cp])) := ⟨_, rfl⟩
    replace hP : hH G (hA f s.heap.size) f5 H := by rw [ef5]; exact hP
    have hv_f5 : mv G f5 y ca 0 (nI (bN b)) (nI (bRc b)) (nI (bHc b)) bc cp MK PL AB BE AS FP PC PF PT PU RA KC PK ST DC DY DS SU := by rw [ef5]; exact mv_y hv _ _ _ _ _ _
    refine lv_aload_n hx hb d_M_choose_11 rfl (lv_at hl 0 rfl) ?_
    refine g_get C i_M hP hv_f5.1 rfl 0 (by decide) wd_506 rfl rfl d_M_choose_12 ?_
    refine lv_if_ne (tgt := 30) hx hb d_M_choose_15 (by decide) (fun c_15 => ?_) (fun c_15 => ?_)
    · exact absurd c_15 (by decide)
    · refine lv_aload_n hx hb d_M_choose_18 rfl (lv_at hl 0 rfl) ?_
      refine lv_iload_n hx hb d_M_choose_19 rfl (lv_at hl 1 rfl) ?_
      refine lv_iload_n hx hb d_M_choose_20 rfl (lv_at hl 2 rfl) ?_
      refine lv_iload_n hx hb d_M_choose_21 rfl (lv_at hl 3 rfl) ?_
      refine lv_lload hx hb d_M_choose_22 (lv_at hl 4 rfl) ?_
      refine g_calli (g_runV C hl.1 (ct_M_chosen f5 y ca b hok 0 bc cp ⟨MK, PL, AB, BE, AS, FP, PC, PF, PT, PU, RA, KC, PK, ST, DC, DY, DS, SU, hv_f5, hR⟩ i hi j hj v hv1 hv2 d _) (cx_V C 4 wd_729 wd_731 wp_26 wd_3 wd_732 rfl rfl (by decide +kernel) ⟨Nat.le_of_ble_eq_true rfl, Nat.le_of_ble_eq_true rfl⟩) hP hv_f5.1 rfl rfl rfl (Nat.le_of_ble_eq_true rfl) d_M_choose_24 ⟨Nat.le_of_ble_eq_true rfl, Nat.le_of_ble_eq_true rfl⟩) hP hS hA0 (fun r7 f6 H locs hq hP hS => ?_)
      obtain ⟨o, bc2, cp2, hCH, rfl, hcp, hm2⟩ := hq
      obtain ⟨MK_1, PL_1, AB_1, BE_1, AS_1, FP_1, PC_1, PF_1, PT_1, PU_1, RA_1, KC_1, PK_1, ST_1, DC_1, DY_1, DS_1, SU_1, hv_10, hR_1⟩ := hm2
      have hv_1 : mv G f6 y ca 0 (nI (bN b)) (nI (bRc b)) (nI (bHc b)) bc2 cp2 MK_1 PL_1 AB_1 BE_1 AS_1 FP_1 PC_1 PF_1 PT_1 PU_1 RA_1 KC_1 PK_1 ST_1 DC_1 DY_1 DS_1 SU_1 := hv_10
      refine lv_goto (tgt := 31) hx hb d_M_choose_27 (by decide) ?_
      exact g_iret C hP hS (⟨0, b, bc2, cp2, ⟨MK_1, PL_1, AB_1, BE_1, AS_1, FP_1, PC_1, PF_1, PT_1, PU_1, RA_1, KC_1, PK_1, ST_1, DC_1, DY_1, DS_1, SU_1, hv_1, hR_1⟩, Or.inl ⟨hI, hN, rfl, eb.symm, by rw [hr0, CH_uni hCH hCH0]⟩⟩) (Nat.le_of_ble_eq_true rfl) (Nat.le_of_ble_eq_true rfl) d_M_choose_31
set_option maxHeartbeats 4000000 in
set_option maxRecDepth 100000 in
theorem ct_M_buy {l : Launch} {G : hG} (f : hm) (y : Nat) (ca : Nat → Nat) (b : BD) (hok : bOK b) (th : Int32) (bc : Int64) (cp : Int32) (hm : mS G f y ca b th bc cp) (p0 : Int32) (q0 : Int32) (n0 : Int32) (d : Int64) (r0 : Int32) (b1 : BD) (hK0 : I_alt b p0 q0 → N_q n0 → K_buy b p0 q0 n0 d r0 b1) : ci_ l G y_M_buy w_M_buy { frames := 4, cells := 0, slots := 0, locals := 180 } [.ref y, .int p0, .int q0, .int n0, .long d] f (fun r u => ∃ th2 b2 bc2 cp2, mS G u y ca b2 th2 bc2 cp2 ∧ mp (I_alt b p0 q0) (N_q n0) b b1 (r = r0) th2 b2) := by
  intro sz
  refine h_ofW (cc := c_M_buy) (maxL := 7) (ret := (some .int)) (by decide) rfl (Nat.le_of_ble_eq_true rfl) ?_
  intro p e s m below meth c ls C hin hsz hP hl
  obtain ⟨hx, hb, hml, hown, -, -, -, -⟩ := id C
  subst hsz
  have hA0 : ∀ q, s.heap.size ≤ q → hA f s.heap.size q := hA.new
  have hS : va_S (hA f s.heap.size) s.heap s.heap [] := va_S.rf
  replace hl : lv_has ls 7 [(0, .ref y), (1, .int p0), (2, .int q0), (3, .int n0), (4, .long d)] := hl
  obtain ⟨MK, PL, AB, BE, AS, FP, PC, PF, PT, PU, RA, KC, PK, ST, DC, DY, DS, SU, hv, hR⟩ := hm
  have hNN : bN b ≤ 40 := hok.1.1
  have hRC : bRc b ≤ 10 := hok.1.2.1
  have hHC : bHc b ≤ 40 := hok.1.2.2
  refine lv_aload_n hx hb d_M_buy_0 rfl (lv_at hl 0 rfl) ?_
  refine lv_aload_n hx hb d_M_buy_1 rfl (lv_at hl 0 rfl) ?_
  refine lv_iload_n hx hb d_M_buy_2 rfl (lv_at hl 1 rfl) ?_
  refine lv_iload_n hx hb d_M_buy_3 rfl (lv_at hl 2 rfl) ?_
  refine lv_iload_n hx hb d_M_buy_4 rfl (lv_at hl 3 rfl) ?_
  refine g_calli (g_runV C hl.1 (ct_M_refusal f y ca b hok th bc cp ⟨MK, PL, AB, BE, AS, FP, PC, PF, PT, PU, RA, KC, PK, ST, DC, DY, DS, SU, hv, hR⟩ p0 q0 n0 _) (cx_V C 3 wd_725 wd_727 wp_25 wd_3 wd_728 rfl rfl (by decide +kernel) ⟨Nat.le_of_ble_eq_true rfl, Nat.le_of_ble_eq_true rfl⟩) hP hv.1 rfl rfl rfl (Nat.le_of_ble_eq_true rfl) d_M_buy_5 ⟨Nat.le_of_ble_eq_true rfl, Nat.le_of_ble_eq_true rfl⟩) hP hS hA0 (fun r2 f1 H locs hq hP hS => ?_)
  obtain ⟨hq, hu⟩ := hq
  rw [hu] at hP
  rcases hq with ⟨hB, rfl⟩ | ⟨hI, hB, rfl⟩ | ⟨hI, hN, rfl⟩
  · have hx1 := hx
    refine g_put C i_M t_M t_M_ok n_M hP hS hv.1 rfl 0 (by decide) wd_506 rfl rfl rfl (rfl) (Nat.le_of_ble_eq_true rfl) d_M_buy_8 (fun H locs hP hS => ?_)
    obtain ⟨f3, ef3⟩ : ∃ z99, z99 = va_up f y (some (ob 4 [.int 1, .int (nI (bN b)), .ref (ca 0), .ref (ca 1), .ref (ca 2), .ref (ca 3), .int (nI (bRc b)), .ref (ca 4), .int (nI (bHc b)), .ref (ca 5), .ref (ca 6), .ref (ca 7), .ref (ca 8), .ref (ca 9), .ref (ca 10), .ref (ca 11), .ref (ca 12), .ref (ca 13), .ref (ca 14), .ref (ca 15), .ref (ca 16), .ref (ca 17), .long bc, .int cp])) := ⟨_, rfl⟩
    replace hP : hH G (hA f s.heap.size) f3 H := by rw [ef3]; exact hP
    have hv_f3 : mv G f3 y ca 1 (nI (bN b)) (nI (bRc b)) (nI (bHc b)) bc cp MK PL AB BE AS FP PC PF PT PU RA KC PK ST DC DY DS SU := by rw [ef3]; exact mv_y hv _ _ _ _ _ _
    refine lv_aload_n hx hb d_M_buy_11 rfl (lv_at hl 0 rfl) ?_
    refine g_get C i_M hP hv_f3.1 rfl 0 (by decide) wd_506 rfl rfl d_M_buy_12 ?_
    refine lv_if_eq (tgt := 20) hx hb d_M_buy_15 (by decide) (fun c_15 => ?_) (fun c_15 => ?_)
    · exact absurd c_15 (by decide)
    · refine lv_iconst (v := 0) hx hb d_M_buy_18 (by decide) ?_
      exact g_iret C hP hS (⟨1, b, bc, cp, ⟨MK, PL, AB, BE, AS, FP, PC, PF, PT, PU, RA, KC, PK, ST, DC, DY, DS, SU, hv_f3, hR⟩, Or.inr (Or.inr ⟨hB, rfl, rfl⟩)⟩) (Nat.le_of_ble_eq_true rfl) (Nat.le_of_ble_eq_true rfl) d_M_buy_19
  · have hx1 := hx
    refine g_put C i_M t_M t_M_ok n_M hP hS hv.1 rfl 0 (by decide) wd_506 rfl rfl rfl (rfl) (Nat.le_of_ble_eq_true rfl) d_M_buy_8 (fun H locs hP hS => ?_)
    obtain ⟨f4, ef4⟩ : ∃ z99, z99 = va_up f y (some (ob 4 [.int 2, .int (nI (bN b)), .ref (ca 0), .ref (ca 1), .ref (ca 2), .ref (ca 3), .int (nI (bRc b)), .ref (ca 4), .int (nI (bHc b)), .ref (ca 5), .ref (ca 6), .ref (ca 7), .ref (ca 8), .ref (ca 9), .ref (ca 10), .ref (ca 11), .ref (ca 12), .ref (ca 13), .ref (ca 14), .ref (ca 15), .ref (ca 16), .ref (ca 17), .long bc, .int cp])) := ⟨_, rfl⟩
    replace hP : hH G (hA f s.heap.size) f4 H := by rw [ef4]; exact hP
    have hv_f4 : mv G f4 y ca 2 (nI (bN b)) (nI (bRc b)) (nI (bHc b)) bc cp MK PL AB BE AS FP PC PF PT PU RA KC PK ST DC DY DS SU := by rw [ef4]; exact mv_y hv _ _ _ _ _ _
    refine lv_aload_n hx hb d_M_buy_11 rfl (lv_at hl 0 rfl) ?_
    refine g_get C i_M hP hv_f4.1 rfl 0 (by decide) wd_506 rfl rfl d_M_buy_12 ?_
    refine lv_if_eq (tgt := 20) hx hb d_M_buy_15 (by decide) (fun c_15 => ?_) (fun c_15 => ?_)
    · exact absurd c_15 (by decide)
    · refine lv_iconst (v := 0) hx hb d_M_buy_18 (by decide) ?_
      exact g_iret C hP hS (⟨2, b, bc, cp, ⟨MK, PL, AB, BE, AS, FP, PC, PF, PT, PU, RA, KC, PK, ST, DC, DY, DS, SU, hv_f4, hR⟩, Or.inr (Or.inl ⟨hI, hB, rfl, rfl⟩)⟩) (Nat.le_of_ble_eq_true rfl) (Nat.le_of_ble_eq_true rfl) d_M_buy_19
  · obtain ⟨v, o0, ⟨i, j, hi, rfl, hj, rfl, hv1, hv2, rfl, hCH0⟩, hK1⟩ := hK0 hI hN
    refine g_put C i_M t_M t_M_ok n_M hP hS hv.1 rfl 0 (by decide) wd_506 rfl rfl rfl (rfl) (Nat.le_of_ble_eq_true rfl) d_M_buy_8 (fun H locs hP hS => ?_)
    obtain ⟨f5, ef5⟩ : ∃ z99, z99 = va_up f y (some (ob 4 [.int 0, .int (nI (bN b)), .ref (ca 0), .ref (ca 1), .ref (ca 2), .ref (ca 3), .int (nI (bRc b)), .ref (ca 4), .int (nI (bHc b)), .ref (ca 5), .ref (ca 6), .ref (ca 7), .ref (ca 8), .ref (ca 9), .ref (ca 10), .ref (ca 11), .ref (ca 12), .ref (ca 13), .ref (ca 14), .ref (ca 15), .ref (ca 16), .ref (ca 17), .long bc, .int cp])) := ⟨_, rfl⟩
    replace hP : hH G (hA f s.heap.size) f5 H := by rw [ef5]; exact hP
    have hv_f5 : mv G f5 y ca 0 (nI (bN b)) (nI (bRc b)) (nI (bHc b)) bc cp MK PL AB BE AS FP PC PF PT PU RA KC PK ST DC DY DS SU := by rw [ef5]; exact mv_y hv _ _ _ _ _ _
    refine lv_aload_n hx hb d_M_buy_11 rfl (lv_at hl 0 rfl) ?_
    refine g_get C i_M hP hv_f5.1 rfl 0 (by decide) wd_506 rfl rfl d_M_buy_12 ?_
    refine lv_if_eq (tgt := 20) hx hb d_M_buy_15 (by decide) (fun c_15 => ?_) (fun c_15 => ?_)
    · refine lv_aload_n hx hb d_M_buy_20 rfl (lv_at hl 0 rfl) ?_
      refine lv_iload_n hx hb d_M_buy_21 rfl (lv_at hl 1 rfl) ?_
      refine lv_iload_n hx hb d_M_buy_22 rfl (lv_at hl 2 rfl) ?_
      refine lv_iload_n hx hb d_M_buy_23 rfl (lv_at hl 3 rfl) ?_
      refine lv_lload hx hb d_M_buy_24 (lv_at hl 4 rfl) ?_
      refine g_calli (g_runV C hl.1 (ct_M_chosen f5 y ca b hok 0 bc cp ⟨MK, PL, AB, BE, AS, FP, PC, PF, PT, PU, RA, KC, PK, ST, DC, DY, DS, SU, hv_f5, hR⟩ i hi j hj v hv1 hv2 d _) (cx_V C 4 wd_729 wd_731 wp_26 wd_3 wd_732 rfl rfl (by decide +kernel) ⟨Nat.le_of_ble_eq_true rfl, Nat.le_of_ble_eq_true rfl⟩) hP hv_f5.1 rfl rfl rfl (Nat.le_of_ble_eq_true rfl) d_M_buy_26 ⟨Nat.le_of_ble_eq_true rfl, Nat.le_of_ble_eq_true rfl⟩) hP hS hA0 (fun r7 f6 H locs hq hP hS => ?_)
      obtain ⟨o, bc2, cp2, hCH, rfl, hcp, hm2⟩ := hq
      obtain ⟨MK_1, PL_1, AB_1, BE_1, AS_1, FP_1, PC_1, PF_1, PT_1, PU_1, RA_1, KC_1, PK_1, ST_1, DC_1, DY_1, DS_1, SU_1, hv_10, hR_1⟩ := hm2
      have hv_1 : mv G f6 y ca 0 (nI (bN b)) (nI (bRc b)) (nI (bHc b)) bc2 cp2 MK_1 PL_1 AB_1 BE_1 AS_1 FP_1 PC_1 PF_1 PT_1 PU_1 RA_1 KC_1 PK_1 ST_1 DC_1 DY_1 DS_1 SU_1 := hv_10
      have eo := CH_uni hCH hCH0
      subst eo
      rcases o with _ | z
      · obtain ⟨-, hr0, eb⟩ := hK1.resolve_right (fun ⟨z, t, h9, _⟩ => by cases h9)
        refine lv_istore (lv' := [(6, .int (-1)), (0, .ref y), (1, .int (nI i)), (2, .int (nI j)), (3, .int (nI v)), (4, .long d)]) hx hb d_M_buy_29 hl (by decide) rfl (fun ls hl => ?_)
        refine lv_iload hx hb d_M_buy_31 (lv_at hl 0 rfl) ?_
        refine lv_iconst (v := (-1)) hx hb d_M_buy_33 (by decide) ?_
        refine lv_icmp_ne (tgt := 39) hx hb d_M_buy_34 (by decide) (fun c_34 => ?_) (fun c_34 => ?_)
        · exact absurd rfl c_34
        · refine lv_iconst (v := (-1)) hx hb d_M_buy_37 (by decide) ?_
          exact g_iret C hP hS (⟨0, b, bc2, cp2, ⟨MK_1, PL_1, AB_1, BE_1, AS_1, FP_1, PC_1, PF_1, PT_1, PU_1, RA_1, KC_1, PK_1, ST_1, DC_1, DY_1, DS_1, SU_1, hv_1, hR_1⟩, Or.inl ⟨hI, hN, rfl, eb.symm, hr0.symm⟩⟩) (Nat.le_of_ble_eq_true rfl) (Nat.le_of_ble_eq_true rfl) d_M_buy_38
      · obtain ⟨z2, t, ez, hz, hBz, hr0, rfl⟩ := hK1.resolve_left (fun h9 => by cases h9.1)
        cases ez
        obtain ⟨t2, hB2, rfl⟩ := hcp z rfl
        have et : t2 = t := Option.some.inj (BT_uni hB2 hBz)
        subst et
        have htl : t2.1 ≤ pPc (bD b z) := by obtain ⟨k, -, hc, -⟩ := hBz; exact hc.2.1
        have hst := hR_1.2.2.1 z (by omega)
        have hvq : mv G f6 y ca 0 (nI (bN b)) (nI (bRc b)) (nI (bHc b)) bc2 (nI t2.1) MK_1 PL_1 AB_1 BE_1 AS_1 FP_1 PC_1 PF_1 PT_1 PU_1 RA_1 KC_1 PK_1 ST_1 DC_1 DY_1 DS_1 SU_1 := hv_1
        refine lv_istore (lv' := [(6, .int (nI z)), (0, .ref y), (1, .int (nI i)), (2, .int (nI j)), (3, .int (nI v)), (4, .long d)]) hx hb d_M_buy_29 hl (by decide) rfl (fun ls hl => ?_)
        refine lv_iload hx hb d_M_buy_31 (lv_at hl 0 rfl) ?_
        refine lv_iconst (v := (-1)) hx hb d_M_buy_33 (by decide) ?_
        refine lv_icmp_ne (tgt := 39) hx hb d_M_buy_34 (by decide) (fun c_34 => ?_) (fun c_34 => ?_)
        · refine lv_aload_n hx hb d_M_buy_39 rfl (lv_at hl 1 rfl) ?_
          refine g_get C i_M hP hvq.1 rfl 17 (by decide) wd_523 rfl rfl d_M_buy_40 ?_
          refine lv_iload hx hb d_M_buy_43 (lv_at hl 0 rfl) ?_
          refine lv_dup2_11 hx hb d_M_buy_45 rfl rfl ?_
          refine g_ialdN C hP hvq.2.2.2.2.2.2.2.2.2.2.2.2.2.2.1 (j := z) (by omega) (by decide) d_M_buy_46 ?_
          refine g_eqi (y := nI (pPc (bD b z))) (hst) ?_
          refine lv_aload_n hx hb d_M_buy_47 rfl (lv_at hl 1 rfl) ?_
          refine g_get C i_M hP hvq.1 rfl 23 (by decide) wd_529 rfl rfl d_M_buy_48 ?_
          refine lv_isub hx hb d_M_buy_51 ?_
          refine g_eqi (y := nI (pPc (bD b z) - t2.1)) (pk_sub htl) ?_
          refine g_iastN C hP hS hvq.2.2.2.2.2.2.2.2.2.2.2.2.2.2.1 (j := z) (by omega) (by decide) d_M_buy_52 (fun H locs hP hS => ?_)
          obtain ⟨g9, eg9⟩ : ∃ z99, z99 = upd ST_1 z (nI (pPc (bD b z) - t2.1)) := ⟨_, rfl⟩
          rw [← eg9] at hP
          obtain ⟨f8, ef8⟩ : ∃ z99, z99 = va_up f6 (ca 13) (some (aI G 40 g9)) := ⟨_, rfl⟩
          replace hP : hH G (hA f s.heap.size) f8 H := by rw [ef8]; exact hP
          have hv_f8 : mv G f8 y ca 0 (nI (bN b)) (nI (bRc b)) (nI (bHc b)) bc2 (nI t2.1) MK_1 PL_1 AB_1 BE_1 AS_1 FP_1 PC_1 PF_1 PT_1 PU_1 RA_1 KC_1 PK_1 g9 DC_1 DY_1 DS_1 SU_1 := by rw [ef8]; exact mv_13 hvq _
          refine lv_aload_n hx hb d_M_buy_53 rfl (lv_at hl 1 rfl) ?_
          refine g_get C i_M hP hv_f8.1 rfl 23 (by decide) wd_529 rfl rfl d_M_buy_54 ?_
          subst eg9
          exact g_iret C hP hS (⟨0, bSet b z (dPc (bD b z) (pPc (bD b z) - t2.1)), bc2, nI t2.1, ⟨MK_1, PL_1, AB_1, BE_1, AS_1, FP_1, PC_1, PF_1, PT_1, PU_1, RA_1, KC_1, PK_1, _, DC_1, DY_1, DS_1, SU_1, hv_f8, (mR_st hR_1 z (pPc (bD b z) - t2.1) hz hNN)⟩, Or.inl ⟨hI, hN, rfl, rfl, hr0.symm⟩⟩) (Nat.le_of_ble_eq_true rfl) (Nat.le_of_ble_eq_true rfl) d_M_buy_57
        · exact absurd c_34 (nI_nm1 (by omega))
    · exact absurd c_15 (by decide)
theorem ten_st {a k : Nat} : (10 : Int64) * lN (a * 10 ^ k) = lN (a * 10 ^ (k + 1)) := by
  show lN 10 * lN (a * 10 ^ k) = _
  rw [lN_mul, Nat.pow_succ, Nat.mul_left_comm, Nat.mul_comm 10]
theorem neg_st {k : Nat} : -nI k + (-1) = -nI (k + 1) := by
  rw [nI_succ, Int32.neg_add, Int32.sub_eq_add_neg]
theorem u_e1 {un : Int32} {a k : Nat} (hk : k ≤ 9) (h3 : k = 0 ∨ (k : Int) ≤ un.toInt) (h : un ≤ nI k) : a * 10 ^ k = uA a un := by
  have h1 := Int32.le_iff_toInt_le.mp h
  rw [nI_toInt (by omega)] at h1
  unfold uA
  by_cases hu : 0 < un
  · have h2 : 0 < un.toInt := Int32.lt_iff_toInt_lt.mp hu
    rw [if_pos hu, show un.toInt.toNat = k by omega]
  · have h2 : ¬ 0 < un.toInt := fun z => hu (Int32.lt_iff_toInt_lt.mpr z)
    rw [if_neg hu, show k = 0 by omega, Nat.pow_zero, Nat.mul_one]
theorem u_e2 {un : Int32} {a k : Nat} (hk : k ≤ 9) (h3 : k = 0 ∨ un.toInt ≤ -(k : Int)) (h : -nI k ≤ un) : a * 10 ^ k = uB a un := by
  have h1 := Int32.le_iff_toInt_le.mp h
  rw [sb_negT (by omega)] at h1
  unfold uB
  by_cases hu : un < 0
  · have h2 : un.toInt < 0 := Int32.lt_iff_toInt_lt.mp hu
    rw [if_pos hu, show (-un.toInt).toNat = k by omega]
  · have h2 : ¬ un.toInt < 0 := fun z => hu (Int32.lt_iff_toInt_lt.mpr z)
    rw [if_neg hu, show k = 0 by omega, Nat.pow_zero, Nat.mul_one]
theorem u_k1 {un : Int32} {k : Nat} (hk : k ≤ 9) (hu : -9 ≤ un.toInt ∧ un.toInt ≤ 9) (h : nI k < un) : k + 1 ≤ 9 ∧ ((k : Int) + 1) ≤ un.toInt := by
  have h1 := Int32.lt_iff_toInt_lt.mp h
  rw [nI_toInt (by omega)] at h1
  omega
theorem u_k2 {un : Int32} {k : Nat} (hk : k ≤ 9) (hu : -9 ≤ un.toInt ∧ un.toInt ≤ 9) (h : un < -nI k) : k + 1 ≤ 9 ∧ un.toInt ≤ -((k : Int) + 1) := by
  have h1 := Int32.lt_iff_toInt_lt.mp h
  rw [sb_negT (by omega)] at h1
  omega
set_option maxHeartbeats 4000000 in
set_option maxRecDepth 100000 in
theorem ct_M_value {l : Launch} {G : hG} (f : hm) (y : Nat) (ca : Nat → Nat) (b : BD) (hok : bOK b) (th : Int32) (bc : Int64) (cp : Int32) (hm : mS G f y ca b th bc cp) (p0 : Int32) (n0 : Int32) (x0 : Int64) (y0 : Int64) (un0 : Int32) (r0 : Int32) (b1 : BD) (hK0 : I_pn b p0 n0 → N_value x0 y0 un0 → K_value b p0 n0 x0 y0 un0 r0 b1) : ci_ l G y_M_value w_M_value { frames := 2, cells := 0, slots := 0, locals := 120 } [.ref y, .int p0, .int n0, .long x0, .long y0, .int un0] f (fun r u => ∃ th2 b2 bc2 cp2, mS G u y ca b2 th2 bc2 cp2 ∧ mp (I_pn b p0 n0) (N_value x0 y0 un0) b b1 (r = r0) th2 b2) := by
  intro sz
  refine h_ofW (cc := c_M_value) (maxL := 17) (ret := (some .boolean)) (by decide) rfl (Nat.le_of_ble_eq_true rfl) ?_
  intro p e s m below meth c ls C hin hsz hP hl
  obtain ⟨hx, hb, hml, hown, -, -, -, -⟩ := id C
  subst hsz
  have hA0 : ∀ q, s.heap.size ≤ q → hA f s.heap.size q := hA.new
  have hS : va_S (hA f s.heap.size) s.heap s.heap [] := va_S.rf
  replace hl : lv_has ls 17 [(0, .ref y), (1, .int p0), (2, .int n0), (3, .long x0), (5, .long y0), (7, .int un0)] := hl
  obtain ⟨MK, PL, AB, BE, AS, FP, PC, PF, PT, PU, RA, KC, PK, ST, DC, DY, DS, SU, hv, hR⟩ := hm
  have hNN : bN b ≤ 40 := hok.1.1
  have hRC : bRc b ≤ 10 := hok.1.2.1
  have hHC : bHc b ≤ 40 := hok.1.2.2
  refine lv_lload_n hx hb d_M_value_0 rfl (lv_at hl 3 rfl) ?_
  refine g_calli (g_runS C hl.1 (ct_M_isAbove f x0 _) (cx_S C 1 wd_597 wd_598 wd_3 wd_599 rfl rfl (by decide +kernel) ⟨Nat.le_of_ble_eq_true rfl, Nat.le_of_ble_eq_true rfl⟩) hP rfl rfl (Nat.le_of_ble_eq_true rfl) d_M_value_1 ⟨Nat.le_of_ble_eq_true rfl, Nat.le_of_ble_eq_true rfl⟩) hP hS hA0 (fun r2 f1 H locs hq hP hS => ?_)
  obtain ⟨hzA, hu⟩ := hq
  rw [hu] at hP
  refine lv_if_eq (tgt := 33) hx hb d_M_value_4 (by decide) (fun c_4 => ?_) (fun c_4 => ?_)
  · refine lv_iconst (v := 0) hx hb d_M_value_33 (by decide) ?_
    have hG : ¬ (N_value x0 y0 un0) := fun z9 => by first | exact bz_f hzA c_4 z9.1.1 | exact bz_f hzB c_12 z9.1.2 | exact Int32.not_lt.mpr z9.2.1 c_19 | exact Int32.not_lt.mpr z9.2.2 c_26
    refine lv_istore (lv' := [(8, .int 0), (0, .ref y), (1, .int p0), (2, .int n0), (3, .long x0), (5, .long y0), (7, .int un0)]) hx hb d_M_value_34 hl (by decide) rfl (fun ls hl => ?_)
    refine lv_aload_n hx hb d_M_value_36 rfl (lv_at hl 1 rfl) ?_
    refine lv_aload_n hx hb d_M_value_37 rfl (lv_at hl 1 rfl) ?_
    refine lv_iload_n hx hb d_M_value_38 rfl (lv_at hl 2 rfl) ?_
    refine g_calli (g_runV C hl.1 (ct_M_isPart f y ca b hok th bc cp ⟨MK, PL, AB, BE, AS, FP, PC, PF, PT, PU, RA, KC, PK, ST, DC, DY, DS, SU, hv, hR⟩ p0 _) (cx_V C 1 wd_605 wd_607 wp_14 wd_3 wd_608 rfl rfl (by decide +kernel) ⟨Nat.le_of_ble_eq_true rfl, Nat.le_of_ble_eq_true rfl⟩) hP hv.1 rfl rfl rfl (Nat.le_of_ble_eq_true rfl) d_M_value_39 ⟨Nat.le_of_ble_eq_true rfl, Nat.le_of_ble_eq_true rfl⟩) hP hS hA0 (fun r4 f3 H locs hq hP hS => ?_)
    obtain ⟨hzP, hu⟩ := hq
    rw [hu] at hP
    refine lv_if_eq (tgt := 52) hx hb d_M_value_42 (by decide) (fun c_42 => ?_) (fun c_42 => ?_)
    · refine lv_iconst (v := 1) hx hb d_M_value_52 (by decide) ?_
      refine lv_goto (tgt := 66) hx hb d_M_value_53 (by decide) ?_
      have hB : ¬ (I_pn b p0 n0) := fun z9 => by first | exact bz_f hzP c_42 z9.1 | exact bz_f hzN c_49 z9.2
      refine g_put C i_M t_M t_M_ok n_M hP hS hv.1 rfl 0 (by decide) wd_506 rfl rfl rfl (rfl) (Nat.le_of_ble_eq_true rfl) d_M_value_66 (fun H locs hP hS => ?_)
      obtain ⟨f5, ef5⟩ : ∃ z99, z99 = va_up f y (some (ob 4 [.int 1, .int (nI (bN b)), .ref (ca 0), .ref (ca 1), .ref (ca 2), .ref (ca 3), .int (nI (bRc b)), .ref (ca 4), .int (nI (bHc b)), .ref (ca 5), .ref (ca 6), .ref (ca 7), .ref (ca 8), .ref (ca 9), .ref (ca 10), .ref (ca 11), .ref (ca 12), .ref (ca 13), .ref (ca 14), .ref (ca 15), .ref (ca 16), .ref (ca 17), .long bc, .int cp])) := ⟨_, rfl⟩
      replace hP : hH G (hA f s.heap.size) f5 H := by rw [ef5]; exact hP
      have hv_f5 : mv G f5 y ca 1 (nI (bN b)) (nI (bRc b)) (nI (bHc b)) bc cp MK PL AB BE AS FP PC PF PT PU RA KC PK ST DC DY DS SU := by rw [ef5]; exact mv_y hv _ _ _ _ _ _
      refine lv_aload_n hx hb d_M_value_69 rfl (lv_at hl 1 rfl) ?_
      refine g_get C i_M hP hv_f5.1 rfl 0 (by decide) wd_506 rfl rfl d_M_value_70 ?_
      refine lv_if_eq (tgt := 78) hx hb d_M_value_73 (by decide) (fun c_73 => ?_) (fun c_73 => ?_)
      · exact absurd c_73 (by decide)
      · refine lv_iconst (v := 0) hx hb d_M_value_76 (by decide) ?_
        exact g_zret C (by first | exact Or.inl rfl | exact Or.inr rfl) hP hS (⟨1, b, bc, cp, ⟨MK, PL, AB, BE, AS, FP, PC, PF, PT, PU, RA, KC, PK, ST, DC, DY, DS, SU, hv_f5, hR⟩, Or.inr (Or.inr ⟨hB, rfl, rfl⟩)⟩) (Nat.le_of_ble_eq_true rfl) (Nat.le_of_ble_eq_true rfl) d_M_value_77
    · refine lv_iload_n hx hb d_M_value_45 rfl (lv_at hl 3 rfl) ?_
      refine g_calli (g_runS C hl.1 (ct_M_isName f n0 _) (cx_S C 1 wd_609 wd_610 wd_3 wd_611 rfl rfl (by decide +kernel) ⟨Nat.le_of_ble_eq_true rfl, Nat.le_of_ble_eq_true rfl⟩) hP rfl rfl (Nat.le_of_ble_eq_true rfl) d_M_value_46 ⟨Nat.le_of_ble_eq_true rfl, Nat.le_of_ble_eq_true rfl⟩) hP hS hA0 (fun r7 f6 H locs hq hP hS => ?_)
      obtain ⟨hzN, hu⟩ := hq
      rw [hu] at hP
      refine lv_if_ne (tgt := 56) hx hb d_M_value_49 (by decide) (fun c_49 => ?_) (fun c_49 => ?_)
      · refine lv_iload hx hb d_M_value_56 (lv_at hl 0 rfl) ?_
        refine lv_if_eq (tgt := 65) hx hb d_M_value_58 (by decide) (fun c_58 => ?_) (fun c_58 => ?_)
        · refine lv_iconst (v := 2) hx hb d_M_value_65 (by decide) ?_
          have hI : I_pn b p0 n0 := ⟨bz_t hzP c_42, bz_t hzN c_49⟩
          have hB : ¬ (N_value x0 y0 un0) := fun z9 => hG z9
          refine g_put C i_M t_M t_M_ok n_M hP hS hv.1 rfl 0 (by decide) wd_506 rfl rfl rfl (rfl) (Nat.le_of_ble_eq_true rfl) d_M_value_66 (fun H locs hP hS => ?_)
          obtain ⟨f8, ef8⟩ : ∃ z99, z99 = va_up f y (some (ob 4 [.int 2, .int (nI (bN b)), .ref (ca 0), .ref (ca 1), .ref (ca 2), .ref (ca 3), .int (nI (bRc b)), .ref (ca 4), .int (nI (bHc b)), .ref (ca 5), .ref (ca 6), .ref (ca 7), .ref (ca 8), .ref (ca 9), .ref (ca 10), .ref (ca 11), .ref (ca 12), .ref (ca 13), .ref (ca 14), .ref (ca 15), .ref (ca 16), .ref (ca 17), .long bc, .int cp])) := ⟨_, rfl⟩
          replace hP : hH G (hA f s.heap.size) f8 H := by rw [ef8]; exact hP
          have hv_f8 : mv G f8 y ca 2 (nI (bN b)) (nI (bRc b)) (nI (bHc b)) bc cp MK PL AB BE AS FP PC PF PT PU RA KC PK ST DC DY DS SU := by rw [ef8]; exact mv_y hv _ _ _ _ _ _
          refine lv_aload_n hx hb d_M_value_69 rfl (lv_at hl 1 rfl) ?_
          refine g_get C i_M hP hv_f8.1 rfl 0 (by decide) wd_506 rfl rfl d_M_value_70 ?_
          refine lv_if_eq (tgt := 78) hx hb d_M_value_73 (by decide) (fun c_73 => ?_) (fun c_73 => ?_)
          · exact absurd c_73 (by decide)
          · refine lv_iconst (v := 0) hx hb d_M_value_76 (by decide) ?_
            exact g_zret C (by first | exact Or.inl rfl | exact Or.inr rfl) hP hS (⟨2, b, bc, cp, ⟨MK, PL, AB, BE, AS, FP, PC, PF, PT, PU, RA, KC, PK, ST, DC, DY, DS, SU, hv_f8, hR⟩, Or.inr (Or.inl ⟨hI, hB, rfl, rfl⟩)⟩) (Nat.le_of_ble_eq_true rfl) (Nat.le_of_ble_eq_true rfl) d_M_value_77
        · exact absurd c_58 (by decide)
      · refine lv_iconst (v := 1) hx hb d_M_value_52 (by decide) ?_
        refine lv_goto (tgt := 66) hx hb d_M_value_53 (by decide) ?_
        have hB : ¬ (I_pn b p0 n0) := fun z9 => by first | exact bz_f hzP c_42 z9.1 | exact bz_f hzN c_49 z9.2
        refine g_put C i_M t_M t_M_ok n_M hP hS hv.1 rfl 0 (by decide) wd_506 rfl rfl rfl (rfl) (Nat.le_of_ble_eq_true rfl) d_M_value_66 (fun H locs hP hS => ?_)
        obtain ⟨f9, ef9⟩ : ∃ z99, z99 = va_up f y (some (ob 4 [.int 1, .int (nI (bN b)), .ref (ca 0), .ref (ca 1), .ref (ca 2), .ref (ca 3), .int (nI (bRc b)), .ref (ca 4), .int (nI (bHc b)), .ref (ca 5), .ref (ca 6), .ref (ca 7), .ref (ca 8), .ref (ca 9), .ref (ca 10), .ref (ca 11), .ref (ca 12), .ref (ca 13), .ref (ca 14), .ref (ca 15), .ref (ca 16), .ref (ca 17), .long bc, .int cp])) := ⟨_, rfl⟩
        replace hP : hH G (hA f s.heap.size) f9 H := by rw [ef9]; exact hP
        have hv_f9 : mv G f9 y ca 1 (nI (bN b)) (nI (bRc b)) (nI (bHc b)) bc cp MK PL AB BE AS FP PC PF PT PU RA KC PK ST DC DY DS SU := by rw [ef9]; exact mv_y hv _ _ _ _ _ _
        refine lv_aload_n hx hb d_M_value_69 rfl (lv_at hl 1 rfl) ?_
        refine g_get C i_M hP hv_f9.1 rfl 0 (by decide) wd_506 rfl rfl d_M_value_70 ?_
        refine lv_if_eq (tgt := 78) hx hb d_M_value_73 (by decide) (fun c_73 => ?_) (fun c_73 => ?_)
        · exact absurd c_73 (by decide)
        · refine lv_iconst (v := 0) hx hb d_M_value_76 (by decide) ?_
          exact g_zret C (by first | exact Or.inl rfl | exact Or.inr rfl) hP hS (⟨1, b, bc, cp, ⟨MK, PL, AB, BE, AS, FP, PC, PF, PT, PU, RA, KC, PK, ST, DC, DY, DS, SU, hv_f9, hR⟩, Or.inr (Or.inr ⟨hB, rfl, rfl⟩)⟩) (Nat.le_of_ble_eq_true rfl) (Nat.le_of_ble_eq_true rfl) d_M_value_77
  · refine lv_lload hx hb d_M_value_7 (lv_at hl 4 rfl) ?_
    refine g_calli (g_runS C hl.1 (ct_M_isBelow f y0 _) (cx_S C 1 wd_601 wd_602 wd_3 wd_603 rfl rfl (by decide +kernel) ⟨Nat.le_of_ble_eq_true rfl, Nat.le_of_ble_eq_true rfl⟩) hP rfl rfl (Nat.le_of_ble_eq_true rfl) d_M_value_9 ⟨Nat.le_of_ble_eq_true rfl, Nat.le_of_ble_eq_true rfl⟩) hP hS hA0 (fun r11 f10 H locs hq hP hS => ?_)
    obtain ⟨hzB, hu⟩ := hq
    rw [hu] at hP
    refine lv_if_eq (tgt := 33) hx hb d_M_value_12 (by decide) (fun c_12 => ?_) (fun c_12 => ?_)
    · refine lv_iconst (v := 0) hx hb d_M_value_33 (by decide) ?_
      have hG : ¬ (N_value x0 y0 un0) := fun z9 => by first | exact bz_f hzA c_4 z9.1.1 | exact bz_f hzB c_12 z9.1.2 | exact Int32.not_lt.mpr z9.2.1 c_19 | exact Int32.not_lt.mpr z9.2.2 c_26
      refine lv_istore (lv' := [(8, .int 0), (0, .ref y), (1, .int p0), (2, .int n0), (3, .long x0), (5, .long y0), (7, .int un0)]) hx hb d_M_value_34 hl (by decide) rfl (fun ls hl => ?_)
      refine lv_aload_n hx hb d_M_value_36 rfl (lv_at hl 1 rfl) ?_
      refine lv_aload_n hx hb d_M_value_37 rfl (lv_at hl 1 rfl) ?_
      refine lv_iload_n hx hb d_M_value_38 rfl (lv_at hl 2 rfl) ?_
      refine g_calli (g_runV C hl.1 (ct_M_isPart f y ca b hok th bc cp ⟨MK, PL, AB, BE, AS, FP, PC, PF, PT, PU, RA, KC, PK, ST, DC, DY, DS, SU, hv, hR⟩ p0 _) (cx_V C 1 wd_605 wd_607 wp_14 wd_3 wd_608 rfl rfl (by decide +kernel) ⟨Nat.le_of_ble_eq_true rfl, Nat.le_of_ble_eq_true rfl⟩) hP hv.1 rfl rfl rfl (Nat.le_of_ble_eq_true rfl) d_M_value_39 ⟨Nat.le_of_ble_eq_true rfl, Nat.le_of_ble_eq_true rfl⟩) hP hS hA0 (fun r13 f12 H locs hq hP hS => ?_)
      obtain ⟨hzP, hu⟩ := hq
      rw [hu] at hP
      refine lv_if_eq (tgt := 52) hx hb d_M_value_42 (by decide) (fun c_42 => ?_) (fun c_42 => ?_)
      · refine lv_iconst (v := 1) hx hb d_M_value_52 (by decide) ?_
        refine lv_goto (tgt := 66) hx hb d_M_value_53 (by decide) ?_
        have hB : ¬ (I_pn b p0 n0) := fun z9 => by first | exact bz_f hzP c_42 z9.1 | exact bz_f hzN c_49 z9.2
        refine g_put C i_M t_M t_M_ok n_M hP hS hv.1 rfl 0 (by decide) wd_506 rfl rfl rfl (rfl) (Nat.le_of_ble_eq_true rfl) d_M_value_66 (fun H locs hP hS => ?_)
        obtain ⟨f14, ef14⟩ : ∃ z99, z99 = va_up f y (some (ob 4 [.int 1, .int (nI (bN b)), .ref (ca 0), .ref (ca 1), .ref (ca 2), .ref (ca 3), .int (nI (bRc b)), .ref (ca 4), .int (nI (bHc b)), .ref (ca 5), .ref (ca 6), .ref (ca 7), .ref (ca 8), .ref (ca 9), .ref (ca 10), .ref (ca 11), .ref (ca 12), .ref (ca 13), .ref (ca 14), .ref (ca 15), .ref (ca 16), .ref (ca 17), .long bc, .int cp])) := ⟨_, rfl⟩
        replace hP : hH G (hA f s.heap.size) f14 H := by rw [ef14]; exact hP
        have hv_f14 : mv G f14 y ca 1 (nI (bN b)) (nI (bRc b)) (nI (bHc b)) bc cp MK PL AB BE AS FP PC PF PT PU RA KC PK ST DC DY DS SU := by rw [ef14]; exact mv_y hv _ _ _ _ _ _
        refine lv_aload_n hx hb d_M_value_69 rfl (lv_at hl 1 rfl) ?_
        refine g_get C i_M hP hv_f14.1 rfl 0 (by decide) wd_506 rfl rfl d_M_value_70 ?_
        refine lv_if_eq (tgt := 78) hx hb d_M_value_73 (by decide) (fun c_73 => ?_) (fun c_73 => ?_)
        · exact absurd c_73 (by decide)
        · refine lv_iconst (v := 0) hx hb d_M_value_76 (by decide) ?_
          exact g_zret C (by first | exact Or.inl rfl | exact Or.inr rfl) hP hS (⟨1, b, bc, cp, ⟨MK, PL, AB, BE, AS, FP, PC, PF, PT, PU, RA, KC, PK, ST, DC, DY, DS, SU, hv_f14, hR⟩, Or.inr (Or.inr ⟨hB, rfl, rfl⟩)⟩) (Nat.le_of_ble_eq_true rfl) (Nat.le_of_ble_eq_true rfl) d_M_value_77
      · refine lv_iload_n hx hb d_M_value_45 rfl (lv_at hl 3 rfl) ?_
        refine g_calli (g_runS C hl.1 (ct_M_isName f n0 _) (cx_S C 1 wd_609 wd_610 wd_3 wd_611 rfl rfl (by decide +kernel) ⟨Nat.le_of_ble_eq_true rfl, Nat.le_of_ble_eq_true rfl⟩) hP rfl rfl (Nat.le_of_ble_eq_true rfl) d_M_value_46 ⟨Nat.le_of_ble_eq_true rfl, Nat.le_of_ble_eq_true rfl⟩) hP hS hA0 (fun r16 f15 H locs hq hP hS => ?_)
        obtain ⟨hzN, hu⟩ := hq
        rw [hu] at hP
        refine lv_if_ne (tgt := 56) hx hb d_M_value_49 (by decide) (fun c_49 => ?_) (fun c_49 => ?_)
        · refine lv_iload hx hb d_M_value_56 (lv_at hl 0 rfl) ?_
          refine lv_if_eq (tgt := 65) hx hb d_M_value_58 (by decide) (fun c_58 => ?_) (fun c_58 => ?_)
          · refine lv_iconst (v := 2) hx hb d_M_value_65 (by decide) ?_
            have hI : I_pn b p0 n0 := ⟨bz_t hzP c_42, bz_t hzN c_49⟩
            have hB : ¬ (N_value x0 y0 un0) := fun z9 => hG z9
            refine g_put C i_M t_M t_M_ok n_M hP hS hv.1 rfl 0 (by decide) wd_506 rfl rfl rfl (rfl) (Nat.le_of_ble_eq_true rfl) d_M_value_66 (fun H locs hP hS => ?_)
            obtain ⟨f17, ef17⟩ : ∃ z99, z99 = va_up f y (some (ob 4 [.int 2, .int (nI (bN b)), .ref (ca 0), .ref (ca 1), .ref (ca 2), .ref (ca 3), .int (nI (bRc b)), .ref (ca 4), .int (nI (bHc b)), .ref (ca 5), .ref (ca 6), .ref (ca 7), .ref (ca 8), .ref (ca 9), .ref (ca 10), .ref (ca 11), .ref (ca 12), .ref (ca 13), .ref (ca 14), .ref (ca 15), .ref (ca 16), .ref (ca 17), .long bc, .int cp])) := ⟨_, rfl⟩
            replace hP : hH G (hA f s.heap.size) f17 H := by rw [ef17]; exact hP
            have hv_f17 : mv G f17 y ca 2 (nI (bN b)) (nI (bRc b)) (nI (bHc b)) bc cp MK PL AB BE AS FP PC PF PT PU RA KC PK ST DC DY DS SU := by rw [ef17]; exact mv_y hv _ _ _ _ _ _
            refine lv_aload_n hx hb d_M_value_69 rfl (lv_at hl 1 rfl) ?_
            refine g_get C i_M hP hv_f17.1 rfl 0 (by decide) wd_506 rfl rfl d_M_value_70 ?_
            refine lv_if_eq (tgt := 78) hx hb d_M_value_73 (by decide) (fun c_73 => ?_) (fun c_73 => ?_)
            · exact absurd c_73 (by decide)
            · refine lv_iconst (v := 0) hx hb d_M_value_76 (by decide) ?_
              exact g_zret C (by first | exact Or.inl rfl | exact Or.inr rfl) hP hS (⟨2, b, bc, cp, ⟨MK, PL, AB, BE, AS, FP, PC, PF, PT, PU, RA, KC, PK, ST, DC, DY, DS, SU, hv_f17, hR⟩, Or.inr (Or.inl ⟨hI, hB, rfl, rfl⟩)⟩) (Nat.le_of_ble_eq_true rfl) (Nat.le_of_ble_eq_true rfl) d_M_value_77
          · exact absurd c_58 (by decide)
        · refine lv_iconst (v := 1) hx hb d_M_value_52 (by decide) ?_
          refine lv_goto (tgt := 66) hx hb d_M_value_53 (by decide) ?_
          have hB : ¬ (I_pn b p0 n0) := fun z9 => by first | exact bz_f hzP c_42 z9.1 | exact bz_f hzN c_49 z9.2
          refine g_put C i_M t_M t_M_ok n_M hP hS hv.1 rfl 0 (by decide) wd_506 rfl rfl rfl (rfl) (Nat.le_of_ble_eq_true rfl) d_M_value_66 (fun H locs hP hS => ?_)
          obtain ⟨f18, ef18⟩ : ∃ z99, z99 = va_up f y (some (ob 4 [.int 1, .int (nI (bN b)), .ref (ca 0), .ref (ca 1), .ref (ca 2), .ref (ca 3), .int (nI (bRc b)), .ref (ca 4), .int (nI (bHc b)), .ref (ca 5), .ref (ca 6), .ref (ca 7), .ref (ca 8), .ref (ca 9), .ref (ca 10), .ref (ca 11), .ref (ca 12), .ref (ca 13), .ref (ca 14), .ref (ca 15), .ref (ca 16), .ref (ca 17), .long bc, .int cp])) := ⟨_, rfl⟩
          replace hP : hH G (hA f s.heap.size) f18 H := by rw [ef18]; exact hP
          have hv_f18 : mv G f18 y ca 1 (nI (bN b)) (nI (bRc b)) (nI (bHc b)) bc cp MK PL AB BE AS FP PC PF PT PU RA KC PK ST DC DY DS SU := by rw [ef18]; exact mv_y hv _ _ _ _ _ _
          refine lv_aload_n hx hb d_M_value_69 rfl (lv_at hl 1 rfl) ?_
          refine g_get C i_M hP hv_f18.1 rfl 0 (by decide) wd_506 rfl rfl d_M_value_70 ?_
          refine lv_if_eq (tgt := 78) hx hb d_M_value_73 (by decide) (fun c_73 => ?_) (fun c_73 => ?_)
          · exact absurd c_73 (by decide)
          · refine lv_iconst (v := 0) hx hb d_M_value_76 (by decide) ?_
            exact g_zret C (by first | exact Or.inl rfl | exact Or.inr rfl) hP hS (⟨1, b, bc, cp, ⟨MK, PL, AB, BE, AS, FP, PC, PF, PT, PU, RA, KC, PK, ST, DC, DY, DS, SU, hv_f18, hR⟩, Or.inr (Or.inr ⟨hB, rfl, rfl⟩)⟩) (Nat.le_of_ble_eq_true rfl) (Nat.le_of_ble_eq_true rfl) d_M_value_77
    · refine lv_iload hx hb d_M_value_15 (lv_at hl 5 rfl) ?_
      refine lv_bipush (v := (-9)) hx hb d_M_value_17 (by decide) ?_
      refine lv_icmp_lt (tgt := 33) hx hb d_M_value_19 (by decide) (fun c_19 => ?_) (fun c_19 => ?_)
      · refine lv_iconst (v := 0) hx hb d_M_value_33 (by decide) ?_
        have hG : ¬ (N_value x0 y0 un0) := fun z9 => by first | exact bz_f hzA c_4 z9.1.1 | exact bz_f hzB c_12 z9.1.2 | exact Int32.not_lt.mpr z9.2.1 c_19 | exact Int32.not_lt.mpr z9.2.2 c_26
        refine lv_istore (lv' := [(8, .int 0), (0, .ref y), (1, .int p0), (2, .int n0), (3, .long x0), (5, .long y0), (7, .int un0)]) hx hb d_M_value_34 hl (by decide) rfl (fun ls hl => ?_)
        refine lv_aload_n hx hb d_M_value_36 rfl (lv_at hl 1 rfl) ?_
        refine lv_aload_n hx hb d_M_value_37 rfl (lv_at hl 1 rfl) ?_
        refine lv_iload_n hx hb d_M_value_38 rfl (lv_at hl 2 rfl) ?_
        refine g_calli (g_runV C hl.1 (ct_M_isPart f y ca b hok th bc cp ⟨MK, PL, AB, BE, AS, FP, PC, PF, PT, PU, RA, KC, PK, ST, DC, DY, DS, SU, hv, hR⟩ p0 _) (cx_V C 1 wd_605 wd_607 wp_14 wd_3 wd_608 rfl rfl (by decide +kernel) ⟨Nat.le_of_ble_eq_true rfl, Nat.le_of_ble_eq_true rfl⟩) hP hv.1 rfl rfl rfl (Nat.le_of_ble_eq_true rfl) d_M_value_39 ⟨Nat.le_of_ble_eq_true rfl, Nat.le_of_ble_eq_true rfl⟩) hP hS hA0 (fun r20 f19 H locs hq hP hS => ?_)
        obtain ⟨hzP, hu⟩ := hq
        rw [hu] at hP
        refine lv_if_eq (tgt := 52) hx hb d_M_value_42 (by decide) (fun c_42 => ?_) (fun c_42 => ?_)
        · refine lv_iconst (v := 1) hx hb d_M_value_52 (by decide) ?_
          refine lv_goto (tgt := 66) hx hb d_M_value_53 (by decide) ?_
          have hB : ¬ (I_pn b p0 n0) := fun z9 => by first | exact bz_f hzP c_42 z9.1 | exact bz_f hzN c_49 z9.2
          refine g_put C i_M t_M t_M_ok n_M hP hS hv.1 rfl 0 (by decide) wd_506 rfl rfl rfl (rfl) (Nat.le_of_ble_eq_true rfl) d_M_value_66 (fun H locs hP hS => ?_)
          obtain ⟨f21, ef21⟩ : ∃ z99, z99 = va_up f y (some (ob 4 [.int 1, .int (nI (bN b)), .ref (ca 0), .ref (ca 1), .ref (ca 2), .ref (ca 3), .int (nI (bRc b)), .ref (ca 4), .int (nI (bHc b)), .ref (ca 5), .ref (ca 6), .ref (ca 7), .ref (ca 8), .ref (ca 9), .ref (ca 10), .ref (ca 11), .ref (ca 12), .ref (ca 13), .ref (ca 14), .ref (ca 15), .ref (ca 16), .ref (ca 17), .long bc, .int cp])) := ⟨_, rfl⟩
          replace hP : hH G (hA f s.heap.size) f21 H := by rw [ef21]; exact hP
          have hv_f21 : mv G f21 y ca 1 (nI (bN b)) (nI (bRc b)) (nI (bHc b)) bc cp MK PL AB BE AS FP PC PF PT PU RA KC PK ST DC DY DS SU := by rw [ef21]; exact mv_y hv _ _ _ _ _ _
          refine lv_aload_n hx hb d_M_value_69 rfl (lv_at hl 1 rfl) ?_
          refine g_get C i_M hP hv_f21.1 rfl 0 (by decide) wd_506 rfl rfl d_M_value_70 ?_
          refine lv_if_eq (tgt := 78) hx hb d_M_value_73 (by decide) (fun c_73 => ?_) (fun c_73 => ?_)
          · exact absurd c_73 (by decide)
          · refine lv_iconst (v := 0) hx hb d_M_value_76 (by decide) ?_
            exact g_zret C (by first | exact Or.inl rfl | exact Or.inr rfl) hP hS (⟨1, b, bc, cp, ⟨MK, PL, AB, BE, AS, FP, PC, PF, PT, PU, RA, KC, PK, ST, DC, DY, DS, SU, hv_f21, hR⟩, Or.inr (Or.inr ⟨hB, rfl, rfl⟩)⟩) (Nat.le_of_ble_eq_true rfl) (Nat.le_of_ble_eq_true rfl) d_M_value_77
        · refine lv_iload_n hx hb d_M_value_45 rfl (lv_at hl 3 rfl) ?_
          refine g_calli (g_runS C hl.1 (ct_M_isName f n0 _) (cx_S C 1 wd_609 wd_610 wd_3 wd_611 rfl rfl (by decide +kernel) ⟨Nat.le_of_ble_eq_true rfl, Nat.le_of_ble_eq_true rfl⟩) hP rfl rfl (Nat.le_of_ble_eq_true rfl) d_M_value_46 ⟨Nat.le_of_ble_eq_true rfl, Nat.le_of_ble_eq_true rfl⟩) hP hS hA0 (fun r23 f22 H locs hq hP hS => ?_)
          obtain ⟨hzN, hu⟩ := hq
          rw [hu] at hP
          refine lv_if_ne (tgt := 56) hx hb d_M_value_49 (by decide) (fun c_49 => ?_) (fun c_49 => ?_)
          · refine lv_iload hx hb d_M_value_56 (lv_at hl 0 rfl) ?_
            refine lv_if_eq (tgt := 65) hx hb d_M_value_58 (by decide) (fun c_58 => ?_) (fun c_58 => ?_)
            · refine lv_iconst (v := 2) hx hb d_M_value_65 (by decide) ?_
              have hI : I_pn b p0 n0 := ⟨bz_t hzP c_42, bz_t hzN c_49⟩
              have hB : ¬ (N_value x0 y0 un0) := fun z9 => hG z9
              refine g_put C i_M t_M t_M_ok n_M hP hS hv.1 rfl 0 (by decide) wd_506 rfl rfl rfl (rfl) (Nat.le_of_ble_eq_true rfl) d_M_value_66 (fun H locs hP hS => ?_)
              obtain ⟨f24, ef24⟩ : ∃ z99, z99 = va_up f y (some (ob 4 [.int 2, .int (nI (bN b)), .ref (ca 0), .ref (ca 1), .ref (ca 2), .ref (ca 3), .int (nI (bRc b)), .ref (ca 4), .int (nI (bHc b)), .ref (ca 5), .ref (ca 6), .ref (ca 7), .ref (ca 8), .ref (ca 9), .ref (ca 10), .ref (ca 11), .ref (ca 12), .ref (ca 13), .ref (ca 14), .ref (ca 15), .ref (ca 16), .ref (ca 17), .long bc, .int cp])) := ⟨_, rfl⟩
              replace hP : hH G (hA f s.heap.size) f24 H := by rw [ef24]; exact hP
              have hv_f24 : mv G f24 y ca 2 (nI (bN b)) (nI (bRc b)) (nI (bHc b)) bc cp MK PL AB BE AS FP PC PF PT PU RA KC PK ST DC DY DS SU := by rw [ef24]; exact mv_y hv _ _ _ _ _ _
              refine lv_aload_n hx hb d_M_value_69 rfl (lv_at hl 1 rfl) ?_
              refine g_get C i_M hP hv_f24.1 rfl 0 (by decide) wd_506 rfl rfl d_M_value_70 ?_
              refine lv_if_eq (tgt := 78) hx hb d_M_value_73 (by decide) (fun c_73 => ?_) (fun c_73 => ?_)
              · exact absurd c_73 (by decide)
              · refine lv_iconst (v := 0) hx hb d_M_value_76 (by decide) ?_
                exact g_zret C (by first | exact Or.inl rfl | exact Or.inr rfl) hP hS (⟨2, b, bc, cp, ⟨MK, PL, AB, BE, AS, FP, PC, PF, PT, PU, RA, KC, PK, ST, DC, DY, DS, SU, hv_f24, hR⟩, Or.inr (Or.inl ⟨hI, hB, rfl, rfl⟩)⟩) (Nat.le_of_ble_eq_true rfl) (Nat.le_of_ble_eq_true rfl) d_M_value_77
            · exact absurd c_58 (by decide)
          · refine lv_iconst (v := 1) hx hb d_M_value_52 (by decide) ?_
            refine lv_goto (tgt := 66) hx hb d_M_value_53 (by decide) ?_
            have hB : ¬ (I_pn b p0 n0) := fun z9 => by first | exact bz_f hzP c_42 z9.1 | exact bz_f hzN c_49 z9.2
            refine g_put C i_M t_M t_M_ok n_M hP hS hv.1 rfl 0 (by decide) wd_506 rfl rfl rfl (rfl) (Nat.le_of_ble_eq_true rfl) d_M_value_66 (fun H locs hP hS => ?_)
            obtain ⟨f25, ef25⟩ : ∃ z99, z99 = va_up f y (some (ob 4 [.int 1, .int (nI (bN b)), .ref (ca 0), .ref (ca 1), .ref (ca 2), .ref (ca 3), .int (nI (bRc b)), .ref (ca 4), .int (nI (bHc b)), .ref (ca 5), .ref (ca 6), .ref (ca 7), .ref (ca 8), .ref (ca 9), .ref (ca 10), .ref (ca 11), .ref (ca 12), .ref (ca 13), .ref (ca 14), .ref (ca 15), .ref (ca 16), .ref (ca 17), .long bc, .int cp])) := ⟨_, rfl⟩
            replace hP : hH G (hA f s.heap.size) f25 H := by rw [ef25]; exact hP
            have hv_f25 : mv G f25 y ca 1 (nI (bN b)) (nI (bRc b)) (nI (bHc b)) bc cp MK PL AB BE AS FP PC PF PT PU RA KC PK ST DC DY DS SU := by rw [ef25]; exact mv_y hv _ _ _ _ _ _
            refine lv_aload_n hx hb d_M_value_69 rfl (lv_at hl 1 rfl) ?_
            refine g_get C i_M hP hv_f25.1 rfl 0 (by decide) wd_506 rfl rfl d_M_value_70 ?_
            refine lv_if_eq (tgt := 78) hx hb d_M_value_73 (by decide) (fun c_73 => ?_) (fun c_73 => ?_)
            · exact absurd c_73 (by decide)
            · refine lv_iconst (v := 0) hx hb d_M_value_76 (by decide) ?_
              exact g_zret C (by first | exact Or.inl rfl | exact Or.inr rfl) hP hS (⟨1, b, bc, cp, ⟨MK, PL, AB, BE, AS, FP, PC, PF, PT, PU, RA, KC, PK, ST, DC, DY, DS, SU, hv_f25, hR⟩, Or.inr (Or.inr ⟨hB, rfl, rfl⟩)⟩) (Nat.le_of_ble_eq_true rfl) (Nat.le_of_ble_eq_true rfl) d_M_value_77
      · refine lv_iload hx hb d_M_value_22 (lv_at hl 5 rfl) ?_
        refine lv_bipush (v := 9) hx hb d_M_value_24 (by decide) ?_
        refine lv_icmp_gt (tgt := 33) hx hb d_M_value_26 (by decide) (fun c_26 => ?_) (fun c_26 => ?_)
        · refine lv_iconst (v := 0) hx hb d_M_value_33 (by decide) ?_
          have hG : ¬ (N_value x0 y0 un0) := fun z9 => by first | exact bz_f hzA c_4 z9.1.1 | exact bz_f hzB c_12 z9.1.2 | exact Int32.not_lt.mpr z9.2.1 c_19 | exact Int32.not_lt.mpr z9.2.2 c_26
          refine lv_istore (lv' := [(8, .int 0), (0, .ref y), (1, .int p0), (2, .int n0), (3, .long x0), (5, .long y0), (7, .int un0)]) hx hb d_M_value_34 hl (by decide) rfl (fun ls hl => ?_)
          refine lv_aload_n hx hb d_M_value_36 rfl (lv_at hl 1 rfl) ?_
          refine lv_aload_n hx hb d_M_value_37 rfl (lv_at hl 1 rfl) ?_
          refine lv_iload_n hx hb d_M_value_38 rfl (lv_at hl 2 rfl) ?_
          refine g_calli (g_runV C hl.1 (ct_M_isPart f y ca b hok th bc cp ⟨MK, PL, AB, BE, AS, FP, PC, PF, PT, PU, RA, KC, PK, ST, DC, DY, DS, SU, hv, hR⟩ p0 _) (cx_V C 1 wd_605 wd_607 wp_14 wd_3 wd_608 rfl rfl (by decide +kernel) ⟨Nat.le_of_ble_eq_true rfl, Nat.le_of_ble_eq_true rfl⟩) hP hv.1 rfl rfl rfl (Nat.le_of_ble_eq_true rfl) d_M_value_39 ⟨Nat.le_of_ble_eq_true rfl, Nat.le_of_ble_eq_true rfl⟩) hP hS hA0 (fun r27 f26 H locs hq hP hS => ?_)
          obtain ⟨hzP, hu⟩ := hq
          rw [hu] at hP
          refine lv_if_eq (tgt := 52) hx hb d_M_value_42 (by decide) (fun c_42 => ?_) (fun c_42 => ?_)
          · refine lv_iconst (v := 1) hx hb d_M_value_52 (by decide) ?_
            refine lv_goto (tgt := 66) hx hb d_M_value_53 (by decide) ?_
            have hB : ¬ (I_pn b p0 n0) := fun z9 => by first | exact bz_f hzP c_42 z9.1 | exact bz_f hzN c_49 z9.2
            refine g_put C i_M t_M t_M_ok n_M hP hS hv.1 rfl 0 (by decide) wd_506 rfl rfl rfl (rfl) (Nat.le_of_ble_eq_true rfl) d_M_value_66 (fun H locs hP hS => ?_)
            obtain ⟨f28, ef28⟩ : ∃ z99, z99 = va_up f y (some (ob 4 [.int 1, .int (nI (bN b)), .ref (ca 0), .ref (ca 1), .ref (ca 2), .ref (ca 3), .int (nI (bRc b)), .ref (ca 4), .int (nI (bHc b)), .ref (ca 5), .ref (ca 6), .ref (ca 7), .ref (ca 8), .ref (ca 9), .ref (ca 10), .ref (ca 11), .ref (ca 12), .ref (ca 13), .ref (ca 14), .ref (ca 15), .ref (ca 16), .ref (ca 17), .long bc, .int cp])) := ⟨_, rfl⟩
            replace hP : hH G (hA f s.heap.size) f28 H := by rw [ef28]; exact hP
            have hv_f28 : mv G f28 y ca 1 (nI (bN b)) (nI (bRc b)) (nI (bHc b)) bc cp MK PL AB BE AS FP PC PF PT PU RA KC PK ST DC DY DS SU := by rw [ef28]; exact mv_y hv _ _ _ _ _ _
            refine lv_aload_n hx hb d_M_value_69 rfl (lv_at hl 1 rfl) ?_
            refine g_get C i_M hP hv_f28.1 rfl 0 (by decide) wd_506 rfl rfl d_M_value_70 ?_
            refine lv_if_eq (tgt := 78) hx hb d_M_value_73 (by decide) (fun c_73 => ?_) (fun c_73 => ?_)
            · exact absurd c_73 (by decide)
            · refine lv_iconst (v := 0) hx hb d_M_value_76 (by decide) ?_
              exact g_zret C (by first | exact Or.inl rfl | exact Or.inr rfl) hP hS (⟨1, b, bc, cp, ⟨MK, PL, AB, BE, AS, FP, PC, PF, PT, PU, RA, KC, PK, ST, DC, DY, DS, SU, hv_f28, hR⟩, Or.inr (Or.inr ⟨hB, rfl, rfl⟩)⟩) (Nat.le_of_ble_eq_true rfl) (Nat.le_of_ble_eq_true rfl) d_M_value_77
          · refine lv_iload_n hx hb d_M_value_45 rfl (lv_at hl 3 rfl) ?_
            refine g_calli (g_runS C hl.1 (ct_M_isName f n0 _) (cx_S C 1 wd_609 wd_610 wd_3 wd_611 rfl rfl (by decide +kernel) ⟨Nat.le_of_ble_eq_true rfl, Nat.le_of_ble_eq_true rfl⟩) hP rfl rfl (Nat.le_of_ble_eq_true rfl) d_M_value_46 ⟨Nat.le_of_ble_eq_true rfl, Nat.le_of_ble_eq_true rfl⟩) hP hS hA0 (fun r30 f29 H locs hq hP hS => ?_)
            obtain ⟨hzN, hu⟩ := hq
            rw [hu] at hP
            refine lv_if_ne (tgt := 56) hx hb d_M_value_49 (by decide) (fun c_49 => ?_) (fun c_49 => ?_)
            · refine lv_iload hx hb d_M_value_56 (lv_at hl 0 rfl) ?_
              refine lv_if_eq (tgt := 65) hx hb d_M_value_58 (by decide) (fun c_58 => ?_) (fun c_58 => ?_)
              · refine lv_iconst (v := 2) hx hb d_M_value_65 (by decide) ?_
                have hI : I_pn b p0 n0 := ⟨bz_t hzP c_42, bz_t hzN c_49⟩
                have hB : ¬ (N_value x0 y0 un0) := fun z9 => hG z9
                refine g_put C i_M t_M t_M_ok n_M hP hS hv.1 rfl 0 (by decide) wd_506 rfl rfl rfl (rfl) (Nat.le_of_ble_eq_true rfl) d_M_value_66 (fun H locs hP hS => ?_)
                obtain ⟨f31, ef31⟩ : ∃ z99, z99 = va_up f y (some (ob 4 [.int 2, .int (nI (bN b)), .ref (ca 0), .ref (ca 1), .ref (ca 2), .ref (ca 3), .int (nI (bRc b)), .ref (ca 4), .int (nI (bHc b)), .ref (ca 5), .ref (ca 6), .ref (ca 7), .ref (ca 8), .ref (ca 9), .ref (ca 10), .ref (ca 11), .ref (ca 12), .ref (ca 13), .ref (ca 14), .ref (ca 15), .ref (ca 16), .ref (ca 17), .long bc, .int cp])) := ⟨_, rfl⟩
                replace hP : hH G (hA f s.heap.size) f31 H := by rw [ef31]; exact hP
                have hv_f31 : mv G f31 y ca 2 (nI (bN b)) (nI (bRc b)) (nI (bHc b)) bc cp MK PL AB BE AS FP PC PF PT PU RA KC PK ST DC DY DS SU := by rw [ef31]; exact mv_y hv _ _ _ _ _ _
                refine lv_aload_n hx hb d_M_value_69 rfl (lv_at hl 1 rfl) ?_
                refine g_get C i_M hP hv_f31.1 rfl 0 (by decide) wd_506 rfl rfl d_M_value_70 ?_
                refine lv_if_eq (tgt := 78) hx hb d_M_value_73 (by decide) (fun c_73 => ?_) (fun c_73 => ?_)
                · exact absurd c_73 (by decide)
                · refine lv_iconst (v := 0) hx hb d_M_value_76 (by decide) ?_
                  exact g_zret C (by first | exact Or.inl rfl | exact Or.inr rfl) hP hS (⟨2, b, bc, cp, ⟨MK, PL, AB, BE, AS, FP, PC, PF, PT, PU, RA, KC, PK, ST, DC, DY, DS, SU, hv_f31, hR⟩, Or.inr (Or.inl ⟨hI, hB, rfl, rfl⟩)⟩) (Nat.le_of_ble_eq_true rfl) (Nat.le_of_ble_eq_true rfl) d_M_value_77
              · exact absurd c_58 (by decide)
            · refine lv_iconst (v := 1) hx hb d_M_value_52 (by decide) ?_
              refine lv_goto (tgt := 66) hx hb d_M_value_53 (by decide) ?_
              have hB : ¬ (I_pn b p0 n0) := fun z9 => by first | exact bz_f hzP c_42 z9.1 | exact bz_f hzN c_49 z9.2
              refine g_put C i_M t_M t_M_ok n_M hP hS hv.1 rfl 0 (by decide) wd_506 rfl rfl rfl (rfl) (Nat.le_of_ble_eq_true rfl) d_M_value_66 (fun H locs hP hS => ?_)
              obtain ⟨f32, ef32⟩ : ∃ z99, z99 = va_up f y (some (ob 4 [.int 1, .int (nI (bN b)), .ref (ca 0), .ref (ca 1), .ref (ca 2), .ref (ca 3), .int (nI (bRc b)), .ref (ca 4), .int (nI (bHc b)), .ref (ca 5), .ref (ca 6), .ref (ca 7), .ref (ca 8), .ref (ca 9), .ref (ca 10), .ref (ca 11), .ref (ca 12), .ref (ca 13), .ref (ca 14), .ref (ca 15), .ref (ca 16), .ref (ca 17), .long bc, .int cp])) := ⟨_, rfl⟩
              replace hP : hH G (hA f s.heap.size) f32 H := by rw [ef32]; exact hP
              have hv_f32 : mv G f32 y ca 1 (nI (bN b)) (nI (bRc b)) (nI (bHc b)) bc cp MK PL AB BE AS FP PC PF PT PU RA KC PK ST DC DY DS SU := by rw [ef32]; exact mv_y hv _ _ _ _ _ _
              refine lv_aload_n hx hb d_M_value_69 rfl (lv_at hl 1 rfl) ?_
              refine g_get C i_M hP hv_f32.1 rfl 0 (by decide) wd_506 rfl rfl d_M_value_70 ?_
              refine lv_if_eq (tgt := 78) hx hb d_M_value_73 (by decide) (fun c_73 => ?_) (fun c_73 => ?_)
              · exact absurd c_73 (by decide)
              · refine lv_iconst (v := 0) hx hb d_M_value_76 (by decide) ?_
                exact g_zret C (by first | exact Or.inl rfl | exact Or.inr rfl) hP hS (⟨1, b, bc, cp, ⟨MK, PL, AB, BE, AS, FP, PC, PF, PT, PU, RA, KC, PK, ST, DC, DY, DS, SU, hv_f32, hR⟩, Or.inr (Or.inr ⟨hB, rfl, rfl⟩)⟩) (Nat.le_of_ble_eq_true rfl) (Nat.le_of_ble_eq_true rfl) d_M_value_77
        · refine lv_iconst (v := 1) hx hb d_M_value_29 (by decide) ?_
          refine lv_goto (tgt := 34) hx hb d_M_value_30 (by decide) ?_
          have hG : N_value x0 y0 un0 := ⟨⟨bz_t hzA c_4, bz_t hzB c_12⟩, ⟨Int32.not_lt.mp c_19, Int32.not_lt.mp c_26⟩⟩
          refine lv_istore (lv' := [(8, .int 1), (0, .ref y), (1, .int p0), (2, .int n0), (3, .long x0), (5, .long y0), (7, .int un0)]) hx hb d_M_value_34 hl (by decide) rfl (fun ls hl => ?_)
          refine lv_aload_n hx hb d_M_value_36 rfl (lv_at hl 1 rfl) ?_
          refine lv_aload_n hx hb d_M_value_37 rfl (lv_at hl 1 rfl) ?_
          refine lv_iload_n hx hb d_M_value_38 rfl (lv_at hl 2 rfl) ?_
          refine g_calli (g_runV C hl.1 (ct_M_isPart f y ca b hok th bc cp ⟨MK, PL, AB, BE, AS, FP, PC, PF, PT, PU, RA, KC, PK, ST, DC, DY, DS, SU, hv, hR⟩ p0 _) (cx_V C 1 wd_605 wd_607 wp_14 wd_3 wd_608 rfl rfl (by decide +kernel) ⟨Nat.le_of_ble_eq_true rfl, Nat.le_of_ble_eq_true rfl⟩) hP hv.1 rfl rfl rfl (Nat.le_of_ble_eq_true rfl) d_M_value_39 ⟨Nat.le_of_ble_eq_true rfl, Nat.le_of_ble_eq_true rfl⟩) hP hS hA0 (fun r34 f33 H locs hq hP hS => ?_)
          obtain ⟨hzP, hu⟩ := hq
          rw [hu] at hP
          refine lv_if_eq (tgt := 52) hx hb d_M_value_42 (by decide) (fun c_42 => ?_) (fun c_42 => ?_)
          · refine lv_iconst (v := 1) hx hb d_M_value_52 (by decide) ?_
            refine lv_goto (tgt := 66) hx hb d_M_value_53 (by decide) ?_
            have hB : ¬ (I_pn b p0 n0) := fun z9 => by first | exact bz_f hzP c_42 z9.1 | exact bz_f hzN c_49 z9.2
            refine g_put C i_M t_M t_M_ok n_M hP hS hv.1 rfl 0 (by decide) wd_506 rfl rfl rfl (rfl) (Nat.le_of_ble_eq_true rfl) d_M_value_66 (fun H locs hP hS => ?_)
            obtain ⟨f35, ef35⟩ : ∃ z99, z99 = va_up f y (some (ob 4 [.int 1, .int (nI (bN b)), .ref (ca 0), .ref (ca 1), .ref (ca 2), .ref (ca 3), .int (nI (bRc b)), .ref (ca 4), .int (nI (bHc b)), .ref (ca 5), .ref (ca 6), .ref (ca 7), .ref (ca 8), .ref (ca 9), .ref (ca 10), .ref (ca 11), .ref (ca 12), .ref (ca 13), .ref (ca 14), .ref (ca 15), .ref (ca 16), .ref (ca 17), .long bc, .int cp])) := ⟨_, rfl⟩
            replace hP : hH G (hA f s.heap.size) f35 H := by rw [ef35]; exact hP
            have hv_f35 : mv G f35 y ca 1 (nI (bN b)) (nI (bRc b)) (nI (bHc b)) bc cp MK PL AB BE AS FP PC PF PT PU RA KC PK ST DC DY DS SU := by rw [ef35]; exact mv_y hv _ _ _ _ _ _
            refine lv_aload_n hx hb d_M_value_69 rfl (lv_at hl 1 rfl) ?_
            refine g_get C i_M hP hv_f35.1 rfl 0 (by decide) wd_506 rfl rfl d_M_value_70 ?_
            refine lv_if_eq (tgt := 78) hx hb d_M_value_73 (by decide) (fun c_73 => ?_) (fun c_73 => ?_)
            · exact absurd c_73 (by decide)
            · refine lv_iconst (v := 0) hx hb d_M_value_76 (by decide) ?_
              exact g_zret C (by first | exact Or.inl rfl | exact Or.inr rfl) hP hS (⟨1, b, bc, cp, ⟨MK, PL, AB, BE, AS, FP, PC, PF, PT, PU, RA, KC, PK, ST, DC, DY, DS, SU, hv_f35, hR⟩, Or.inr (Or.inr ⟨hB, rfl, rfl⟩)⟩) (Nat.le_of_ble_eq_true rfl) (Nat.le_of_ble_eq_true rfl) d_M_value_77
          · refine lv_iload_n hx hb d_M_value_45 rfl (lv_at hl 3 rfl) ?_
            refine g_calli (g_runS C hl.1 (ct_M_isName f n0 _) (cx_S C 1 wd_609 wd_610 wd_3 wd_611 rfl rfl (by decide +kernel) ⟨Nat.le_of_ble_eq_true rfl, Nat.le_of_ble_eq_true rfl⟩) hP rfl rfl (Nat.le_of_ble_eq_true rfl) d_M_value_46 ⟨Nat.le_of_ble_eq_true rfl, Nat.le_of_ble_eq_true rfl⟩) hP hS hA0 (fun r37 f36 H locs hq hP hS => ?_)
            obtain ⟨hzN, hu⟩ := hq
            rw [hu] at hP
            refine lv_if_ne (tgt := 56) hx hb d_M_value_49 (by decide) (fun c_49 => ?_) (fun c_49 => ?_)
            · refine lv_iload hx hb d_M_value_56 (lv_at hl 0 rfl) ?_
              refine lv_if_eq (tgt := 65) hx hb d_M_value_58 (by decide) (fun c_58 => ?_) (fun c_58 => ?_)
              · exact absurd c_58 (by decide)
              · refine lv_iconst (v := 0) hx hb d_M_value_61 (by decide) ?_
                refine lv_goto (tgt := 66) hx hb d_M_value_62 (by decide) ?_
                have hI : I_pn b p0 n0 := ⟨bz_t hzP c_42, bz_t hzN c_49⟩
                have hN : N_value x0 y0 un0 := hG
                obtain ⟨i, n, a9, c9, A9, B9, hi, rfl, hn, rfl, ha9, rfl, hc1, hc2, rfl, hA9, hB9, hr0, rfl⟩ := hK0 hI hN
                have hun := u_int hN.2
                obtain ⟨hA1, hB0, hB1⟩ := u_bd (un := un0) hN.2 ha9 hc1 hc2
                have hDi := hok.2.1 i hi
                refine g_put C i_M t_M t_M_ok n_M hP hS hv.1 rfl 0 (by decide) wd_506 rfl rfl rfl (rfl) (Nat.le_of_ble_eq_true rfl) d_M_value_66 (fun H locs hP hS => ?_)
                obtain ⟨f38, ef38⟩ : ∃ z99, z99 = va_up f y (some (ob 4 [.int 0, .int (nI (bN b)), .ref (ca 0), .ref (ca 1), .ref (ca 2), .ref (ca 3), .int (nI (bRc b)), .ref (ca 4), .int (nI (bHc b)), .ref (ca 5), .ref (ca 6), .ref (ca 7), .ref (ca 8), .ref (ca 9), .ref (ca 10), .ref (ca 11), .ref (ca 12), .ref (ca 13), .ref (ca 14), .ref (ca 15), .ref (ca 16), .ref (ca 17), .long bc, .int cp])) := ⟨_, rfl⟩
                replace hP : hH G (hA f s.heap.size) f38 H := by rw [ef38]; exact hP
                have hv_f38 : mv G f38 y ca 0 (nI (bN b)) (nI (bRc b)) (nI (bHc b)) bc cp MK PL AB BE AS FP PC PF PT PU RA KC PK ST DC DY DS SU := by rw [ef38]; exact mv_y hv _ _ _ _ _ _
                refine lv_aload_n hx hb d_M_value_69 rfl (lv_at hl 1 rfl) ?_
                refine g_get C i_M hP hv_f38.1 rfl 0 (by decide) wd_506 rfl rfl d_M_value_70 ?_
                refine lv_if_eq (tgt := 78) hx hb d_M_value_73 (by decide) (fun c_73 => ?_) (fun c_73 => ?_)
                · refine lv_lload_n hx hb d_M_value_78 rfl (lv_at hl 4 rfl) ?_
                  refine g_eql (y := lN (a9 * 10 ^ 0)) (by rw [Nat.pow_zero, Nat.mul_one]) ?_
                  refine lv_lstore (lv' := [(9, .long (lN (a9 * 10 ^ 0))), (8, .int 1), (0, .ref y), (1, .int (nI i)), (2, .int (nI n)), (3, .long (lN a9)), (5, .long (lN c9)), (7, .int un0)]) hx hb d_M_value_79 hl (by decide) rfl (fun ls hl => ?_)
                  refine lv_lload hx hb d_M_value_81 (lv_at hl 6 rfl) ?_
                  refine lv_lstore (lv' := [(11, .long (lN c9)), (9, .long (lN (a9 * 10 ^ 0))), (8, .int 1), (0, .ref y), (1, .int (nI i)), (2, .int (nI n)), (3, .long (lN a9)), (5, .long (lN c9)), (7, .int un0)]) hx hb d_M_value_83 hl (by decide) rfl (fun ls hl => ?_)
                  refine lv_iconst (v := 0) hx hb d_M_value_85 (by decide) ?_
                  refine g_eqi (y := nI 0) (rfl) ?_
                  refine lv_istore (lv' := [(13, .int (nI 0)), (11, .long (lN c9)), (9, .long (lN (a9 * 10 ^ 0))), (8, .int 1), (0, .ref y), (1, .int (nI i)), (2, .int (nI n)), (3, .long (lN a9)), (5, .long (lN c9)), (7, .int un0)]) hx hb d_M_value_86 hl (by decide) rfl (fun ls hl => ?_)
                  have loop2 : ∀ (dd k : Nat) (ls : Array Slot), 9 < k + dd → k ≤ 9 → (k = 0 ∨ un0.toInt ≤ -(k : Int)) → lv_has ls 17 [(9, .long (lN (uA a9 un0))), (11, .long (lN (c9 * 10 ^ k))), (13, .int (-nI k)), (0, .ref y), (1, .int (nI i)), (2, .int (nI n)), (3, .long (lN a9)), (5, .long (lN c9)), (7, .int un0)] → W p l e { frames := 2, cells := 0, slots := 0, locals := 120 } s m #[.ref y, .int (nI i), .int (nI n), .long (lN a9), .long (lN c9), .int un0] below meth c H locs 0 0 (MQ below (va_Qi (fun r u => ∃ th2 b2 bc2 cp2, mS G u y ca b2 th2 bc2 cp2 ∧ mp (I_pn b (nI i) (nI n)) (N_value (lN a9) (lN c9) un0) b (bSet b i (dVa (bD b i) n A9 B9)) (r = r0) th2 b2) (hB G (hA f s.heap.size)) (hA f s.heap.size)) #[.ref y, .int (nI i), .int (nI n), .long (lN a9), .long (lN c9), .int un0] s 0 0 (hA f s.heap.size)) (F0 m 112 ls []) := by
                    intro dd
                    induction dd with
                    | zero => intro k ls h1 h2; exact absurd h1 (by omega)
                    | succ dd ih =>
                      intro k ls h1 hk9 h3 hl
                      refine lv_iload hx hb d_M_value_112 (lv_at hl 2 rfl) ?_
                      refine lv_iload hx hb d_M_value_114 (lv_at hl 8 rfl) ?_
                      refine lv_icmp_le (tgt := 133) hx hb d_M_value_116 (by decide) (fun c_116 => ?_) (fun c_116 => ?_)
                      · have ek : c9 * 10 ^ k = uB c9 un0 := u_e2 hk9 h3 c_116
                        rw [ek] at hl
                        have hg0 : 0 < Nat.gcd (uA a9 un0) (uB c9 un0) := Nat.gcd_pos_of_pos_right _ hB0
                        have hgb : Nat.gcd (uA a9 un0) (uB c9 un0) ≤ uB c9 un0 := Nat.le_of_dvd hB0 (Nat.gcd_dvd_right _ _)
                        have hBn : B9 ≠ 0 := by rw [hB9]; exact Nat.ne_of_gt (Nat.div_pos hgb hg0)
                        have hvv := (hR.2.1 i hi).2
                        have hA9b : A9 < 2 ^ 63 := by rw [hA9]; exact Nat.lt_of_le_of_lt (Nat.div_le_self _ _) hA1
                        have hB9b : B9 < 2 ^ 50 := by rw [hB9]; exact Nat.lt_of_le_of_lt (Nat.div_le_self _ _) hB1
                        refine lv_lload hx hb d_M_value_133 (lv_at hl 0 rfl) ?_
                        refine lv_lload hx hb d_M_value_135 (lv_at hl 1 rfl) ?_
                        refine g_calll (g_runS C hl.1 (ct_M_common f38 (uA a9 un0) (uB c9 un0) hA1 (by omega) _) (cx_S C 2 wd_613 wd_614 wd_3 wd_615 rfl rfl (by decide +kernel) ⟨Nat.le_of_ble_eq_true rfl, Nat.le_of_ble_eq_true rfl⟩) hP rfl rfl (Nat.le_of_ble_eq_true rfl) d_M_value_137 ⟨Nat.le_of_ble_eq_true rfl, Nat.le_of_ble_eq_true rfl⟩) hP hS hA0 (fun r2 f1 H locs hq hP hS => ?_)
                        obtain ⟨rfl, hu⟩ := hq
                        rw [hu] at hP
                        refine lv_lstore (lv' := [(13, .long (lN (Nat.gcd (uA a9 un0) (uB c9 un0)))), (9, .long (lN (uA a9 un0))), (11, .long (lN (uB c9 un0))), (0, .ref y), (1, .int (nI i)), (2, .int (nI n)), (3, .long (lN a9)), (5, .long (lN c9)), (7, .int un0)]) hx hb d_M_value_140 hl (by decide) rfl (fun ls hl => ?_)
                        refine lv_bipush (v := 12) hx hb d_M_value_142 (by decide) ?_
                        refine lv_iload_n hx hb d_M_value_144 rfl (lv_at hl 4 rfl) ?_
                        refine lv_imul hx hb d_M_value_145 ?_
                        refine g_eqi (y := nI (12 * i)) (pk_mul _ _) ?_
                        refine lv_iload_n hx hb d_M_value_146 rfl (lv_at hl 5 rfl) ?_
                        refine lv_iadd hx hb d_M_value_147 ?_
                        refine g_eqi (y := nI (12 * i + n)) (nI_add _ _) ?_
                        refine lv_istore (lv' := [(15, .int (nI (12 * i + n))), (13, .long (lN (Nat.gcd (uA a9 un0) (uB c9 un0)))), (9, .long (lN (uA a9 un0))), (11, .long (lN (uB c9 un0))), (0, .ref y), (1, .int (nI i)), (2, .int (nI n)), (3, .long (lN a9)), (5, .long (lN c9)), (7, .int un0)]) hx hb d_M_value_148 hl (by decide) rfl (fun ls hl => ?_)
                        refine lv_aload_n hx hb d_M_value_150 rfl (lv_at hl 4 rfl) ?_
                        refine g_get C i_M hP hv_f38.1 rfl 4 (by decide) wd_510 rfl rfl d_M_value_151 ?_
                        refine lv_iload hx hb d_M_value_154 (lv_at hl 0 rfl) ?_
                        refine g_laldN C hP hv_f38.2.2.2.1 (j := (12 * i + n)) (by omega) (by decide) d_M_value_156 ?_
                        refine g_eql (y := (if pVb (bD b i) n = 0 then (-1 : Int64) else lN (pVa (bD b i) n))) ((hvv n hn).1) ?_
                        refine lv_lload hx hb d_M_value_157 (lv_at hl 2 rfl) ?_
                        refine lv_lload hx hb d_M_value_159 (lv_at hl 1 rfl) ?_
                        refine lv_ldiv hx hb d_M_value_161 (fun z9 => absurd ((pk_lEQ (a := Nat.gcd (uA a9 un0) (uB c9 un0)) (b := 0) (by omega) (by omega)).mp z9) (by omega)) ?_
                        refine g_eql (y := lN A9) ((pk_lDiv hA1 hg0 (by omega)).trans (by rw [hA9])) ?_
                        refine W.lcmp hx hb d_M_value_162 ?_
                        refine lv_if_ne (tgt := 182) hx hb d_M_value_163 (by decide) (fun c_163 => ?_) (fun c_163 => ?_)
                        · have c_163 := fun z => c_163 ((lg_cmp_eq _ _).mpr z)
                          have q_d : ¬ (pVa (bD b i) n = A9 ∧ pVb (bD b i) n = B9) := fun z9 => c_163 (by rw [if_neg (fun z8 => hBn (by rw [← z9.2]; exact z8)), z9.1])
                          refine lv_iconst (v := 1) hx hb d_M_value_182 (by decide) ?_
                          refine lv_goto (tgt := 187) hx hb d_M_value_183 (by decide) ?_
                          refine lv_istore (lv' := [(16, .int 1), (15, .int (nI (12 * i + n))), (13, .long (lN (Nat.gcd (uA a9 un0) (uB c9 un0)))), (9, .long (lN (uA a9 un0))), (11, .long (lN (uB c9 un0))), (0, .ref y), (1, .int (nI i)), (2, .int (nI n)), (3, .long (lN a9)), (5, .long (lN c9)), (7, .int un0)]) hx hb d_M_value_187 hl (by decide) rfl (fun ls hl => ?_)
                          refine lv_aload_n hx hb d_M_value_189 rfl (lv_at hl 5 rfl) ?_
                          refine g_get C i_M hP hv_f38.1 rfl 4 (by decide) wd_510 rfl rfl d_M_value_190 ?_
                          refine lv_iload hx hb d_M_value_193 (lv_at hl 1 rfl) ?_
                          refine lv_lload hx hb d_M_value_195 (lv_at hl 3 rfl) ?_
                          refine lv_lload hx hb d_M_value_197 (lv_at hl 2 rfl) ?_
                          refine lv_ldiv hx hb d_M_value_199 (fun z9 => absurd ((pk_lEQ (a := Nat.gcd (uA a9 un0) (uB c9 un0)) (b := 0) (by omega) (by omega)).mp z9) (by omega)) ?_
                          refine g_eql (y := lN A9) ((pk_lDiv hA1 hg0 (by omega)).trans (by rw [hA9])) ?_
                          refine g_lastN C hP hS hv_f38.2.2.2.1 (j := (12 * i + n)) (by omega) (by decide) d_M_value_200 (fun H locs hP hS => ?_)
                          obtain ⟨g4, eg4⟩ : ∃ z99, z99 = vp_updL AB (12 * i + n) (lN A9) := ⟨_, rfl⟩
                          rw [← eg4] at hP
                          obtain ⟨f3, ef3⟩ : ∃ z99, z99 = va_up f38 (ca 2) (some (aL G 480 g4)) := ⟨_, rfl⟩
                          replace hP : hH G (hA f s.heap.size) f3 H := by rw [ef3]; exact hP
                          have hv_f3 : mv G f3 y ca 0 (nI (bN b)) (nI (bRc b)) (nI (bHc b)) bc cp MK PL g4 BE AS FP PC PF PT PU RA KC PK ST DC DY DS SU := by rw [ef3]; exact mv_2 hv_f38 _
                          refine lv_aload_n hx hb d_M_value_201 rfl (lv_at hl 5 rfl) ?_
                          refine g_get C i_M hP hv_f3.1 rfl 5 (by decide) wd_511 rfl rfl d_M_value_202 ?_
                          refine lv_iload hx hb d_M_value_205 (lv_at hl 1 rfl) ?_
                          refine lv_lload hx hb d_M_value_207 (lv_at hl 4 rfl) ?_
                          refine lv_lload hx hb d_M_value_209 (lv_at hl 2 rfl) ?_
                          refine lv_ldiv hx hb d_M_value_211 (fun z9 => absurd ((pk_lEQ (a := Nat.gcd (uA a9 un0) (uB c9 un0)) (b := 0) (by omega) (by omega)).mp z9) (by omega)) ?_
                          refine g_eql (y := lN B9) ((pk_lDiv (by omega) hg0 (by omega)).trans (by rw [hB9])) ?_
                          refine g_lastN C hP hS hv_f3.2.2.2.2.1 (j := (12 * i + n)) (by omega) (by decide) d_M_value_212 (fun H locs hP hS => ?_)
                          obtain ⟨g6, eg6⟩ : ∃ z99, z99 = vp_updL BE (12 * i + n) (lN B9) := ⟨_, rfl⟩
                          rw [← eg6] at hP
                          obtain ⟨f5, ef5⟩ : ∃ z99, z99 = va_up f3 (ca 3) (some (aL G 480 g6)) := ⟨_, rfl⟩
                          replace hP : hH G (hA f s.heap.size) f5 H := by rw [ef5]; exact hP
                          have hv_f5 : mv G f5 y ca 0 (nI (bN b)) (nI (bRc b)) (nI (bHc b)) bc cp MK PL g4 g6 AS FP PC PF PT PU RA KC PK ST DC DY DS SU := by rw [ef5]; exact mv_3 hv_f3 _
                          refine lv_iload hx hb d_M_value_213 (lv_at hl 0 rfl) ?_
                          subst eg4 eg6
                          exact g_zret C (by first | exact Or.inl rfl | exact Or.inr rfl) hP hS (⟨0, bSet b i (dVa (bD b i) n A9 B9), bc, cp, ⟨MK, PL, _, _, AS, FP, PC, PF, PT, PU, RA, KC, PK, ST, DC, DY, DS, SU, hv_f5, (mR_val hR hi hNN hn hBn)⟩, Or.inl ⟨hI, hN, rfl, rfl, by rw [hr0, if_neg q_d]⟩⟩) (Nat.le_of_ble_eq_true rfl) (Nat.le_of_ble_eq_true rfl) d_M_value_215
                        · have c_163 := (lg_cmp_eq _ _).mp c_163
                          have q_b : pVb (bD b i) n ≠ 0 := fun z9 => by rw [if_pos z9] at c_163; exact lN_nm1 hA9b c_163.symm
                          have q_a : pVa (bD b i) n = A9 := by rw [if_neg q_b] at c_163; exact (pk_lEQ (hDi.2.1 n).1 hA9b).mp c_163
                          refine lv_aload_n hx hb d_M_value_166 rfl (lv_at hl 4 rfl) ?_
                          refine g_get C i_M hP hv_f38.1 rfl 5 (by decide) wd_511 rfl rfl d_M_value_167 ?_
                          refine lv_iload hx hb d_M_value_170 (lv_at hl 0 rfl) ?_
                          refine g_laldN C hP hv_f38.2.2.2.2.1 (j := (12 * i + n)) (by omega) (by decide) d_M_value_172 ?_
                          refine g_eql (y := lN (pVb (bD b i) n)) ((hvv n hn).2 q_b) ?_
                          refine lv_lload hx hb d_M_value_173 (lv_at hl 3 rfl) ?_
                          refine lv_lload hx hb d_M_value_175 (lv_at hl 1 rfl) ?_
                          refine lv_ldiv hx hb d_M_value_177 (fun z9 => absurd ((pk_lEQ (a := Nat.gcd (uA a9 un0) (uB c9 un0)) (b := 0) (by omega) (by omega)).mp z9) (by omega)) ?_
                          refine g_eql (y := lN B9) ((pk_lDiv (by omega) hg0 (by omega)).trans (by rw [hB9])) ?_
                          refine W.lcmp hx hb d_M_value_178 ?_
                          refine lv_if_eq (tgt := 186) hx hb d_M_value_179 (by decide) (fun c_179 => ?_) (fun c_179 => ?_)
                          · have c_179 := (lg_cmp_eq _ _).mp c_179
                            have q_s : pVa (bD b i) n = A9 ∧ pVb (bD b i) n = B9 := ⟨q_a, (pk_lEQ (Nat.lt_trans (hDi.2.1 n).2 (by decide)) (by omega)).mp c_179⟩
                            refine lv_iconst (v := 0) hx hb d_M_value_186 (by decide) ?_
                            refine lv_istore (lv' := [(16, .int 0), (15, .int (nI (12 * i + n))), (13, .long (lN (Nat.gcd (uA a9 un0) (uB c9 un0)))), (9, .long (lN (uA a9 un0))), (11, .long (lN (uB c9 un0))), (0, .ref y), (1, .int (nI i)), (2, .int (nI n)), (3, .long (lN a9)), (5, .long (lN c9)), (7, .int un0)]) hx hb d_M_value_187 hl (by decide) rfl (fun ls hl => ?_)
                            refine lv_aload_n hx hb d_M_value_189 rfl (lv_at hl 5 rfl) ?_
                            refine g_get C i_M hP hv_f38.1 rfl 4 (by decide) wd_510 rfl rfl d_M_value_190 ?_
                            refine lv_iload hx hb d_M_value_193 (lv_at hl 1 rfl) ?_
                            refine lv_lload hx hb d_M_value_195 (lv_at hl 3 rfl) ?_
                            refine lv_lload hx hb d_M_value_197 (lv_at hl 2 rfl) ?_
                            refine lv_ldiv hx hb d_M_value_199 (fun z9 => absurd ((pk_lEQ (a := Nat.gcd (uA a9 un0) (uB c9 un0)) (b := 0) (by omega) (by omega)).mp z9) (by omega)) ?_
                            refine g_eql (y := lN A9) ((pk_lDiv hA1 hg0 (by omega)).trans (by rw [hA9])) ?_
                            refine g_lastN C hP hS hv_f38.2.2.2.1 (j := (12 * i + n)) (by omega) (by decide) d_M_value_200 (fun H locs hP hS => ?_)
                            obtain ⟨g8, eg8⟩ : ∃ z99, z99 = vp_updL AB (12 * i + n) (lN A9) := ⟨_, rfl⟩
                            rw [← eg8] at hP
                            obtain ⟨f7, ef7⟩ : ∃ z99, z99 = va_up f38 (ca 2) (some (aL G 480 g8)) := ⟨_, rfl⟩
                            replace hP : hH G (hA f s.heap.size) f7 H := by rw [ef7]; exact hP
                            have hv_f7 : mv G f7 y ca 0 (nI (bN b)) (nI (bRc b)) (nI (bHc b)) bc cp MK PL g8 BE AS FP PC PF PT PU RA KC PK ST DC DY DS SU := by rw [ef7]; exact mv_2 hv_f38 _
                            refine lv_aload_n hx hb d_M_value_201 rfl (lv_at hl 5 rfl) ?_
                            refine g_get C i_M hP hv_f7.1 rfl 5 (by decide) wd_511 rfl rfl d_M_value_202 ?_
                            refine lv_iload hx hb d_M_value_205 (lv_at hl 1 rfl) ?_
                            refine lv_lload hx hb d_M_value_207 (lv_at hl 4 rfl) ?_
                            refine lv_lload hx hb d_M_value_209 (lv_at hl 2 rfl) ?_
                            refine lv_ldiv hx hb d_M_value_211 (fun z9 => absurd ((pk_lEQ (a := Nat.gcd (uA a9 un0) (uB c9 un0)) (b := 0) (by omega) (by omega)).mp z9) (by omega)) ?_
                            refine g_eql (y := lN B9) ((pk_lDiv (by omega) hg0 (by omega)).trans (by rw [hB9])) ?_
                            refine g_lastN C hP hS hv_f7.2.2.2.2.1 (j := (12 * i + n)) (by omega) (by decide) d_M_value_212 (fun H locs hP hS => ?_)
                            obtain ⟨g10, eg10⟩ : ∃ z99, z99 = vp_updL BE (12 * i + n) (lN B9) := ⟨_, rfl⟩
                            rw [← eg10] at hP
                            obtain ⟨f9, ef9⟩ : ∃ z99, z99 = va_up f7 (ca 3) (some (aL G 480 g10)) := ⟨_, rfl⟩
                            replace hP : hH G (hA f s.heap.size) f9 H := by rw [ef9]; exact hP
                            have hv_f9 : mv G f9 y ca 0 (nI (bN b)) (nI (bRc b)) (nI (bHc b)) bc cp MK PL g8 g10 AS FP PC PF PT PU RA KC PK ST DC DY DS SU := by rw [ef9]; exact mv_3 hv_f7 _
                            refine lv_iload hx hb d_M_value_213 (lv_at hl 0 rfl) ?_
                            subst eg8 eg10
                            exact g_zret C (by first | exact Or.inl rfl | exact Or.inr rfl) hP hS (⟨0, bSet b i (dVa (bD b i) n A9 B9), bc, cp, ⟨MK, PL, _, _, AS, FP, PC, PF, PT, PU, RA, KC, PK, ST, DC, DY, DS, SU, hv_f9, (mR_val hR hi hNN hn hBn)⟩, Or.inl ⟨hI, hN, rfl, rfl, by rw [hr0, if_pos q_s]⟩⟩) (Nat.le_of_ble_eq_true rfl) (Nat.le_of_ble_eq_true rfl) d_M_value_215
                          · have c_179 := fun z => c_179 ((lg_cmp_eq _ _).mpr z)
                            have q_d : ¬ (pVa (bD b i) n = A9 ∧ pVb (bD b i) n = B9) := fun z9 => c_179 (by rw [z9.2])
                            refine lv_iconst (v := 1) hx hb d_M_value_182 (by decide) ?_
                            refine lv_goto (tgt := 187) hx hb d_M_value_183 (by decide) ?_
                            refine lv_istore (lv' := [(16, .int 1), (15, .int (nI (12 * i + n))), (13, .long (lN (Nat.gcd (uA a9 un0) (uB c9 un0)))), (9, .long (lN (uA a9 un0))), (11, .long (lN (uB c9 un0))), (0, .ref y), (1, .int (nI i)), (2, .int (nI n)), (3, .long (lN a9)), (5, .long (lN c9)), (7, .int un0)]) hx hb d_M_value_187 hl (by decide) rfl (fun ls hl => ?_)
                            refine lv_aload_n hx hb d_M_value_189 rfl (lv_at hl 5 rfl) ?_
                            refine g_get C i_M hP hv_f38.1 rfl 4 (by decide) wd_510 rfl rfl d_M_value_190 ?_
                            refine lv_iload hx hb d_M_value_193 (lv_at hl 1 rfl) ?_
                            refine lv_lload hx hb d_M_value_195 (lv_at hl 3 rfl) ?_
                            refine lv_lload hx hb d_M_value_197 (lv_at hl 2 rfl) ?_
                            refine lv_ldiv hx hb d_M_value_199 (fun z9 => absurd ((pk_lEQ (a := Nat.gcd (uA a9 un0) (uB c9 un0)) (b := 0) (by omega) (by omega)).mp z9) (by omega)) ?_
                            refine g_eql (y := lN A9) ((pk_lDiv hA1 hg0 (by omega)).trans (by rw [hA9])) ?_
                            refine g_lastN C hP hS hv_f38.2.2.2.1 (j := (12 * i + n)) (by omega) (by decide) d_M_value_200 (fun H locs hP hS => ?_)
                            obtain ⟨g12, eg12⟩ : ∃ z99, z99 = vp_updL AB (12 * i + n) (lN A9) := ⟨_, rfl⟩
                            rw [← eg12] at hP
                            obtain ⟨f11, ef11⟩ : ∃ z99, z99 = va_up f38 (ca 2) (some (aL G 480 g12)) := ⟨_, rfl⟩
                            replace hP : hH G (hA f s.heap.size) f11 H := by rw [ef11]; exact hP
                            have hv_f11 : mv G f11 y ca 0 (nI (bN b)) (nI (bRc b)) (nI (bHc b)) bc cp MK PL g12 BE AS FP PC PF PT PU RA KC PK ST DC DY DS SU := by rw [ef11]; exact mv_2 hv_f38 _
                            refine lv_aload_n hx hb d_M_value_201 rfl (lv_at hl 5 rfl) ?_
                            refine g_get C i_M hP hv_f11.1 rfl 5 (by decide) wd_511 rfl rfl d_M_value_202 ?_
                            refine lv_iload hx hb d_M_value_205 (lv_at hl 1 rfl) ?_
                            refine lv_lload hx hb d_M_value_207 (lv_at hl 4 rfl) ?_
                            refine lv_lload hx hb d_M_value_209 (lv_at hl 2 rfl) ?_
                            refine lv_ldiv hx hb d_M_value_211 (fun z9 => absurd ((pk_lEQ (a := Nat.gcd (uA a9 un0) (uB c9 un0)) (b := 0) (by omega) (by omega)).mp z9) (by omega)) ?_
                            refine g_eql (y := lN B9) ((pk_lDiv (by omega) hg0 (by omega)).trans (by rw [hB9])) ?_
                            refine g_lastN C hP hS hv_f11.2.2.2.2.1 (j := (12 * i + n)) (by omega) (by decide) d_M_value_212 (fun H locs hP hS => ?_)
                            obtain ⟨g14, eg14⟩ : ∃ z99, z99 = vp_updL BE (12 * i + n) (lN B9) := ⟨_, rfl⟩
                            rw [← eg14] at hP
                            obtain ⟨f13, ef13⟩ : ∃ z99, z99 = va_up f11 (ca 3) (some (aL G 480 g14)) := ⟨_, rfl⟩
                            replace hP : hH G (hA f s.heap.size) f13 H := by rw [ef13]; exact hP
                            have hv_f13 : mv G f13 y ca 0 (nI (bN b)) (nI (bRc b)) (nI (bHc b)) bc cp MK PL g12 g14 AS FP PC PF PT PU RA KC PK ST DC DY DS SU := by rw [ef13]; exact mv_3 hv_f11 _
                            refine lv_iload hx hb d_M_value_213 (lv_at hl 0 rfl) ?_
                            subst eg12 eg14
                            exact g_zret C (by first | exact Or.inl rfl | exact Or.inr rfl) hP hS (⟨0, bSet b i (dVa (bD b i) n A9 B9), bc, cp, ⟨MK, PL, _, _, AS, FP, PC, PF, PT, PU, RA, KC, PK, ST, DC, DY, DS, SU, hv_f13, (mR_val hR hi hNN hn hBn)⟩, Or.inl ⟨hI, hN, rfl, rfl, by rw [hr0, if_neg q_d]⟩⟩) (Nat.le_of_ble_eq_true rfl) (Nat.le_of_ble_eq_true rfl) d_M_value_215
                      · have q_116 : un0 < -nI k := Int32.not_le.mp c_116
                        have q_k := u_k2 hk9 hun q_116
                        refine lv_ldc2 hx hb hown (C.w wd_612) d_M_value_119 ?_
                        refine lv_lload hx hb d_M_value_122 (lv_at hl 1 rfl) ?_
                        refine lv_lmul hx hb d_M_value_124 ?_
                        refine g_eql (y := lN (c9 * 10 ^ (k + 1))) (ten_st) ?_
                        refine lv_lstore (lv' := [(11, .long (lN (c9 * 10 ^ (k + 1)))), (9, .long (lN (uA a9 un0))), (13, .int (-nI k)), (0, .ref y), (1, .int (nI i)), (2, .int (nI n)), (3, .long (lN a9)), (5, .long (lN c9)), (7, .int un0)]) hx hb d_M_value_125 hl (by decide) rfl (fun ls hl => ?_)
                        refine lv_iinc (v := -nI (k + 1)) (lv' := [(13, .int (-nI (k + 1))), (11, .long (lN (c9 * 10 ^ (k + 1)))), (9, .long (lN (uA a9 un0))), (0, .ref y), (1, .int (nI i)), (2, .int (nI n)), (3, .long (lN a9)), (5, .long (lN c9)), (7, .int un0)]) hx hb d_M_value_127 hl (k := 2) rfl (neg_st) (by decide) rfl (fun ls hl => ?_)
                        refine lv_goto (tgt := 112) hx hb d_M_value_130 (by decide) ?_
                        exact ih (k + 1) ls (by omega) (by omega) (Or.inr (by omega)) (lv_sub hl [2, 1, 0, 3, 4, 5, 6, 7, 8] rfl)
                  have loop1 : ∀ (dd k : Nat) (ls : Array Slot), 9 < k + dd → k ≤ 9 → (k = 0 ∨ (k : Int) ≤ un0.toInt) → lv_has ls 17 [(9, .long (lN (a9 * 10 ^ k))), (11, .long (lN c9)), (13, .int (nI k)), (0, .ref y), (1, .int (nI i)), (2, .int (nI n)), (3, .long (lN a9)), (5, .long (lN c9)), (7, .int un0)] → W p l e { frames := 2, cells := 0, slots := 0, locals := 120 } s m #[.ref y, .int (nI i), .int (nI n), .long (lN a9), .long (lN c9), .int un0] below meth c H locs 0 0 (MQ below (va_Qi (fun r u => ∃ th2 b2 bc2 cp2, mS G u y ca b2 th2 bc2 cp2 ∧ mp (I_pn b (nI i) (nI n)) (N_value (lN a9) (lN c9) un0) b (bSet b i (dVa (bD b i) n A9 B9)) (r = r0) th2 b2) (hB G (hA f s.heap.size)) (hA f s.heap.size)) #[.ref y, .int (nI i), .int (nI n), .long (lN a9), .long (lN c9), .int un0] s 0 0 (hA f s.heap.size)) (F0 m 88 ls []) := by
                    intro dd
                    induction dd with
                    | zero => intro k ls h1 h2; exact absurd h1 (by omega)
                    | succ dd ih =>
                      intro k ls h1 hk9 h3 hl
                      refine lv_iload hx hb d_M_value_88 (lv_at hl 2 rfl) ?_
                      refine lv_iload hx hb d_M_value_90 (lv_at hl 8 rfl) ?_
                      refine lv_icmp_ge (tgt := 109) hx hb d_M_value_92 (by decide) (fun c_92 => ?_) (fun c_92 => ?_)
                      · have ek : a9 * 10 ^ k = uA a9 un0 := u_e1 hk9 h3 c_92
                        rw [ek] at hl
                        refine lv_iconst (v := 0) hx hb d_M_value_109 (by decide) ?_
                        refine g_eqi (y := -nI 0) (by decide) ?_
                        refine lv_istore (lv' := [(13, .int (-nI 0)), (9, .long (lN (uA a9 un0))), (11, .long (lN c9)), (0, .ref y), (1, .int (nI i)), (2, .int (nI n)), (3, .long (lN a9)), (5, .long (lN c9)), (7, .int un0)]) hx hb d_M_value_110 hl (by decide) rfl (fun ls hl => ?_)
                        refine loop2 10 0 ls (by omega) (by omega) (Or.inl rfl) ?_
                        rw [Nat.pow_zero, Nat.mul_one]
                        exact (lv_sub hl [1, 2, 0, 3, 4, 5, 6, 7, 8] rfl)
                      · have q_92 : nI k < un0 := Int32.not_le.mp c_92
                        have q_k := u_k1 hk9 hun q_92
                        refine lv_ldc2 hx hb hown (C.w wd_612) d_M_value_95 ?_
                        refine lv_lload hx hb d_M_value_98 (lv_at hl 0 rfl) ?_
                        refine lv_lmul hx hb d_M_value_100 ?_
                        refine g_eql (y := lN (a9 * 10 ^ (k + 1))) (ten_st) ?_
                        refine lv_lstore (lv' := [(9, .long (lN (a9 * 10 ^ (k + 1)))), (11, .long (lN c9)), (13, .int (nI k)), (0, .ref y), (1, .int (nI i)), (2, .int (nI n)), (3, .long (lN a9)), (5, .long (lN c9)), (7, .int un0)]) hx hb d_M_value_101 hl (by decide) rfl (fun ls hl => ?_)
                        refine lv_iinc (v := nI (k + 1)) (lv' := [(13, .int (nI (k + 1))), (9, .long (lN (a9 * 10 ^ (k + 1)))), (11, .long (lN c9)), (0, .ref y), (1, .int (nI i)), (2, .int (nI n)), (3, .long (lN a9)), (5, .long (lN c9)), (7, .int un0)]) hx hb d_M_value_103 hl (k := 2) rfl (nI_1 k) (by decide) rfl (fun ls hl => ?_)
                        refine lv_goto (tgt := 88) hx hb d_M_value_106 (by decide) ?_
                        exact ih (k + 1) ls (by omega) (by omega) (Or.inr (by omega)) (lv_sub hl [1, 2, 0, 3, 4, 5, 6, 7, 8] rfl)
                  exact loop1 10 0 ls (by omega) (by omega) (Or.inl rfl) (lv_sub hl [2, 1, 0, 4, 5, 6, 7, 8, 9] rfl)
                · exact absurd c_73 (by decide)
            · refine lv_iconst (v := 1) hx hb d_M_value_52 (by decide) ?_
              refine lv_goto (tgt := 66) hx hb d_M_value_53 (by decide) ?_
              have hB : ¬ (I_pn b p0 n0) := fun z9 => by first | exact bz_f hzP c_42 z9.1 | exact bz_f hzN c_49 z9.2
              refine g_put C i_M t_M t_M_ok n_M hP hS hv.1 rfl 0 (by decide) wd_506 rfl rfl rfl (rfl) (Nat.le_of_ble_eq_true rfl) d_M_value_66 (fun H locs hP hS => ?_)
              obtain ⟨f39, ef39⟩ : ∃ z99, z99 = va_up f y (some (ob 4 [.int 1, .int (nI (bN b)), .ref (ca 0), .ref (ca 1), .ref (ca 2), .ref (ca 3), .int (nI (bRc b)), .ref (ca 4), .int (nI (bHc b)), .ref (ca 5), .ref (ca 6), .ref (ca 7), .ref (ca 8), .ref (ca 9), .ref (ca 10), .ref (ca 11), .ref (ca 12), .ref (ca 13), .ref (ca 14), .ref (ca 15), .ref (ca 16), .ref (ca 17), .long bc, .int cp])) := ⟨_, rfl⟩
              replace hP : hH G (hA f s.heap.size) f39 H := by rw [ef39]; exact hP
              have hv_f39 : mv G f39 y ca 1 (nI (bN b)) (nI (bRc b)) (nI (bHc b)) bc cp MK PL AB BE AS FP PC PF PT PU RA KC PK ST DC DY DS SU := by rw [ef39]; exact mv_y hv _ _ _ _ _ _
              refine lv_aload_n hx hb d_M_value_69 rfl (lv_at hl 1 rfl) ?_
              refine g_get C i_M hP hv_f39.1 rfl 0 (by decide) wd_506 rfl rfl d_M_value_70 ?_
              refine lv_if_eq (tgt := 78) hx hb d_M_value_73 (by decide) (fun c_73 => ?_) (fun c_73 => ?_)
              · exact absurd c_73 (by decide)
              · refine lv_iconst (v := 0) hx hb d_M_value_76 (by decide) ?_
                exact g_zret C (by first | exact Or.inl rfl | exact Or.inr rfl) hP hS (⟨1, b, bc, cp, ⟨MK, PL, AB, BE, AS, FP, PC, PF, PT, PU, RA, KC, PK, ST, DC, DY, DS, SU, hv_f39, hR⟩, Or.inr (Or.inr ⟨hB, rfl, rfl⟩)⟩) (Nat.le_of_ble_eq_true rfl) (Nat.le_of_ble_eq_true rfl) d_M_value_77
