/-! Part: has, against, setFraction, stateOn. -/
set_option maxHeartbeats 4000000 in
set_option maxRecDepth 100000 in
theorem ct_P_has {l : Launch} {G : hG} (f : hm) (pp : Nat) (x0 x1 x2 : Int32) (ab be pr st pk : Nat) (o1 : f pp = some (ob 1 [.int x0, .int x1, .int x2, .ref ab, .ref be, .ref pr, .ref st, .ref pk])) (BE : Nat → Int64) (a2 : f be = some (aL G 12 BE)) (j : Nat) (hj : j < 12) : ci_ l G y_P_has w_P_has { frames := 0, cells := 0, slots := 0, locals := 0 } [.ref pp, .int (nI j)] f (fun r u => r = (if BE j = 0 then 0 else 1) ∧ u = f) := by
  intro sz
  refine h_ofW (cc := c_P_has) (maxL := 2) (ret := (some .boolean)) (by decide) rfl (Nat.le_of_ble_eq_true rfl) ?_
  intro p e s m below meth c ls C hin hsz hP hl
  obtain ⟨hx, hb, hml, hown, -, -, -, -⟩ := id C
  subst hsz
  have hA0 : ∀ q, s.heap.size ≤ q → hA f s.heap.size q := hA.new
  have hS : va_S (hA f s.heap.size) s.heap s.heap [] := va_S.rf
  replace hl : lv_has ls 2 [(0, .ref pp), (1, .int (nI j))] := hl
  refine lv_aload_n hx hb d_P_has_0 rfl (lv_at hl 0 rfl) ?_
  refine g_get C i_P hP o1 rfl 4 (by decide) wd_198 rfl rfl d_P_has_1 ?_
  refine lv_iload_n hx hb d_P_has_4 rfl (lv_at hl 1 rfl) ?_
  refine g_laldN C hP a2 (j := j) (by omega) (by decide) d_P_has_5 ?_
  refine lv_lconst (v := 0) hx hb d_P_has_6 (by decide) ?_
  refine W.lcmp hx hb d_P_has_7 ?_
  refine lv_if_eq (tgt := 15) hx hb d_P_has_8 (by decide) (fun c_8 => ?_) (fun c_8 => ?_)
  · have c_8 := (lg_cmp_eq _ _).mp c_8
    refine lv_iconst (v := 0) hx hb d_P_has_15 (by decide) ?_
    exact g_zret C (by first | exact Or.inl rfl | exact Or.inr rfl) hP hS (⟨by rw [if_pos c_8], rfl⟩) (Nat.le_of_ble_eq_true rfl) (Nat.le_of_ble_eq_true rfl) d_P_has_16
  · have c_8 := fun z => c_8 ((lg_cmp_eq _ _).mpr z)
    refine lv_iconst (v := 1) hx hb d_P_has_11 (by decide) ?_
    refine lv_goto (tgt := 16) hx hb d_P_has_12 (by decide) ?_
    exact g_zret C (by first | exact Or.inl rfl | exact Or.inr rfl) hP hS (⟨by rw [if_neg c_8], rfl⟩) (Nat.le_of_ble_eq_true rfl) (Nat.le_of_ble_eq_true rfl) d_P_has_16
set_option maxHeartbeats 4000000 in
set_option maxRecDepth 100000 in
theorem ct_P_against {l : Launch} {G : hG} (f : hm) (pp : Nat) (x0 x1 x2 : Int32) (ab be pr st pk : Nat) (o1 : f pp = some (ob 1 [.int x0, .int x1, .int x2, .ref ab, .ref be, .ref pr, .ref st, .ref pk])) (AB BE : Nat → Int64) (a1 : f ab = some (aL G 12 AB)) (a2 : f be = some (aL G 12 BE)) (j : Nat) (hj : j < 12) (a b c0 d : Nat) (ha : a < 2 ^ 63) (hb0 : 0 < b) (hb2 : b < 2 ^ 50) (hc : c0 < 2 ^ 63) (hd0 : 0 < d) (hd : d < 2 ^ 63) (hAB : AB j = lN a) (hBE : BE j = lN b) : ci_ l G y_P_against w_P_against { frames := 1, cells := 0, slots := 0, locals := 40 } [.ref pp, .int (nI j), .long (lN c0), .long (lN d)] f (fun r u => r = cq_i ((a : Int) * d - (c0 : Int) * b) ∧ u = f) := by
  intro sz
  refine h_ofW (cc := c_P_against) (maxL := 6) (ret := (some .int)) (by decide) rfl (Nat.le_of_ble_eq_true rfl) ?_
  intro p e s m below meth c ls C hin hsz hP hl
  obtain ⟨hx, hb, hml, hown, -, -, -, -⟩ := id C
  subst hsz
  have hA0 : ∀ q, s.heap.size ≤ q → hA f s.heap.size q := hA.new
  have hS : va_S (hA f s.heap.size) s.heap s.heap [] := va_S.rf
  replace hl : lv_has ls 6 [(0, .ref pp), (1, .int (nI j)), (2, .long (lN c0)), (4, .long (lN d))] := hl
  refine lv_aload_n hx hb d_P_against_0 rfl (lv_at hl 0 rfl) ?_
  refine g_get C i_P hP o1 rfl 3 (by decide) wd_196 rfl rfl d_P_against_1 ?_
  refine lv_iload_n hx hb d_P_against_4 rfl (lv_at hl 1 rfl) ?_
  refine g_laldN C hP a1 (j := j) (by omega) (by decide) d_P_against_5 ?_
  refine g_eql (y := lN a) (hAB) ?_
  refine lv_aload_n hx hb d_P_against_6 rfl (lv_at hl 0 rfl) ?_
  refine g_get C i_P hP o1 rfl 4 (by decide) wd_198 rfl rfl d_P_against_7 ?_
  refine lv_iload_n hx hb d_P_against_10 rfl (lv_at hl 1 rfl) ?_
  refine g_laldN C hP a2 (j := j) (by omega) (by decide) d_P_against_11 ?_
  refine g_eql (y := lN b) (hBE) ?_
  refine lv_lload_n hx hb d_P_against_12 rfl (lv_at hl 2 rfl) ?_
  refine lv_lload hx hb d_P_against_13 (lv_at hl 3 rfl) ?_
  refine g_calli (g_runS C hl.1 (ct_F_compare f a b c0 d ha hb0 hb2 hc hd0 hd _) (cx_S C 4 wd_322 wd_323 wd_12 wd_324 rfl rfl (by decide +kernel) ⟨Nat.le_of_ble_eq_true rfl, Nat.le_of_ble_eq_true rfl⟩) hP rfl rfl (Nat.le_of_ble_eq_true rfl) d_P_against_15 ⟨Nat.le_of_ble_eq_true rfl, Nat.le_of_ble_eq_true rfl⟩) hP hS hA0 (fun r2 f1 H locs hq hP hS => ?_)
  obtain ⟨rfl, hu⟩ := hq
  rw [hu] at hP
  exact g_iret C hP hS (⟨rfl, rfl⟩) (Nat.le_of_ble_eq_true rfl) (Nat.le_of_ble_eq_true rfl) d_P_against_18
set_option maxHeartbeats 4000000 in
set_option maxRecDepth 100000 in
theorem ct_P_setFraction {l : Launch} {G : hG} (f : hm) (pp : Nat) (x0 x1 x2 : Int32) (ab be pr st pk : Nat) (o1 : f pp = some (ob 1 [.int x0, .int x1, .int x2, .ref ab, .ref be, .ref pr, .ref st, .ref pk])) (AB BE : Nat → Int64) (a1 : f ab = some (aL G 12 AB)) (a2 : f be = some (aL G 12 BE)) (hne : ab ≠ be) (j : Nat) (hj : j < 12) (a b : Nat) (ha : a < 2 ^ 63) (hb0 : 0 < b) (hb2 : b < 2 ^ 50) : ci_ l G y_P_setFraction w_P_setFraction { frames := 2, cells := 0, slots := 0, locals := 80 } [.ref pp, .int (nI j), .long (lN a), .long (lN b)] f (fun r u => r = (if AB j = lN (a / Nat.gcd a b) ∧ BE j = lN (b / Nat.gcd a b) then 0 else 1) ∧ u ab = some (aL G 12 (vp_updL AB j (lN (a / Nat.gcd a b)))) ∧ u be = some (aL G 12 (vp_updL BE j (lN (b / Nat.gcd a b)))) ∧ hE [ab, be] f u) := by
  intro sz
  refine h_ofW (cc := c_P_setFraction) (maxL := 13) (ret := (some .boolean)) (by decide) rfl (Nat.le_of_ble_eq_true rfl) ?_
  intro p e s m below meth c ls C hin hsz hP hl
  obtain ⟨hx, hb, hml, hown, -, -, -, -⟩ := id C
  subst hsz
  have hA0 : ∀ q, s.heap.size ≤ q → hA f s.heap.size q := hA.new
  have hS : va_S (hA f s.heap.size) s.heap s.heap [] := va_S.rf
  replace hl : lv_has ls 13 [(0, .ref pp), (1, .int (nI j)), (2, .long (lN a)), (4, .long (lN b))] := hl
  have hg0 : 0 < Nat.gcd a b := Nat.gcd_pos_of_pos_right _ hb0
  have hgb : Nat.gcd a b ≤ b := Nat.le_of_dvd hb0 (Nat.gcd_dvd_right a b)
  refine lv_lload_n hx hb d_P_setFraction_0 rfl (lv_at hl 2 rfl) ?_
  refine lv_lload hx hb d_P_setFraction_1 (lv_at hl 3 rfl) ?_
  refine g_calll (g_runS C hl.1 (ct_F_commonDivisor f a b ha hb0 hb2 _) (cx_S C 2 wd_278 wd_279 wd_12 wd_280 rfl rfl (by decide +kernel) ⟨Nat.le_of_ble_eq_true rfl, Nat.le_of_ble_eq_true rfl⟩) hP rfl rfl (Nat.le_of_ble_eq_true rfl) d_P_setFraction_3 ⟨Nat.le_of_ble_eq_true rfl, Nat.le_of_ble_eq_true rfl⟩) hP hS hA0 (fun r2 f1 H locs hq hP hS => ?_)
  obtain ⟨rfl, hu⟩ := hq
  rw [hu] at hP
  refine lv_lstore (lv' := [(6, .long (lN (Nat.gcd a b))), (0, .ref pp), (1, .int (nI j)), (2, .long (lN a)), (4, .long (lN b))]) hx hb d_P_setFraction_6 hl (by decide) rfl (fun ls hl => ?_)
  refine lv_lload_n hx hb d_P_setFraction_8 rfl (lv_at hl 3 rfl) ?_
  refine lv_lload hx hb d_P_setFraction_9 (lv_at hl 0 rfl) ?_
  refine lv_ldiv hx hb d_P_setFraction_11 (fun z9 => absurd ((pk_lEQ (a := Nat.gcd a b) (b := 0) (by omega) (by omega)).mp z9) (by omega)) ?_
  refine g_eql (y := lN (a / Nat.gcd a b)) (pk_lDiv ha hg0 (by omega)) ?_
  refine lv_lstore (lv' := [(8, .long (lN (a / Nat.gcd a b))), (6, .long (lN (Nat.gcd a b))), (0, .ref pp), (1, .int (nI j)), (2, .long (lN a)), (4, .long (lN b))]) hx hb d_P_setFraction_12 hl (by decide) rfl (fun ls hl => ?_)
  refine lv_lload hx hb d_P_setFraction_14 (lv_at hl 5 rfl) ?_
  refine lv_lload hx hb d_P_setFraction_16 (lv_at hl 1 rfl) ?_
  refine lv_ldiv hx hb d_P_setFraction_18 (fun z9 => absurd ((pk_lEQ (a := Nat.gcd a b) (b := 0) (by omega) (by omega)).mp z9) (by omega)) ?_
  refine g_eql (y := lN (b / Nat.gcd a b)) (pk_lDiv (by omega) hg0 (by omega)) ?_
  refine lv_lstore (lv' := [(10, .long (lN (b / Nat.gcd a b))), (8, .long (lN (a / Nat.gcd a b))), (6, .long (lN (Nat.gcd a b))), (0, .ref pp), (1, .int (nI j)), (2, .long (lN a)), (4, .long (lN b))]) hx hb d_P_setFraction_19 hl (by decide) rfl (fun ls hl => ?_)
  refine lv_aload_n hx hb d_P_setFraction_21 rfl (lv_at hl 3 rfl) ?_
  refine g_get C i_P hP o1 rfl 3 (by decide) wd_196 rfl rfl d_P_setFraction_22 ?_
  refine lv_iload_n hx hb d_P_setFraction_25 rfl (lv_at hl 4 rfl) ?_
  refine g_laldN C hP a1 (j := j) (by omega) (by decide) d_P_setFraction_26 ?_
  refine lv_lload hx hb d_P_setFraction_27 (lv_at hl 1 rfl) ?_
  refine W.lcmp hx hb d_P_setFraction_29 ?_
  refine lv_if_ne (tgt := 45) hx hb d_P_setFraction_30 (by decide) (fun c_30 => ?_) (fun c_30 => ?_)
  · have c_30 := fun z => c_30 ((lg_cmp_eq _ _).mpr z)
    have q_1 : ¬ (AB j = lN (a / Nat.gcd a b) ∧ BE j = lN (b / Nat.gcd a b)) := fun z9 => c_30 z9.1
    refine lv_iconst (v := 1) hx hb d_P_setFraction_45 (by decide) ?_
    refine lv_goto (tgt := 50) hx hb d_P_setFraction_46 (by decide) ?_
    refine lv_istore (lv' := [(12, .int 1), (10, .long (lN (b / Nat.gcd a b))), (8, .long (lN (a / Nat.gcd a b))), (6, .long (lN (Nat.gcd a b))), (0, .ref pp), (1, .int (nI j)), (2, .long (lN a)), (4, .long (lN b))]) hx hb d_P_setFraction_50 hl (by decide) rfl (fun ls hl => ?_)
    refine lv_aload_n hx hb d_P_setFraction_52 rfl (lv_at hl 4 rfl) ?_
    refine g_get C i_P hP o1 rfl 3 (by decide) wd_196 rfl rfl d_P_setFraction_53 ?_
    refine lv_iload_n hx hb d_P_setFraction_56 rfl (lv_at hl 5 rfl) ?_
    refine lv_lload hx hb d_P_setFraction_57 (lv_at hl 2 rfl) ?_
    refine g_lastN C hP hS a1 (j := j) (by omega) (by decide) d_P_setFraction_59 (fun H locs hP hS => ?_)
    obtain ⟨g4, eg4⟩ : ∃ z99, z99 = vp_updL AB j (lN (a / Nat.gcd a b)) := ⟨_, rfl⟩
    rw [← eg4] at hP
    obtain ⟨f3, ef3⟩ : ∃ z99, z99 = va_up f ab (some (aL G 12 g4)) := ⟨_, rfl⟩
    replace hP : hH G (hA f s.heap.size) f3 H := by rw [ef3]; exact hP
    have o1_f3 := (hm_up (v := some (aL G 12 g4)) ef3 (hm_ne o1 a1 (by simp))).trans o1
    have a1_f3 : f3 ab = some (aL G 12 g4) := by rw [ef3]; exact va_up_self _ _ _
    have a2_f3 := (hm_up (v := some (aL G 12 g4)) ef3 (hne.symm)).trans a2
    refine lv_aload_n hx hb d_P_setFraction_60 rfl (lv_at hl 4 rfl) ?_
    refine g_get C i_P hP o1_f3 rfl 4 (by decide) wd_198 rfl rfl d_P_setFraction_61 ?_
    refine lv_iload_n hx hb d_P_setFraction_64 rfl (lv_at hl 5 rfl) ?_
    refine lv_lload hx hb d_P_setFraction_65 (lv_at hl 1 rfl) ?_
    refine g_lastN C hP hS a2_f3 (j := j) (by omega) (by decide) d_P_setFraction_67 (fun H locs hP hS => ?_)
    obtain ⟨g6, eg6⟩ : ∃ z99, z99 = vp_updL BE j (lN (b / Nat.gcd a b)) := ⟨_, rfl⟩
    rw [← eg6] at hP
    obtain ⟨f5, ef5⟩ : ∃ z99, z99 = va_up f3 be (some (aL G 12 g6)) := ⟨_, rfl⟩
    replace hP : hH G (hA f s.heap.size) f5 H := by rw [ef5]; exact hP
    have o1_f5 := (hm_up (v := some (aL G 12 g6)) ef5 (hm_ne o1_f3 a2_f3 (by simp))).trans o1_f3
    have a1_f5 := (hm_up (v := some (aL G 12 g6)) ef5 (hne)).trans a1_f3
    have a2_f5 : f5 be = some (aL G 12 g6) := by rw [ef5]; exact va_up_self _ _ _
    refine lv_iload hx hb d_P_setFraction_68 (lv_at hl 0 rfl) ?_
    subst eg4 eg6
    exact g_zret C (by first | exact Or.inl rfl | exact Or.inr rfl) hP hS (⟨by rw [if_neg q_1], a1_f5, a2_f5, by rw [ef5]; refine hE.up ?_ (by simp); rw [ef3]; refine hE.up ?_ (by simp); exact hE.rf⟩) (Nat.le_of_ble_eq_true rfl) (Nat.le_of_ble_eq_true rfl) d_P_setFraction_70
  · have c_30 := (lg_cmp_eq _ _).mp c_30
    refine lv_aload_n hx hb d_P_setFraction_33 rfl (lv_at hl 3 rfl) ?_
    refine g_get C i_P hP o1 rfl 4 (by decide) wd_198 rfl rfl d_P_setFraction_34 ?_
    refine lv_iload_n hx hb d_P_setFraction_37 rfl (lv_at hl 4 rfl) ?_
    refine g_laldN C hP a2 (j := j) (by omega) (by decide) d_P_setFraction_38 ?_
    refine lv_lload hx hb d_P_setFraction_39 (lv_at hl 0 rfl) ?_
    refine W.lcmp hx hb d_P_setFraction_41 ?_
    refine lv_if_eq (tgt := 49) hx hb d_P_setFraction_42 (by decide) (fun c_42 => ?_) (fun c_42 => ?_)
    · have c_42 := (lg_cmp_eq _ _).mp c_42
      have q_2 : AB j = lN (a / Nat.gcd a b) ∧ BE j = lN (b / Nat.gcd a b) := ⟨c_30, c_42⟩
      refine lv_iconst (v := 0) hx hb d_P_setFraction_49 (by decide) ?_
      refine lv_istore (lv' := [(12, .int 0), (10, .long (lN (b / Nat.gcd a b))), (8, .long (lN (a / Nat.gcd a b))), (6, .long (lN (Nat.gcd a b))), (0, .ref pp), (1, .int (nI j)), (2, .long (lN a)), (4, .long (lN b))]) hx hb d_P_setFraction_50 hl (by decide) rfl (fun ls hl => ?_)
      refine lv_aload_n hx hb d_P_setFraction_52 rfl (lv_at hl 4 rfl) ?_
      refine g_get C i_P hP o1 rfl 3 (by decide) wd_196 rfl rfl d_P_setFraction_53 ?_
      refine lv_iload_n hx hb d_P_setFraction_56 rfl (lv_at hl 5 rfl) ?_
      refine lv_lload hx hb d_P_setFraction_57 (lv_at hl 2 rfl) ?_
      refine g_lastN C hP hS a1 (j := j) (by omega) (by decide) d_P_setFraction_59 (fun H locs hP hS => ?_)
      obtain ⟨g8, eg8⟩ : ∃ z99, z99 = vp_updL AB j (lN (a / Nat.gcd a b)) := ⟨_, rfl⟩
      rw [← eg8] at hP
      obtain ⟨f7, ef7⟩ : ∃ z99, z99 = va_up f ab (some (aL G 12 g8)) := ⟨_, rfl⟩
      replace hP : hH G (hA f s.heap.size) f7 H := by rw [ef7]; exact hP
      have o1_f7 := (hm_up (v := some (aL G 12 g8)) ef7 (hm_ne o1 a1 (by simp))).trans o1
      have a1_f7 : f7 ab = some (aL G 12 g8) := by rw [ef7]; exact va_up_self _ _ _
      have a2_f7 := (hm_up (v := some (aL G 12 g8)) ef7 (hne.symm)).trans a2
      refine lv_aload_n hx hb d_P_setFraction_60 rfl (lv_at hl 4 rfl) ?_
      refine g_get C i_P hP o1_f7 rfl 4 (by decide) wd_198 rfl rfl d_P_setFraction_61 ?_
      refine lv_iload_n hx hb d_P_setFraction_64 rfl (lv_at hl 5 rfl) ?_
      refine lv_lload hx hb d_P_setFraction_65 (lv_at hl 1 rfl) ?_
      refine g_lastN C hP hS a2_f7 (j := j) (by omega) (by decide) d_P_setFraction_67 (fun H locs hP hS => ?_)
      obtain ⟨g10, eg10⟩ : ∃ z99, z99 = vp_updL BE j (lN (b / Nat.gcd a b)) := ⟨_, rfl⟩
      rw [← eg10] at hP
      obtain ⟨f9, ef9⟩ : ∃ z99, z99 = va_up f7 be (some (aL G 12 g10)) := ⟨_, rfl⟩
      replace hP : hH G (hA f s.heap.size) f9 H := by rw [ef9]; exact hP
      have o1_f9 := (hm_up (v := some (aL G 12 g10)) ef9 (hm_ne o1_f7 a2_f7 (by simp))).trans o1_f7
      have a1_f9 := (hm_up (v := some (aL G 12 g10)) ef9 (hne)).trans a1_f7
      have a2_f9 : f9 be = some (aL G 12 g10) := by rw [ef9]; exact va_up_self _ _ _
      refine lv_iload hx hb d_P_setFraction_68 (lv_at hl 0 rfl) ?_
      subst eg8 eg10
      exact g_zret C (by first | exact Or.inl rfl | exact Or.inr rfl) hP hS (⟨by rw [if_pos q_2], a1_f9, a2_f9, by rw [ef9]; refine hE.up ?_ (by simp); rw [ef7]; refine hE.up ?_ (by simp); exact hE.rf⟩) (Nat.le_of_ble_eq_true rfl) (Nat.le_of_ble_eq_true rfl) d_P_setFraction_70
    · have c_42 := fun z => c_42 ((lg_cmp_eq _ _).mpr z)
      have q_1 : ¬ (AB j = lN (a / Nat.gcd a b) ∧ BE j = lN (b / Nat.gcd a b)) := fun z9 => c_42 z9.2
      refine lv_iconst (v := 1) hx hb d_P_setFraction_45 (by decide) ?_
      refine lv_goto (tgt := 50) hx hb d_P_setFraction_46 (by decide) ?_
      refine lv_istore (lv' := [(12, .int 1), (10, .long (lN (b / Nat.gcd a b))), (8, .long (lN (a / Nat.gcd a b))), (6, .long (lN (Nat.gcd a b))), (0, .ref pp), (1, .int (nI j)), (2, .long (lN a)), (4, .long (lN b))]) hx hb d_P_setFraction_50 hl (by decide) rfl (fun ls hl => ?_)
      refine lv_aload_n hx hb d_P_setFraction_52 rfl (lv_at hl 4 rfl) ?_
      refine g_get C i_P hP o1 rfl 3 (by decide) wd_196 rfl rfl d_P_setFraction_53 ?_
      refine lv_iload_n hx hb d_P_setFraction_56 rfl (lv_at hl 5 rfl) ?_
      refine lv_lload hx hb d_P_setFraction_57 (lv_at hl 2 rfl) ?_
      refine g_lastN C hP hS a1 (j := j) (by omega) (by decide) d_P_setFraction_59 (fun H locs hP hS => ?_)
      obtain ⟨g12, eg12⟩ : ∃ z99, z99 = vp_updL AB j (lN (a / Nat.gcd a b)) := ⟨_, rfl⟩
      rw [← eg12] at hP
      obtain ⟨f11, ef11⟩ : ∃ z99, z99 = va_up f ab (some (aL G 12 g12)) := ⟨_, rfl⟩
      replace hP : hH G (hA f s.heap.size) f11 H := by rw [ef11]; exact hP
      have o1_f11 := (hm_up (v := some (aL G 12 g12)) ef11 (hm_ne o1 a1 (by simp))).trans o1
      have a1_f11 : f11 ab = some (aL G 12 g12) := by rw [ef11]; exact va_up_self _ _ _
      have a2_f11 := (hm_up (v := some (aL G 12 g12)) ef11 (hne.symm)).trans a2
      refine lv_aload_n hx hb d_P_setFraction_60 rfl (lv_at hl 4 rfl) ?_
      refine g_get C i_P hP o1_f11 rfl 4 (by decide) wd_198 rfl rfl d_P_setFraction_61 ?_
      refine lv_iload_n hx hb d_P_setFraction_64 rfl (lv_at hl 5 rfl) ?_
      refine lv_lload hx hb d_P_setFraction_65 (lv_at hl 1 rfl) ?_
      refine g_lastN C hP hS a2_f11 (j := j) (by omega) (by decide) d_P_setFraction_67 (fun H locs hP hS => ?_)
      obtain ⟨g14, eg14⟩ : ∃ z99, z99 = vp_updL BE j (lN (b / Nat.gcd a b)) := ⟨_, rfl⟩
      rw [← eg14] at hP
      obtain ⟨f13, ef13⟩ : ∃ z99, z99 = va_up f11 be (some (aL G 12 g14)) := ⟨_, rfl⟩
      replace hP : hH G (hA f s.heap.size) f13 H := by rw [ef13]; exact hP
      have o1_f13 := (hm_up (v := some (aL G 12 g14)) ef13 (hm_ne o1_f11 a2_f11 (by simp))).trans o1_f11
      have a1_f13 := (hm_up (v := some (aL G 12 g14)) ef13 (hne)).trans a1_f11
      have a2_f13 : f13 be = some (aL G 12 g14) := by rw [ef13]; exact va_up_self _ _ _
      refine lv_iload hx hb d_P_setFraction_68 (lv_at hl 0 rfl) ?_
      subst eg12 eg14
      exact g_zret C (by first | exact Or.inl rfl | exact Or.inr rfl) hP hS (⟨by rw [if_neg q_1], a1_f13, a2_f13, by rw [ef13]; refine hE.up ?_ (by simp); rw [ef11]; refine hE.up ?_ (by simp); exact hE.rf⟩) (Nat.le_of_ble_eq_true rfl) (Nat.le_of_ble_eq_true rfl) d_P_setFraction_70
set_option maxHeartbeats 4000000 in
set_option maxRecDepth 100000 in
theorem ct_P_stateOn {l : Launch} {G : hG} (f : hm) (pp : Nat) (x0 x1 x2 : Int32) (ab be pr st pk : Nat) (o1 : f pp = some (ob 1 [.int x0, .int x1, .int x2, .ref ab, .ref be, .ref pr, .ref st, .ref pk])) (b am kd n : Nat) (B AM : Nat → Int64) (KD : Nat → Int32) (hsv : sv G f st b am kd n B AM KD) (hn : n ≤ 8) (pt : Int64) : ci_ l G y_P_stateOn w_P_stateOn { frames := 1, cells := 0, slots := 0, locals := 30 } [.ref pp, .long pt] f (fun r u => (∃ k, k ≤ n ∧ (∀ j, j < k → B j ≤ pt) ∧ (k < n → ¬ B k ≤ pt) ∧ r = (if k = 0 then 0 else KD (k - 1))) ∧ u = f) := by
  intro sz
  refine h_ofW (cc := c_P_stateOn) (maxL := 4) (ret := (some .int)) (by decide) rfl (Nat.le_of_ble_eq_true rfl) ?_
  intro p e s m below meth c ls C hin hsz hP hl
  obtain ⟨hx, hb, hml, hown, -, -, -, -⟩ := id C
  subst hsz
  have hA0 : ∀ q, s.heap.size ≤ q → hA f s.heap.size q := hA.new
  have hS : va_S (hA f s.heap.size) s.heap s.heap [] := va_S.rf
  replace hl : lv_has ls 4 [(0, .ref pp), (1, .long pt)] := hl
  refine lv_aload_n hx hb d_P_stateOn_0 rfl (lv_at hl 0 rfl) ?_
  refine g_get C i_P hP o1 rfl 6 (by decide) wd_202 rfl rfl d_P_stateOn_1 ?_
  refine lv_lload_n hx hb d_P_stateOn_4 rfl (lv_at hl 1 rfl) ?_
  refine g_calli (g_runV C hl.1 (ct_S_stepOf f st b am kd n B AM KD hsv hn pt _) (cx_V C 1 wd_419 wd_357 wd_358 wd_9 wd_359 rfl rfl (by decide +kernel) ⟨Nat.le_of_ble_eq_true rfl, Nat.le_of_ble_eq_true rfl⟩) hP hsv.1 rfl rfl rfl (Nat.le_of_ble_eq_true rfl) d_P_stateOn_5 ⟨Nat.le_of_ble_eq_true rfl, Nat.le_of_ble_eq_true rfl⟩) hP hS hA0 (fun r2 f1 H locs hq hP hS => ?_)
  obtain ⟨⟨k, hk, rfl, hle, hgt⟩, hu⟩ := hq
  rw [hu] at hP
  refine lv_istore_n (lv' := [(3, .int (nI k - 1)), (0, .ref pp), (1, .long pt)]) hx hb d_P_stateOn_8 rfl hl (by decide) rfl (fun ls hl => ?_)
  refine lv_iload_n hx hb d_P_stateOn_9 rfl (lv_at hl 0 rfl) ?_
  refine lv_iconst (v := (-1)) hx hb d_P_stateOn_10 (by decide) ?_
  refine lv_icmp_ne (tgt := 18) hx hb d_P_stateOn_11 (by decide) (fun c_11 => ?_) (fun c_11 => ?_)
  · have q_1 : k ≠ 0 := fun z9 => c_11 (by rw [z9]; rfl)
    obtain ⟨j, rfl⟩ : ∃ j, k = j + 1 := ⟨k - 1, by omega⟩
    refine lv_aload_n hx hb d_P_stateOn_18 rfl (lv_at hl 1 rfl) ?_
    refine g_get C i_P hP o1 rfl 6 (by decide) wd_202 rfl rfl d_P_stateOn_19 ?_
    refine g_get C i_S hP hsv.1 rfl 2 (by decide) wd_161 rfl rfl d_P_stateOn_22 ?_
    refine lv_iload_n hx hb d_P_stateOn_25 rfl (lv_at hl 0 rfl) ?_
    refine g_eqi (y := nI j) (nI_pred j) ?_
    refine g_ialdN C hP hsv.2.2.2 (j := j) (by omega) (by decide) d_P_stateOn_26 ?_
    exact g_iret C hP hS (⟨⟨j + 1, hk, hle, hgt, by rw [if_neg (by omega)]; rfl⟩, rfl⟩) (Nat.le_of_ble_eq_true rfl) (Nat.le_of_ble_eq_true rfl) d_P_stateOn_27
  · have q_1 : k = 0 := nI_m1 (by omega) c_11
    refine lv_iconst (v := 0) hx hb d_P_stateOn_14 (by decide) ?_
    refine lv_goto (tgt := 27) hx hb d_P_stateOn_15 (by decide) ?_
    exact g_iret C hP hS (⟨⟨k, hk, hle, hgt, by rw [if_pos q_1]⟩, rfl⟩) (Nat.le_of_ble_eq_true rfl) (Nat.le_of_ble_eq_true rfl) d_P_stateOn_27
