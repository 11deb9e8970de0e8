/-! The reference: its tests, its readers. -/
set_option maxHeartbeats 4000000 in
set_option maxRecDepth 100000 in
theorem ct_M_thrown {l : Launch} {G : hG} (f : hm) (y : Nat) (ca : Nat → Nat) (b : BD) (hok : bOK b) (th : Int32) (bc : Int64) (cp : Int32) (hm : mS G f y ca b th bc cp) : ci_ l G y_M_thrown w_M_thrown { frames := 0, cells := 0, slots := 0, locals := 0 } [.ref y] f (fun r u => r = th ∧ u = f) := by
  intro sz
  refine h_ofW (cc := c_M_thrown) (maxL := 1) (ret := (some .int)) (by decide) rfl (Nat.le_of_ble_eq_true rfl) ?_
  intro p e s m below meth c ls C hin hsz hP hl
  obtain ⟨hx, hb, hml, hown, -, -, -, -⟩ := id C
  subst hsz
  have hA0 : ∀ q, s.heap.size ≤ q → hA f s.heap.size q := hA.new
  have hS : va_S (hA f s.heap.size) s.heap s.heap [] := va_S.rf
  replace hl : lv_has ls 1 [(0, .ref y)] := hl
  obtain ⟨MK, PL, AB, BE, AS, FP, PC, PF, PT, PU, RA, KC, PK, ST, DC, DY, DS, SU, hv, hR⟩ := hm
  have hNN : bN b ≤ 40 := hok.1.1
  have hRC : bRc b ≤ 10 := hok.1.2.1
  have hHC : bHc b ≤ 40 := hok.1.2.2
  refine lv_aload_n hx hb d_M_thrown_0 rfl (lv_at hl 0 rfl) ?_
  refine g_get C i_M hP hv.1 rfl 0 (by decide) wd_506 rfl rfl d_M_thrown_1 ?_
  exact g_iret C hP hS (⟨rfl, rfl⟩) (Nat.le_of_ble_eq_true rfl) (Nat.le_of_ble_eq_true rfl) d_M_thrown_4
set_option maxHeartbeats 4000000 in
set_option maxRecDepth 100000 in
theorem ct_M_isPart {l : Launch} {G : hG} (f : hm) (y : Nat) (ca : Nat → Nat) (b : BD) (hok : bOK b) (th : Int32) (bc : Int64) (cp : Int32) (hm : mS G f y ca b th bc cp) (p0 : Int32) : ci_ l G y_M_isPart w_M_isPart { frames := 0, cells := 0, slots := 0, locals := 0 } [.ref y, .int p0] f (fun r u => bz (okx p0 (bN b)) r ∧ u = f) := by
  intro sz
  refine h_ofW (cc := c_M_isPart) (maxL := 2) (ret := (some .boolean)) (by decide) rfl (Nat.le_of_ble_eq_true rfl) ?_
  intro p e s m below meth c ls C hin hsz hP hl
  obtain ⟨hx, hb, hml, hown, -, -, -, -⟩ := id C
  subst hsz
  have hA0 : ∀ q, s.heap.size ≤ q → hA f s.heap.size q := hA.new
  have hS : va_S (hA f s.heap.size) s.heap s.heap [] := va_S.rf
  replace hl : lv_has ls 2 [(0, .ref y), (1, .int p0)] := hl
  obtain ⟨MK, PL, AB, BE, AS, FP, PC, PF, PT, PU, RA, KC, PK, ST, DC, DY, DS, SU, hv, hR⟩ := hm
  have hNN : bN b ≤ 40 := hok.1.1
  have hRC : bRc b ≤ 10 := hok.1.2.1
  have hHC : bHc b ≤ 40 := hok.1.2.2
  refine lv_iload_n hx hb d_M_isPart_0 rfl (lv_at hl 1 rfl) ?_
  refine lv_if_lt (tgt := 16) hx hb d_M_isPart_1 (by decide) (fun c_1 => ?_) (fun c_1 => ?_)
  · refine lv_iconst (v := 0) hx hb d_M_isPart_16 (by decide) ?_
    exact g_zret C (by first | exact Or.inl rfl | exact Or.inr rfl) hP hS (⟨Or.inr ⟨fun z9 => by have z8 := (ix_chk (x := p0) (n := bN b) (by omega)).mpr z9; first | exact z8.1 c_1 | exact Int32.not_le.mpr z8.2 c_9, rfl⟩, rfl⟩) (Nat.le_of_ble_eq_true rfl) (Nat.le_of_ble_eq_true rfl) d_M_isPart_17
  · refine lv_iload_n hx hb d_M_isPart_4 rfl (lv_at hl 1 rfl) ?_
    refine lv_aload_n hx hb d_M_isPart_5 rfl (lv_at hl 0 rfl) ?_
    refine g_get C i_M hP hv.1 rfl 1 (by decide) wd_507 rfl rfl d_M_isPart_6 ?_
    refine lv_icmp_ge (tgt := 16) hx hb d_M_isPart_9 (by decide) (fun c_9 => ?_) (fun c_9 => ?_)
    · refine lv_iconst (v := 0) hx hb d_M_isPart_16 (by decide) ?_
      exact g_zret C (by first | exact Or.inl rfl | exact Or.inr rfl) hP hS (⟨Or.inr ⟨fun z9 => by have z8 := (ix_chk (x := p0) (n := bN b) (by omega)).mpr z9; first | exact z8.1 c_1 | exact Int32.not_le.mpr z8.2 c_9, rfl⟩, rfl⟩) (Nat.le_of_ble_eq_true rfl) (Nat.le_of_ble_eq_true rfl) d_M_isPart_17
    · refine lv_iconst (v := 1) hx hb d_M_isPart_12 (by decide) ?_
      refine lv_goto (tgt := 17) hx hb d_M_isPart_13 (by decide) ?_
      exact g_zret C (by first | exact Or.inl rfl | exact Or.inr rfl) hP hS (⟨Or.inl ⟨(ix_chk (x := p0) (n := bN b) (by omega)).mp ⟨c_1, Int32.not_le.mp c_9⟩, rfl⟩, rfl⟩) (Nat.le_of_ble_eq_true rfl) (Nat.le_of_ble_eq_true rfl) d_M_isPart_17
set_option maxHeartbeats 4000000 in
set_option maxRecDepth 100000 in
theorem ct_M_isRule {l : Launch} {G : hG} (f : hm) (y : Nat) (ca : Nat → Nat) (b : BD) (hok : bOK b) (th : Int32) (bc : Int64) (cp : Int32) (hm : mS G f y ca b th bc cp) (p0 : Int32) : ci_ l G y_M_isRule w_M_isRule { frames := 0, cells := 0, slots := 0, locals := 0 } [.ref y, .int p0] f (fun r u => bz (okx p0 (bRc b)) r ∧ u = f) := by
  intro sz
  refine h_ofW (cc := c_M_isRule) (maxL := 2) (ret := (some .boolean)) (by decide) rfl (Nat.le_of_ble_eq_true rfl) ?_
  intro p e s m below meth c ls C hin hsz hP hl
  obtain ⟨hx, hb, hml, hown, -, -, -, -⟩ := id C
  subst hsz
  have hA0 : ∀ q, s.heap.size ≤ q → hA f s.heap.size q := hA.new
  have hS : va_S (hA f s.heap.size) s.heap s.heap [] := va_S.rf
  replace hl : lv_has ls 2 [(0, .ref y), (1, .int p0)] := hl
  obtain ⟨MK, PL, AB, BE, AS, FP, PC, PF, PT, PU, RA, KC, PK, ST, DC, DY, DS, SU, hv, hR⟩ := hm
  have hNN : bN b ≤ 40 := hok.1.1
  have hRC : bRc b ≤ 10 := hok.1.2.1
  have hHC : bHc b ≤ 40 := hok.1.2.2
  refine lv_iload_n hx hb d_M_isRule_0 rfl (lv_at hl 1 rfl) ?_
  refine lv_if_lt (tgt := 16) hx hb d_M_isRule_1 (by decide) (fun c_1 => ?_) (fun c_1 => ?_)
  · refine lv_iconst (v := 0) hx hb d_M_isRule_16 (by decide) ?_
    exact g_zret C (by first | exact Or.inl rfl | exact Or.inr rfl) hP hS (⟨Or.inr ⟨fun z9 => by have z8 := (ix_chk (x := p0) (n := bRc b) (by omega)).mpr z9; first | exact z8.1 c_1 | exact Int32.not_le.mpr z8.2 c_9, rfl⟩, rfl⟩) (Nat.le_of_ble_eq_true rfl) (Nat.le_of_ble_eq_true rfl) d_M_isRule_17
  · refine lv_iload_n hx hb d_M_isRule_4 rfl (lv_at hl 1 rfl) ?_
    refine lv_aload_n hx hb d_M_isRule_5 rfl (lv_at hl 0 rfl) ?_
    refine g_get C i_M hP hv.1 rfl 6 (by decide) wd_512 rfl rfl d_M_isRule_6 ?_
    refine lv_icmp_ge (tgt := 16) hx hb d_M_isRule_9 (by decide) (fun c_9 => ?_) (fun c_9 => ?_)
    · refine lv_iconst (v := 0) hx hb d_M_isRule_16 (by decide) ?_
      exact g_zret C (by first | exact Or.inl rfl | exact Or.inr rfl) hP hS (⟨Or.inr ⟨fun z9 => by have z8 := (ix_chk (x := p0) (n := bRc b) (by omega)).mpr z9; first | exact z8.1 c_1 | exact Int32.not_le.mpr z8.2 c_9, rfl⟩, rfl⟩) (Nat.le_of_ble_eq_true rfl) (Nat.le_of_ble_eq_true rfl) d_M_isRule_17
    · refine lv_iconst (v := 1) hx hb d_M_isRule_12 (by decide) ?_
      refine lv_goto (tgt := 17) hx hb d_M_isRule_13 (by decide) ?_
      exact g_zret C (by first | exact Or.inl rfl | exact Or.inr rfl) hP hS (⟨Or.inl ⟨(ix_chk (x := p0) (n := bRc b) (by omega)).mp ⟨c_1, Int32.not_le.mp c_9⟩, rfl⟩, rfl⟩) (Nat.le_of_ble_eq_true rfl) (Nat.le_of_ble_eq_true rfl) d_M_isRule_17
set_option maxHeartbeats 4000000 in
set_option maxRecDepth 100000 in
theorem ct_M_isName {l : Launch} {G : hG} (f : hm) (p0 : Int32) : ci_ l G y_M_isName w_M_isName { frames := 0, cells := 0, slots := 0, locals := 0 } [.int p0] f (fun r u => bz (okx p0 12) r ∧ u = f) := by
  intro sz
  refine h_ofW (cc := c_M_isName) (maxL := 1) (ret := (some .boolean)) (by decide) rfl (Nat.le_of_ble_eq_true rfl) ?_
  intro p e s m below meth c ls C hin hsz hP hl
  obtain ⟨hx, hb, hml, hown, -, -, -, -⟩ := id C
  subst hsz
  have hA0 : ∀ q, s.heap.size ≤ q → hA f s.heap.size q := hA.new
  have hS : va_S (hA f s.heap.size) s.heap s.heap [] := va_S.rf
  replace hl : lv_has ls 1 [(0, .int p0)] := hl
  refine lv_iload_n hx hb d_M_isName_0 rfl (lv_at hl 0 rfl) ?_
  refine lv_if_lt (tgt := 14) hx hb d_M_isName_1 (by decide) (fun c_1 => ?_) (fun c_1 => ?_)
  · refine lv_iconst (v := 0) hx hb d_M_isName_14 (by decide) ?_
    exact g_zret C (by first | exact Or.inl rfl | exact Or.inr rfl) hP hS (⟨Or.inr ⟨fun z9 => by have z8 := (ix_chk (x := p0) (n := 12) (by omega)).mpr z9; first | exact z8.1 c_1 | exact Int32.not_le.mpr z8.2 c_7, rfl⟩, rfl⟩) (Nat.le_of_ble_eq_true rfl) (Nat.le_of_ble_eq_true rfl) d_M_isName_15
  · refine lv_iload_n hx hb d_M_isName_4 rfl (lv_at hl 0 rfl) ?_
    refine lv_bipush (v := 12) hx hb d_M_isName_5 (by decide) ?_
    refine lv_icmp_ge (tgt := 14) hx hb d_M_isName_7 (by decide) (fun c_7 => ?_) (fun c_7 => ?_)
    · refine lv_iconst (v := 0) hx hb d_M_isName_14 (by decide) ?_
      exact g_zret C (by first | exact Or.inl rfl | exact Or.inr rfl) hP hS (⟨Or.inr ⟨fun z9 => by have z8 := (ix_chk (x := p0) (n := 12) (by omega)).mpr z9; first | exact z8.1 c_1 | exact Int32.not_le.mpr z8.2 c_7, rfl⟩, rfl⟩) (Nat.le_of_ble_eq_true rfl) (Nat.le_of_ble_eq_true rfl) d_M_isName_15
    · refine lv_iconst (v := 1) hx hb d_M_isName_10 (by decide) ?_
      refine lv_goto (tgt := 15) hx hb d_M_isName_11 (by decide) ?_
      exact g_zret C (by first | exact Or.inl rfl | exact Or.inr rfl) hP hS (⟨Or.inl ⟨(ix_chk (x := p0) (n := 12) (by omega)).mp ⟨c_1, Int32.not_le.mp c_7⟩, rfl⟩, rfl⟩) (Nat.le_of_ble_eq_true rfl) (Nat.le_of_ble_eq_true rfl) d_M_isName_15
set_option maxHeartbeats 4000000 in
set_option maxRecDepth 100000 in
theorem ct_M_isCurrency {l : Launch} {G : hG} (f : hm) (p0 : Int32) : ci_ l G y_M_isCurrency w_M_isCurrency { frames := 0, cells := 0, slots := 0, locals := 0 } [.int p0] f (fun r u => bz (okx p0 4) r ∧ u = f) := by
  intro sz
  refine h_ofW (cc := c_M_isCurrency) (maxL := 1) (ret := (some .boolean)) (by decide) rfl (Nat.le_of_ble_eq_true rfl) ?_
  intro p e s m below meth c ls C hin hsz hP hl
  obtain ⟨hx, hb, hml, hown, -, -, -, -⟩ := id C
  subst hsz
  have hA0 : ∀ q, s.heap.size ≤ q → hA f s.heap.size q := hA.new
  have hS : va_S (hA f s.heap.size) s.heap s.heap [] := va_S.rf
  replace hl : lv_has ls 1 [(0, .int p0)] := hl
  refine lv_iload_n hx hb d_M_isCurrency_0 rfl (lv_at hl 0 rfl) ?_
  refine lv_if_lt (tgt := 13) hx hb d_M_isCurrency_1 (by decide) (fun c_1 => ?_) (fun c_1 => ?_)
  · refine lv_iconst (v := 0) hx hb d_M_isCurrency_13 (by decide) ?_
    exact g_zret C (by first | exact Or.inl rfl | exact Or.inr rfl) hP hS (⟨Or.inr ⟨fun z9 => by have z8 := (ix_chk (x := p0) (n := 4) (by omega)).mpr z9; first | exact z8.1 c_1 | exact Int32.not_le.mpr z8.2 c_6, rfl⟩, rfl⟩) (Nat.le_of_ble_eq_true rfl) (Nat.le_of_ble_eq_true rfl) d_M_isCurrency_14
  · refine lv_iload_n hx hb d_M_isCurrency_4 rfl (lv_at hl 0 rfl) ?_
    refine lv_iconst (v := 4) hx hb d_M_isCurrency_5 (by decide) ?_
    refine lv_icmp_ge (tgt := 13) hx hb d_M_isCurrency_6 (by decide) (fun c_6 => ?_) (fun c_6 => ?_)
    · refine lv_iconst (v := 0) hx hb d_M_isCurrency_13 (by decide) ?_
      exact g_zret C (by first | exact Or.inl rfl | exact Or.inr rfl) hP hS (⟨Or.inr ⟨fun z9 => by have z8 := (ix_chk (x := p0) (n := 4) (by omega)).mpr z9; first | exact z8.1 c_1 | exact Int32.not_le.mpr z8.2 c_6, rfl⟩, rfl⟩) (Nat.le_of_ble_eq_true rfl) (Nat.le_of_ble_eq_true rfl) d_M_isCurrency_14
    · refine lv_iconst (v := 1) hx hb d_M_isCurrency_9 (by decide) ?_
      refine lv_goto (tgt := 14) hx hb d_M_isCurrency_10 (by decide) ?_
      exact g_zret C (by first | exact Or.inl rfl | exact Or.inr rfl) hP hS (⟨Or.inl ⟨(ix_chk (x := p0) (n := 4) (by omega)).mp ⟨c_1, Int32.not_le.mp c_6⟩, rfl⟩, rfl⟩) (Nat.le_of_ble_eq_true rfl) (Nat.le_of_ble_eq_true rfl) d_M_isCurrency_14
set_option maxHeartbeats 4000000 in
set_option maxRecDepth 100000 in
theorem ct_M_isQuantity {l : Launch} {G : hG} (f : hm) (p0 : Int32) : ci_ l G y_M_isQuantity w_M_isQuantity { frames := 0, cells := 0, slots := 0, locals := 0 } [.int p0] f (fun r u => bz (N_q p0) r ∧ u = f) := by
  intro sz
  refine h_ofW (cc := c_M_isQuantity) (maxL := 1) (ret := (some .boolean)) (by decide) rfl (Nat.le_of_ble_eq_true rfl) ?_
  intro p e s m below meth c ls C hin hsz hP hl
  obtain ⟨hx, hb, hml, hown, -, -, -, -⟩ := id C
  subst hsz
  have hA0 : ∀ q, s.heap.size ≤ q → hA f s.heap.size q := hA.new
  have hS : va_S (hA f s.heap.size) s.heap s.heap [] := va_S.rf
  replace hl : lv_has ls 1 [(0, .int p0)] := hl
  refine lv_iload_n hx hb d_M_isQuantity_0 rfl (lv_at hl 0 rfl) ?_
  refine lv_iconst (v := 1) hx hb d_M_isQuantity_1 (by decide) ?_
  refine lv_icmp_lt (tgt := 16) hx hb d_M_isQuantity_2 (by decide) (fun c_2 => ?_) (fun c_2 => ?_)
  · refine lv_iconst (v := 0) hx hb d_M_isQuantity_16 (by decide) ?_
    exact g_zret C (by first | exact Or.inl rfl | exact Or.inr rfl) hP hS (⟨Or.inr ⟨fun z9 => by first | exact Int32.not_lt.mpr z9.1 c_2 | exact Int32.not_lt.mpr z9.2 c_9, rfl⟩, rfl⟩) (Nat.le_of_ble_eq_true rfl) (Nat.le_of_ble_eq_true rfl) d_M_isQuantity_17
  · refine lv_iload_n hx hb d_M_isQuantity_5 rfl (lv_at hl 0 rfl) ?_
    refine lv_sipush (v := 10000) hx hb d_M_isQuantity_6 (by decide) ?_
    refine lv_icmp_gt (tgt := 16) hx hb d_M_isQuantity_9 (by decide) (fun c_9 => ?_) (fun c_9 => ?_)
    · refine lv_iconst (v := 0) hx hb d_M_isQuantity_16 (by decide) ?_
      exact g_zret C (by first | exact Or.inl rfl | exact Or.inr rfl) hP hS (⟨Or.inr ⟨fun z9 => by first | exact Int32.not_lt.mpr z9.1 c_2 | exact Int32.not_lt.mpr z9.2 c_9, rfl⟩, rfl⟩) (Nat.le_of_ble_eq_true rfl) (Nat.le_of_ble_eq_true rfl) d_M_isQuantity_17
    · refine lv_iconst (v := 1) hx hb d_M_isQuantity_12 (by decide) ?_
      refine lv_goto (tgt := 17) hx hb d_M_isQuantity_13 (by decide) ?_
      exact g_zret C (by first | exact Or.inl rfl | exact Or.inr rfl) hP hS (⟨Or.inl ⟨⟨Int32.not_lt.mp c_2, Int32.not_lt.mp c_9⟩, rfl⟩, rfl⟩) (Nat.le_of_ble_eq_true rfl) (Nat.le_of_ble_eq_true rfl) d_M_isQuantity_17
set_option maxHeartbeats 4000000 in
set_option maxRecDepth 100000 in
theorem ct_M_isAbove {l : Launch} {G : hG} (f : hm) (v : Int64) : ci_ l G y_M_isAbove w_M_isAbove { frames := 0, cells := 0, slots := 0, locals := 0 } [.long v] f (fun r u => bz (0 ≤ v ∧ v ≤ 1000000000) r ∧ u = f) := by
  intro sz
  refine h_ofW (cc := c_M_isAbove) (maxL := 2) (ret := (some .boolean)) (by decide) rfl (Nat.le_of_ble_eq_true rfl) ?_
  intro p e s m below meth c ls C hin hsz hP hl
  obtain ⟨hx, hb, hml, hown, -, -, -, -⟩ := id C
  subst hsz
  have hA0 : ∀ q, s.heap.size ≤ q → hA f s.heap.size q := hA.new
  have hS : va_S (hA f s.heap.size) s.heap s.heap [] := va_S.rf
  replace hl : lv_has ls 2 [(0, .long v)] := hl
  refine lv_lload_n hx hb d_M_isAbove_0 rfl (lv_at hl 0 rfl) ?_
  refine lv_lconst (v := 0) hx hb d_M_isAbove_1 (by decide) ?_
  refine W.lcmp hx hb d_M_isAbove_2 ?_
  refine lv_if_lt (tgt := 18) hx hb d_M_isAbove_3 (by decide) (fun c_3 => ?_) (fun c_3 => ?_)
  · have c_3 := (lg_cmp_lt _ _).mp c_3
    refine lv_iconst (v := 0) hx hb d_M_isAbove_18 (by decide) ?_
    exact g_zret C (by first | exact Or.inl rfl | exact Or.inr rfl) hP hS (⟨Or.inr ⟨fun z9 => by first | exact Int64.not_lt.mpr z9.1 c_3 | exact Int64.not_lt.mpr z9.2 c_11, rfl⟩, rfl⟩) (Nat.le_of_ble_eq_true rfl) (Nat.le_of_ble_eq_true rfl) d_M_isAbove_19
  · have c_3 := fun z => c_3 ((lg_cmp_lt _ _).mpr z)
    refine lv_lload_n hx hb d_M_isAbove_6 rfl (lv_at hl 0 rfl) ?_
    refine lv_ldc2 hx hb hown (C.w wd_600) d_M_isAbove_7 ?_
    refine W.lcmp hx hb d_M_isAbove_10 ?_
    refine lv_if_gt (tgt := 18) hx hb d_M_isAbove_11 (by decide) (fun c_11 => ?_) (fun c_11 => ?_)
    · have c_11 := (lg_cmp_gt _ _).mp c_11
      refine lv_iconst (v := 0) hx hb d_M_isAbove_18 (by decide) ?_
      exact g_zret C (by first | exact Or.inl rfl | exact Or.inr rfl) hP hS (⟨Or.inr ⟨fun z9 => by first | exact Int64.not_lt.mpr z9.1 c_3 | exact Int64.not_lt.mpr z9.2 c_11, rfl⟩, rfl⟩) (Nat.le_of_ble_eq_true rfl) (Nat.le_of_ble_eq_true rfl) d_M_isAbove_19
    · have c_11 := fun z => c_11 ((lg_cmp_gt _ _).mpr z)
      refine lv_iconst (v := 1) hx hb d_M_isAbove_14 (by decide) ?_
      refine lv_goto (tgt := 19) hx hb d_M_isAbove_15 (by decide) ?_
      exact g_zret C (by first | exact Or.inl rfl | exact Or.inr rfl) hP hS (⟨Or.inl ⟨⟨Int64.not_lt.mp c_3, Int64.not_lt.mp c_11⟩, rfl⟩, rfl⟩) (Nat.le_of_ble_eq_true rfl) (Nat.le_of_ble_eq_true rfl) d_M_isAbove_19
set_option maxHeartbeats 4000000 in
set_option maxRecDepth 100000 in
theorem ct_M_isBelow {l : Launch} {G : hG} (f : hm) (v : Int64) : ci_ l G y_M_isBelow w_M_isBelow { frames := 0, cells := 0, slots := 0, locals := 0 } [.long v] f (fun r u => bz (1 ≤ v ∧ v ≤ 1000000) r ∧ u = f) := by
  intro sz
  refine h_ofW (cc := c_M_isBelow) (maxL := 2) (ret := (some .boolean)) (by decide) rfl (Nat.le_of_ble_eq_true rfl) ?_
  intro p e s m below meth c ls C hin hsz hP hl
  obtain ⟨hx, hb, hml, hown, -, -, -, -⟩ := id C
  subst hsz
  have hA0 : ∀ q, s.heap.size ≤ q → hA f s.heap.size q := hA.new
  have hS : va_S (hA f s.heap.size) s.heap s.heap [] := va_S.rf
  replace hl : lv_has ls 2 [(0, .long v)] := hl
  refine lv_lload_n hx hb d_M_isBelow_0 rfl (lv_at hl 0 rfl) ?_
  refine lv_lconst (v := 1) hx hb d_M_isBelow_1 (by decide) ?_
  refine W.lcmp hx hb d_M_isBelow_2 ?_
  refine lv_if_lt (tgt := 18) hx hb d_M_isBelow_3 (by decide) (fun c_3 => ?_) (fun c_3 => ?_)
  · have c_3 := (lg_cmp_lt _ _).mp c_3
    refine lv_iconst (v := 0) hx hb d_M_isBelow_18 (by decide) ?_
    exact g_zret C (by first | exact Or.inl rfl | exact Or.inr rfl) hP hS (⟨Or.inr ⟨fun z9 => by first | exact Int64.not_lt.mpr z9.1 c_3 | exact Int64.not_lt.mpr z9.2 c_11, rfl⟩, rfl⟩) (Nat.le_of_ble_eq_true rfl) (Nat.le_of_ble_eq_true rfl) d_M_isBelow_19
  · have c_3 := fun z => c_3 ((lg_cmp_lt _ _).mpr z)
    refine lv_lload_n hx hb d_M_isBelow_6 rfl (lv_at hl 0 rfl) ?_
    refine lv_ldc2 hx hb hown (C.w wd_604) d_M_isBelow_7 ?_
    refine W.lcmp hx hb d_M_isBelow_10 ?_
    refine lv_if_gt (tgt := 18) hx hb d_M_isBelow_11 (by decide) (fun c_11 => ?_) (fun c_11 => ?_)
    · have c_11 := (lg_cmp_gt _ _).mp c_11
      refine lv_iconst (v := 0) hx hb d_M_isBelow_18 (by decide) ?_
      exact g_zret C (by first | exact Or.inl rfl | exact Or.inr rfl) hP hS (⟨Or.inr ⟨fun z9 => by first | exact Int64.not_lt.mpr z9.1 c_3 | exact Int64.not_lt.mpr z9.2 c_11, rfl⟩, rfl⟩) (Nat.le_of_ble_eq_true rfl) (Nat.le_of_ble_eq_true rfl) d_M_isBelow_19
    · have c_11 := fun z => c_11 ((lg_cmp_gt _ _).mpr z)
      refine lv_iconst (v := 1) hx hb d_M_isBelow_14 (by decide) ?_
      refine lv_goto (tgt := 19) hx hb d_M_isBelow_15 (by decide) ?_
      exact g_zret C (by first | exact Or.inl rfl | exact Or.inr rfl) hP hS (⟨Or.inl ⟨⟨Int64.not_lt.mp c_3, Int64.not_lt.mp c_11⟩, rfl⟩, rfl⟩) (Nat.le_of_ble_eq_true rfl) (Nat.le_of_ble_eq_true rfl) d_M_isBelow_19
theorem ab_i {b : BD} (hok : bOK b) {i n : Nat} (hi : i < bN b) : (if pVb (bD b i) n = 0 then (-1 : Int64) else lN (pVa (bD b i) n)) < 0 ↔ pVb (bD b i) n = 0 := by
  by_cases h : pVb (bD b i) n = 0
  · rw [if_pos h]; exact ⟨fun _ => h, fun _ => by decide⟩
  · rw [if_neg h]
    refine ⟨fun z => ?_, fun z => absurd z h⟩
    have h1 := Int64.lt_iff_toInt_lt.mp z
    rw [pk_lT ((hok.2.1 i hi).2.1 n).1, show (0 : Int64).toInt = 0 by decide] at h1
    omega
set_option maxHeartbeats 4000000 in
set_option maxRecDepth 100000 in
theorem ct_M_hasValue {l : Launch} {G : hG} (f : hm) (y : Nat) (ca : Nat → Nat) (b : BD) (hok : bOK b) (th : Int32) (bc : Int64) (cp : Int32) (hm : mS G f y ca b th bc cp) (i n : Nat) (hi : i < bN b) (hn : n < 12) : ci_ l G y_M_hasValue w_M_hasValue { frames := 0, cells := 0, slots := 0, locals := 0 } [.ref y, .int (nI i), .int (nI n)] f (fun r u => bz (pVb (bD b i) n ≠ 0) r ∧ u = f) := by
  intro sz
  refine h_ofW (cc := c_M_hasValue) (maxL := 3) (ret := (some .boolean)) (by decide) rfl (Nat.le_of_ble_eq_true rfl) ?_
  intro p e s m below meth c ls C hin hsz hP hl
  obtain ⟨hx, hb, hml, hown, -, -, -, -⟩ := id C
  subst hsz
  have hA0 : ∀ q, s.heap.size ≤ q → hA f s.heap.size q := hA.new
  have hS : va_S (hA f s.heap.size) s.heap s.heap [] := va_S.rf
  replace hl : lv_has ls 3 [(0, .ref y), (1, .int (nI i)), (2, .int (nI n))] := hl
  obtain ⟨MK, PL, AB, BE, AS, FP, PC, PF, PT, PU, RA, KC, PK, ST, DC, DY, DS, SU, hv, hR⟩ := hm
  have hNN : bN b ≤ 40 := hok.1.1
  have hRC : bRc b ≤ 10 := hok.1.2.1
  have hHC : bHc b ≤ 40 := hok.1.2.2
  refine lv_aload_n hx hb d_M_hasValue_0 rfl (lv_at hl 0 rfl) ?_
  refine g_get C i_M hP hv.1 rfl 4 (by decide) wd_510 rfl rfl d_M_hasValue_1 ?_
  refine lv_bipush (v := 12) hx hb d_M_hasValue_4 (by decide) ?_
  refine lv_iload_n hx hb d_M_hasValue_6 rfl (lv_at hl 1 rfl) ?_
  refine lv_imul hx hb d_M_hasValue_7 ?_
  refine g_eqi (y := nI (12 * i)) (pk_mul _ _) ?_
  refine lv_iload_n hx hb d_M_hasValue_8 rfl (lv_at hl 2 rfl) ?_
  refine lv_iadd hx hb d_M_hasValue_9 ?_
  refine g_eqi (y := nI (12 * i + n)) (nI_add _ _) ?_
  refine g_laldN C hP hv.2.2.2.1 (j := (12 * i + n)) (by omega) (by decide) d_M_hasValue_10 ?_
  refine g_eql (y := (if pVb (bD b i) n = 0 then (-1 : Int64) else lN (pVa (bD b i) n))) (((hR.2.1 i hi).2 n hn).1) ?_
  refine lv_lconst (v := 0) hx hb d_M_hasValue_11 (by decide) ?_
  refine W.lcmp hx hb d_M_hasValue_12 ?_
  refine lv_if_lt (tgt := 20) hx hb d_M_hasValue_13 (by decide) (fun c_13 => ?_) (fun c_13 => ?_)
  · have c_13 := (lg_cmp_lt _ _).mp c_13
    refine lv_iconst (v := 0) hx hb d_M_hasValue_20 (by decide) ?_
    exact g_zret C (by first | exact Or.inl rfl | exact Or.inr rfl) hP hS (⟨Or.inr ⟨fun z9 => z9 ((ab_i hok hi).mp c_13), rfl⟩, rfl⟩) (Nat.le_of_ble_eq_true rfl) (Nat.le_of_ble_eq_true rfl) d_M_hasValue_21
  · have c_13 := fun z => c_13 ((lg_cmp_lt _ _).mpr z)
    refine lv_iconst (v := 1) hx hb d_M_hasValue_16 (by decide) ?_
    refine lv_goto (tgt := 21) hx hb d_M_hasValue_17 (by decide) ?_
    exact g_zret C (by first | exact Or.inl rfl | exact Or.inr rfl) hP hS (⟨Or.inl ⟨fun z9 => c_13 ((ab_i hok hi).mpr z9), rfl⟩, rfl⟩) (Nat.le_of_ble_eq_true rfl) (Nat.le_of_ble_eq_true rfl) d_M_hasValue_21
set_option maxHeartbeats 4000000 in
set_option maxRecDepth 100000 in
theorem ct_M_compareParts {l : Launch} {G : hG} (f : hm) (y : Nat) (ca : Nat → Nat) (b : BD) (hok : bOK b) (th : Int32) (bc : Int64) (cp : Int32) (hm : mS G f y ca b th bc cp) (i o n : Nat) (hi : i < bN b) (ho : o < bN b) (hn : n < 12) (hi0 : pVb (bD b i) n ≠ 0) (ho0 : pVb (bD b o) n ≠ 0) : ci_ l G y_M_compareParts w_M_compareParts { frames := 1, cells := 0, slots := 0, locals := 60 } [.ref y, .int (nI i), .int (nI o), .int (nI n)] f (fun r u => r = cq_i (vc (bD b i) (bD b o) n) ∧ u = f) := by
  intro sz
  refine h_ofW (cc := c_M_compareParts) (maxL := 6) (ret := (some .int)) (by decide) rfl (Nat.le_of_ble_eq_true rfl) ?_
  intro p e s m below meth c ls C hin hsz hP hl
  obtain ⟨hx, hb, hml, hown, -, -, -, -⟩ := id C
  subst hsz
  have hA0 : ∀ q, s.heap.size ≤ q → hA f s.heap.size q := hA.new
  have hS : va_S (hA f s.heap.size) s.heap s.heap [] := va_S.rf
  replace hl : lv_has ls 6 [(0, .ref y), (1, .int (nI i)), (2, .int (nI o)), (3, .int (nI n))] := hl
  obtain ⟨MK, PL, AB, BE, AS, FP, PC, PF, PT, PU, RA, KC, PK, ST, DC, DY, DS, SU, hv, hR⟩ := hm
  have hNN : bN b ≤ 40 := hok.1.1
  have hRC : bRc b ≤ 10 := hok.1.2.1
  have hHC : bHc b ≤ 40 := hok.1.2.2
  have hDi := hok.2.1 i hi
  have hDo := hok.2.1 o ho
  refine lv_bipush (v := 12) hx hb d_M_compareParts_0 (by decide) ?_
  refine lv_iload_n hx hb d_M_compareParts_2 rfl (lv_at hl 1 rfl) ?_
  refine lv_imul hx hb d_M_compareParts_3 ?_
  refine g_eqi (y := nI (12 * i)) (pk_mul _ _) ?_
  refine lv_iload_n hx hb d_M_compareParts_4 rfl (lv_at hl 3 rfl) ?_
  refine lv_iadd hx hb d_M_compareParts_5 ?_
  refine g_eqi (y := nI (12 * i + n)) (nI_add _ _) ?_
  refine lv_istore (lv' := [(4, .int (nI (12 * i + n))), (0, .ref y), (1, .int (nI i)), (2, .int (nI o)), (3, .int (nI n))]) hx hb d_M_compareParts_6 hl (by decide) rfl (fun ls hl => ?_)
  refine lv_bipush (v := 12) hx hb d_M_compareParts_8 (by decide) ?_
  refine lv_iload_n hx hb d_M_compareParts_10 rfl (lv_at hl 3 rfl) ?_
  refine lv_imul hx hb d_M_compareParts_11 ?_
  refine g_eqi (y := nI (12 * o)) (pk_mul _ _) ?_
  refine lv_iload_n hx hb d_M_compareParts_12 rfl (lv_at hl 4 rfl) ?_
  refine lv_iadd hx hb d_M_compareParts_13 ?_
  refine g_eqi (y := nI (12 * o + n)) (nI_add _ _) ?_
  refine lv_istore (lv' := [(5, .int (nI (12 * o + n))), (4, .int (nI (12 * i + n))), (0, .ref y), (1, .int (nI i)), (2, .int (nI o)), (3, .int (nI n))]) hx hb d_M_compareParts_14 hl (by decide) rfl (fun ls hl => ?_)
  refine lv_aload_n hx hb d_M_compareParts_16 rfl (lv_at hl 2 rfl) ?_
  refine g_get C i_M hP hv.1 rfl 4 (by decide) wd_510 rfl rfl d_M_compareParts_17 ?_
  refine lv_iload hx hb d_M_compareParts_20 (lv_at hl 1 rfl) ?_
  refine g_laldN C hP hv.2.2.2.1 (j := (12 * i + n)) (by omega) (by decide) d_M_compareParts_22 ?_
  refine g_eql (y := lN (pVa (bD b i) n)) (((hR.2.1 i hi).2 n hn).1.trans (if_neg hi0)) ?_
  refine lv_aload_n hx hb d_M_compareParts_23 rfl (lv_at hl 2 rfl) ?_
  refine g_get C i_M hP hv.1 rfl 5 (by decide) wd_511 rfl rfl d_M_compareParts_24 ?_
  refine lv_iload hx hb d_M_compareParts_27 (lv_at hl 1 rfl) ?_
  refine g_laldN C hP hv.2.2.2.2.1 (j := (12 * i + n)) (by omega) (by decide) d_M_compareParts_29 ?_
  refine g_eql (y := lN (pVb (bD b i) n)) (((hR.2.1 i hi).2 n hn).2 hi0) ?_
  refine lv_aload_n hx hb d_M_compareParts_30 rfl (lv_at hl 2 rfl) ?_
  refine g_get C i_M hP hv.1 rfl 4 (by decide) wd_510 rfl rfl d_M_compareParts_31 ?_
  refine lv_iload hx hb d_M_compareParts_34 (lv_at hl 0 rfl) ?_
  refine g_laldN C hP hv.2.2.2.1 (j := (12 * o + n)) (by omega) (by decide) d_M_compareParts_36 ?_
  refine g_eql (y := lN (pVa (bD b o) n)) (((hR.2.1 o ho).2 n hn).1.trans (if_neg ho0)) ?_
  refine lv_aload_n hx hb d_M_compareParts_37 rfl (lv_at hl 2 rfl) ?_
  refine g_get C i_M hP hv.1 rfl 5 (by decide) wd_511 rfl rfl d_M_compareParts_38 ?_
  refine lv_iload hx hb d_M_compareParts_41 (lv_at hl 0 rfl) ?_
  refine g_laldN C hP hv.2.2.2.2.1 (j := (12 * o + n)) (by omega) (by decide) d_M_compareParts_43 ?_
  refine g_eql (y := lN (pVb (bD b o) n)) (((hR.2.1 o ho).2 n hn).2 ho0) ?_
  refine g_calli (g_runS C hl.1 (ct_M_compare f _ _ _ _ (hDi.2.1 n).1 (Nat.pos_of_ne_zero hi0) (Nat.lt_trans (hDi.2.1 n).2 (by decide)) (hDo.2.1 n).1 (Nat.pos_of_ne_zero ho0) (Nat.lt_trans (hDo.2.1 n).2 (by decide)) _) (cx_S C 4 wd_648 wd_649 wd_3 wd_650 rfl rfl (by decide +kernel) ⟨Nat.le_of_ble_eq_true rfl, Nat.le_of_ble_eq_true rfl⟩) hP rfl rfl (Nat.le_of_ble_eq_true rfl) d_M_compareParts_44 ⟨Nat.le_of_ble_eq_true rfl, Nat.le_of_ble_eq_true rfl⟩) hP hS hA0 (fun r2 f1 H locs hq hP hS => ?_)
  obtain ⟨rfl, hu⟩ := hq
  rw [hu] at hP
  exact g_iret C hP hS (⟨rfl, rfl⟩) (Nat.le_of_ble_eq_true rfl) (Nat.le_of_ble_eq_true rfl) d_M_compareParts_47
set_option maxHeartbeats 4000000 in
set_option maxRecDepth 100000 in
theorem ct_M_isAhead {l : Launch} {G : hG} (f : hm) (y : Nat) (ca : Nat → Nat) (b : BD) (hok : bOK b) (th : Int32) (bc : Int64) (cp : Int32) (hm : mS G f y ca b th bc cp) (i o : Nat) (hi : i < bN b) (ho : o < bN b) : ci_ l G y_M_isAhead w_M_isAhead { frames := 0, cells := 0, slots := 0, locals := 0 } [.ref y, .int (nI i), .int (nI o)] f (fun r u => bz (sb b i o) r ∧ u = f) := by
  intro sz
  refine h_ofW (cc := c_M_isAhead) (maxL := 5) (ret := (some .boolean)) (by decide) rfl (Nat.le_of_ble_eq_true rfl) ?_
  intro p e s m below meth c ls C hin hsz hP hl
  obtain ⟨hx, hb, hml, hown, -, -, -, -⟩ := id C
  subst hsz
  have hA0 : ∀ q, s.heap.size ≤ q → hA f s.heap.size q := hA.new
  have hS : va_S (hA f s.heap.size) s.heap s.heap [] := va_S.rf
  replace hl : lv_has ls 5 [(0, .ref y), (1, .int (nI i)), (2, .int (nI o))] := hl
  obtain ⟨MK, PL, AB, BE, AS, FP, PC, PF, PT, PU, RA, KC, PK, ST, DC, DY, DS, SU, hv, hR⟩ := hm
  have hNN : bN b ≤ 40 := hok.1.1
  have hRC : bRc b ≤ 10 := hok.1.2.1
  have hHC : bHc b ≤ 40 := hok.1.2.2
  have hDi := hok.2.1 i hi
  have hDo := hok.2.1 o ho
  have hpl1 := hok.2.2.1 _ hDi.1.1
  have hpl2 := hok.2.2.1 _ hDo.1.1
  refine lv_aload_n hx hb d_M_isAhead_0 rfl (lv_at hl 0 rfl) ?_
  refine g_get C i_M hP hv.1 rfl 3 (by decide) wd_509 rfl rfl d_M_isAhead_1 ?_
  refine lv_aload_n hx hb d_M_isAhead_4 rfl (lv_at hl 0 rfl) ?_
  refine g_get C i_M hP hv.1 rfl 2 (by decide) wd_508 rfl rfl d_M_isAhead_5 ?_
  refine lv_iload_n hx hb d_M_isAhead_8 rfl (lv_at hl 1 rfl) ?_
  refine g_ialdN C hP hv.2.1 (j := i) (by omega) (by decide) d_M_isAhead_9 ?_
  refine g_eqi (y := nI (pMk (bD b i))) ((hR.2.1 i hi).1) ?_
  refine g_ialdN C hP hv.2.2.1 (j := (pMk (bD b i))) (hDi.1.1) (by decide) d_M_isAhead_10 ?_
  refine g_eqi (y := nI (bPl b (pMk (bD b i)))) (by rw [hR.1.1]) ?_
  refine lv_istore_n (lv' := [(3, .int (nI (bPl b (pMk (bD b i))))), (0, .ref y), (1, .int (nI i)), (2, .int (nI o))]) hx hb d_M_isAhead_11 rfl hl (by decide) rfl (fun ls hl => ?_)
  refine lv_aload_n hx hb d_M_isAhead_12 rfl (lv_at hl 1 rfl) ?_
  refine g_get C i_M hP hv.1 rfl 3 (by decide) wd_509 rfl rfl d_M_isAhead_13 ?_
  refine lv_aload_n hx hb d_M_isAhead_16 rfl (lv_at hl 1 rfl) ?_
  refine g_get C i_M hP hv.1 rfl 2 (by decide) wd_508 rfl rfl d_M_isAhead_17 ?_
  refine lv_iload_n hx hb d_M_isAhead_20 rfl (lv_at hl 3 rfl) ?_
  refine g_ialdN C hP hv.2.1 (j := o) (by omega) (by decide) d_M_isAhead_21 ?_
  refine g_eqi (y := nI (pMk (bD b o))) ((hR.2.1 o ho).1) ?_
  refine g_ialdN C hP hv.2.2.1 (j := (pMk (bD b o))) (hDo.1.1) (by decide) d_M_isAhead_22 ?_
  refine g_eqi (y := nI (bPl b (pMk (bD b o)))) (by rw [hR.1.1]) ?_
  refine lv_istore (lv' := [(4, .int (nI (bPl b (pMk (bD b o))))), (3, .int (nI (bPl b (pMk (bD b i))))), (0, .ref y), (1, .int (nI i)), (2, .int (nI o))]) hx hb d_M_isAhead_23 hl (by decide) rfl (fun ls hl => ?_)
  refine lv_iload_n hx hb d_M_isAhead_25 rfl (lv_at hl 1 rfl) ?_
  refine lv_iload hx hb d_M_isAhead_26 (lv_at hl 0 rfl) ?_
  refine lv_icmp_eq (tgt := 45) hx hb d_M_isAhead_28 (by decide) (fun c_28 => ?_) (fun c_28 => ?_)
  · have q_1 : bPl b (pMk (bD b i)) = bPl b (pMk (bD b o)) := (nI_eq (by omega) (by omega)).mp c_28
    refine lv_iload_n hx hb d_M_isAhead_45 rfl (lv_at hl 3 rfl) ?_
    refine lv_iload_n hx hb d_M_isAhead_46 rfl (lv_at hl 4 rfl) ?_
    refine lv_icmp_ge (tgt := 54) hx hb d_M_isAhead_47 (by decide) (fun c_47 => ?_) (fun c_47 => ?_)
    · have q_2 : ¬ sb b i o := fun z9 => by have := (nI_leI (by omega) (by omega)).mp c_47; unfold sb at z9; omega
      refine lv_iconst (v := 0) hx hb d_M_isAhead_54 (by decide) ?_
      exact g_zret C (by first | exact Or.inl rfl | exact Or.inr rfl) hP hS (⟨Or.inr ⟨q_2, rfl⟩, rfl⟩) (Nat.le_of_ble_eq_true rfl) (Nat.le_of_ble_eq_true rfl) d_M_isAhead_55
    · have q_2 : sb b i o := Or.inr ⟨q_1, by have : ¬ o ≤ i := fun z9 => c_47 ((nI_leI (by omega) (by omega)).mpr z9); omega⟩
      refine lv_iconst (v := 1) hx hb d_M_isAhead_50 (by decide) ?_
      refine lv_goto (tgt := 55) hx hb d_M_isAhead_51 (by decide) ?_
      exact g_zret C (by first | exact Or.inl rfl | exact Or.inr rfl) hP hS (⟨Or.inl ⟨q_2, rfl⟩, rfl⟩) (Nat.le_of_ble_eq_true rfl) (Nat.le_of_ble_eq_true rfl) d_M_isAhead_55
  · have q_1 : ¬ bPl b (pMk (bD b i)) = bPl b (pMk (bD b o)) := fun z9 => c_28 (by rw [z9])
    refine lv_iload_n hx hb d_M_isAhead_31 rfl (lv_at hl 1 rfl) ?_
    refine lv_iload hx hb d_M_isAhead_32 (lv_at hl 0 rfl) ?_
    refine lv_icmp_ge (tgt := 41) hx hb d_M_isAhead_34 (by decide) (fun c_34 => ?_) (fun c_34 => ?_)
    · have q_2 : ¬ sb b i o := fun z9 => by have := (nI_leI (by omega) (by omega)).mp c_34; unfold sb at z9; omega
      refine lv_iconst (v := 0) hx hb d_M_isAhead_41 (by decide) ?_
      refine lv_goto (tgt := 55) hx hb d_M_isAhead_42 (by decide) ?_
      exact g_zret C (by first | exact Or.inl rfl | exact Or.inr rfl) hP hS (⟨Or.inr ⟨q_2, rfl⟩, rfl⟩) (Nat.le_of_ble_eq_true rfl) (Nat.le_of_ble_eq_true rfl) d_M_isAhead_55
    · have q_2 : sb b i o := Or.inl (by have : ¬ bPl b (pMk (bD b o)) ≤ bPl b (pMk (bD b i)) := fun z9 => c_34 ((nI_leI (by omega) (by omega)).mpr z9); omega)
      refine lv_iconst (v := 1) hx hb d_M_isAhead_37 (by decide) ?_
      refine lv_goto (tgt := 55) hx hb d_M_isAhead_38 (by decide) ?_
      exact g_zret C (by first | exact Or.inl rfl | exact Or.inr rfl) hP hS (⟨Or.inl ⟨q_2, rfl⟩, rfl⟩) (Nat.le_of_ble_eq_true rfl) (Nat.le_of_ble_eq_true rfl) d_M_isAhead_55
