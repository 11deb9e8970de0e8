/-! PartBook: its short methods. -/
theorem ask_4 {h : Int32} (h0 : -1 ≤ h ∧ h ≤ 2) : h = -1 ∨ h = 0 ∨ h = 1 ∨ h = 2 := by
  have h1 := Int32.le_iff_toInt_le.mp h0.1
  have h2 := Int32.le_iff_toInt_le.mp h0.2
  rw [show (-1 : Int32).toInt = -1 by decide] at h1
  rw [show (2 : Int32).toInt = 2 by decide] at h2
  rcases (show h.toInt = -1 ∨ h.toInt = 0 ∨ h.toInt = 1 ∨ h.toInt = 2 by omega) with e | e | e | e
  · exact Or.inl (Int32.toInt_inj.mp (by rw [e]; decide))
  · exact Or.inr (Or.inl (Int32.toInt_inj.mp (by rw [e]; decide)))
  · exact Or.inr (Or.inr (Or.inl (Int32.toInt_inj.mp (by rw [e]; decide))))
  · exact Or.inr (Or.inr (Or.inr (Int32.toInt_inj.mp (by rw [e]; decide))))
theorem has_0 {v : Nat} (hv : v < 2 ^ 50) (h : (if lN v = 0 then (0 : Int32) else 1) = 0) : v = 0 := by
  by_cases z : lN v = 0
  · exact (pk_lEQ (b := 0) (by omega) (by omega)).mp z
  · rw [if_neg z] at h; exact absurd h (by decide)
theorem pV_pc {G : hG} {f u : hm} {a : Nat → Nat} {i : Nat} {D : PD} {sm : Option Nat} (h : pV G f a i D sm) (hinj : ∀ j j2, j < 13 → j2 < 13 → a j = a j2 → i = i ∧ j = j2) (v : Nat) (hu : u = va_up f (a 0) (some (ob 1 [.int (nI i), .int (nI (pMk D)), .int (nI v), .ref (a 1), .ref (a 2), .ref (a 3), .ref (a 7), .ref (a 11)]))) : pV G u a i (dPc D v) sm := by
  obtain ⟨⟨h0, h1, h2, ⟨h3, h4, h5, h6⟩, ⟨h7, h8, h9, h10⟩, h11, h12⟩, hq, hn⟩ := h
  have ne : ∀ k, 0 < k → k < 13 → u (a k) = f (a k) := fun k k1 k2 => hm_up hu (fun z => by have := (hinj k 0 k2 (by omega) z).2; omega)
  refine ⟨⟨by rw [hu]; exact va_up_self _ _ _, ?_, ?_, ⟨?_, ?_, ?_, ?_⟩, ⟨?_, ?_, ?_, ?_⟩, ?_, ?_⟩, fun q hs => ?_, hn⟩
  · exact (ne 1 (by decide) (by decide)).trans h1
  · exact (ne 2 (by decide) (by decide)).trans h2
  · exact (ne 3 (by decide) (by decide)).trans h3
  · exact (ne 4 (by decide) (by decide)).trans h4
  · exact (ne 5 (by decide) (by decide)).trans h5
  · exact (ne 6 (by decide) (by decide)).trans h6
  · exact (ne 7 (by decide) (by decide)).trans h7
  · exact (ne 8 (by decide) (by decide)).trans h8
  · exact (ne 9 (by decide) (by decide)).trans h9
  · exact (ne 10 (by decide) (by decide)).trans h10
  · exact (ne 11 (by decide) (by decide)).trans h11
  · exact (ne 12 (by decide) (by decide)).trans h12
  · exact (hm_up hu (kd_ne (hq q hs) h0 (by simp [kd]))).trans (hq q hs)
set_option maxHeartbeats 4000000 in
set_option maxRecDepth 100000 in
theorem ct_B_rule {l : Launch} {G : hG} (f : hm) (x : Nat) (a : AD) (b : BD) (hk : bk G f x a b) : ci_ l G y_B_rule w_B_rule { frames := 0, cells := 0, slots := 0, locals := 0 } [.ref x] f (fun r u => ∃ a1 b1, bk G u x a1 b1 ∧ K_rule b r b1) := by
  intro sz
  refine h_ofW (cc := c_B_rule) (maxL := 1) (ret := (some .int)) (by decide) rfl (Nat.le_of_ble_eq_true rfl) ?_
  intro p e s m below meth c ls C hin hsz hP hl
  obtain ⟨hx, hb, hml, hown, -, -, -, -⟩ := id C
  subst hsz
  have hA0 : ∀ q, s.heap.size ≤ q → hA f s.heap.size q := hA.new
  have hS : va_S (hA f s.heap.size) s.heap s.heap [] := va_S.rf
  replace hl : lv_has ls 1 [(0, .ref x)] := hl
  have hNN : bN b ≤ 40 := hk.2.2.2.2.1.1
  have hRC : bRc b ≤ 10 := hk.2.2.2.2.1.2.1
  have hHC : bHc b ≤ 40 := hk.2.2.2.2.1.2.2
  refine lv_aload_n hx hb d_B_rule_0 rfl (lv_at hl 0 rfl) ?_
  refine g_get C i_B hP hk.1.1 rfl 4 (by decide) wd_35 rfl rfl d_B_rule_1 ?_
  refine lv_bipush (v := 10) hx hb d_B_rule_4 (by decide) ?_
  refine lv_icmp_lt (tgt := 11) hx hb d_B_rule_6 (by decide) (fun c_6 => ?_) (fun c_6 => ?_)
  · refine lv_aload_n hx hb d_B_rule_11 rfl (lv_at hl 0 rfl) ?_
    refine lv_dup hx hb d_B_rule_12 rfl ?_
    refine g_get C i_B hP hk.1.1 rfl 4 (by decide) wd_35 rfl rfl d_B_rule_13 ?_
    refine lv_iconst (v := 1) hx hb d_B_rule_16 (by decide) ?_
    refine lv_iadd hx hb d_B_rule_17 ?_
    refine g_eqi (y := nI (bRc b + 1)) (nI_1 _) ?_
    refine g_put C i_B t_B t_B_ok n_B hP hS hk.1.1 rfl 4 (by decide) wd_35 rfl rfl rfl (rfl) (Nat.le_of_ble_eq_true rfl) d_B_rule_18 (fun H locs hP hS => ?_)
    obtain ⟨f1, ef1⟩ : ∃ z99, z99 = va_up f x (some (ob 3 [.ref (aPa a), .int (nI (bN b)), .ref (aPl a), .ref (aAs a), .int (nI (bRc b + 1)), .ref (aRa a), .ref (aHi a), .int (nI (bHc b))])) := ⟨_, rfl⟩
    replace hP : hH G (hA f s.heap.size) f1 H := by rw [ef1]; exact hP
    have hk11_f1 : f1 x = some (ob 3 [.ref (aPa a), .int (nI (bN b)), .ref (aPl a), .ref (aAs a), .int (nI (bRc b + 1)), .ref (aRa a), .ref (aHi a), .int (nI (bHc b))]) := by rw [ef1]; exact va_up_self _ _ _
    have hk121_f1 := (hm_up (v := some (ob 3 [.ref (aPa a), .int (nI (bN b)), .ref (aPl a), .ref (aAs a), .int (nI (bRc b + 1)), .ref (aRa a), .ref (aHi a), .int (nI (bHc b))])) ef1 (hm_ne hk.1.2.1 hk.1.1 (by simp))).trans hk.1.2.1
    have hk1221_f1 := (hm_up (v := some (ob 3 [.ref (aPa a), .int (nI (bN b)), .ref (aPl a), .ref (aAs a), .int (nI (bRc b + 1)), .ref (aRa a), .ref (aHi a), .int (nI (bHc b))])) ef1 (hm_ne hk.1.2.2.1 hk.1.1 (by simp))).trans hk.1.2.2.1
    have hk12221_f1 := (hm_up (v := some (ob 3 [.ref (aPa a), .int (nI (bN b)), .ref (aPl a), .ref (aAs a), .int (nI (bRc b + 1)), .ref (aRa a), .ref (aHi a), .int (nI (bHc b))])) ef1 (hm_ne hk.1.2.2.2.1 hk.1.1 (by simp))).trans hk.1.2.2.2.1
    have hk122221_f1 := (hm_up (v := some (ob 3 [.ref (aPa a), .int (nI (bN b)), .ref (aPl a), .ref (aAs a), .int (nI (bRc b + 1)), .ref (aRa a), .ref (aHi a), .int (nI (bHc b))])) ef1 (hm_ne hk.1.2.2.2.2.1 hk.1.1 (by simp))).trans hk.1.2.2.2.2.1
    have hk122222_f1 := (hm_up (v := some (ob 3 [.ref (aPa a), .int (nI (bN b)), .ref (aPl a), .ref (aAs a), .int (nI (bRc b + 1)), .ref (aRa a), .ref (aHi a), .int (nI (bHc b))])) ef1 (hm_ne hk.1.2.2.2.2.2 hk.1.1 (by simp))).trans hk.1.2.2.2.2.2
    refine lv_aload_n hx hb d_B_rule_21 rfl (lv_at hl 0 rfl) ?_
    refine g_get C i_B hP hk11_f1 rfl 4 (by decide) wd_35 rfl rfl d_B_rule_22 ?_
    refine lv_iconst (v := 1) hx hb d_B_rule_25 (by decide) ?_
    refine lv_isub hx hb d_B_rule_26 ?_
    have h10 : bRc b < 10 := (nI_ltI (b := 10) (by omega) (by decide)).mp c_6
    exact g_iret C hP hS (⟨a, bRcS b (bRc b + 1), bk_six hk (by rw [ef1]; refine hE.up ?_ (by simp); exact hE.rf) ⟨hk11_f1, hk121_f1, hk1221_f1, hk12221_f1, hk122221_f1, hk122222_f1⟩ rfl rfl ⟨⟨hNN, Nat.succ_le_of_lt h10, hHC⟩, hk.2.2.2.2.2⟩, Or.inl ⟨h10, nI_pred _, rfl⟩⟩) (Nat.le_of_ble_eq_true rfl) (Nat.le_of_ble_eq_true rfl) d_B_rule_27
  · refine lv_iconst (v := (-1)) hx hb d_B_rule_9 (by decide) ?_
    exact g_iret C hP hS (⟨a, b, hk, Or.inr ⟨fun z9 => c_6 (nI_lt (b := 10) z9 (by decide)), rfl, rfl⟩⟩) (Nat.le_of_ble_eq_true rfl) (Nat.le_of_ble_eq_true rfl) d_B_rule_10
set_option maxHeartbeats 4000000 in
set_option maxRecDepth 100000 in
theorem ct_B_found {l : Launch} {G : hG} (f : hm) (x : Nat) (a : AD) (b : BD) (hk : bk G f x a b) (k0 : Int32) : ci_ l G y_B_found w_B_found { frames := 0, cells := 0, slots := 0, locals := 0 } [.ref x, .int k0] f (fun r u => K_found b k0 r ∧ u = f) := by
  intro sz
  refine h_ofW (cc := c_B_found) (maxL := 2) (ret := (some .int)) (by decide) rfl (Nat.le_of_ble_eq_true rfl) ?_
  intro p e s m below meth c ls C hin hsz hP hl
  obtain ⟨hx, hb, hml, hown, -, -, -, -⟩ := id C
  subst hsz
  have hA0 : ∀ q, s.heap.size ≤ q → hA f s.heap.size q := hA.new
  have hS : va_S (hA f s.heap.size) s.heap s.heap [] := va_S.rf
  replace hl : lv_has ls 2 [(0, .ref x), (1, .int k0)] := hl
  have hNN : bN b ≤ 40 := hk.2.2.2.2.1.1
  have hRC : bRc b ≤ 10 := hk.2.2.2.2.1.2.1
  have hHC : bHc b ≤ 40 := hk.2.2.2.2.1.2.2
  refine lv_iload_n hx hb d_B_found_0 rfl (lv_at hl 1 rfl) ?_
  refine lv_if_lt (tgt := 21) hx hb d_B_found_1 (by decide) (fun c_1 => ?_) (fun c_1 => ?_)
  · refine lv_iconst (v := (-1)) hx hb d_B_found_21 (by decide) ?_
    exact g_iret C hP hS (⟨Or.inr ⟨fun z9 => by first | exact ((ix_chk (x := k0) (n := bHc b) (by omega)).mpr z9).1 c_1 | exact Int32.not_le.mpr ((ix_chk (x := k0) (n := bHc b) (by omega)).mpr z9).2 c_9, rfl⟩, rfl⟩) (Nat.le_of_ble_eq_true rfl) (Nat.le_of_ble_eq_true rfl) d_B_found_22
  · refine lv_iload_n hx hb d_B_found_4 rfl (lv_at hl 1 rfl) ?_
    refine lv_aload_n hx hb d_B_found_5 rfl (lv_at hl 0 rfl) ?_
    refine g_get C i_B hP hk.1.1 rfl 7 (by decide) wd_38 rfl rfl d_B_found_6 ?_
    refine lv_icmp_ge (tgt := 21) hx hb d_B_found_9 (by decide) (fun c_9 => ?_) (fun c_9 => ?_)
    · refine lv_iconst (v := (-1)) hx hb d_B_found_21 (by decide) ?_
      exact g_iret C hP hS (⟨Or.inr ⟨fun z9 => by first | exact ((ix_chk (x := k0) (n := bHc b) (by omega)).mpr z9).1 c_1 | exact Int32.not_le.mpr ((ix_chk (x := k0) (n := bHc b) (by omega)).mpr z9).2 c_9, rfl⟩, rfl⟩) (Nat.le_of_ble_eq_true rfl) (Nat.le_of_ble_eq_true rfl) d_B_found_22
    · obtain ⟨j, hj, rfl⟩ := (ix_chk (x := k0) (n := bHc b) (by omega)).mp ⟨c_1, Int32.not_le.mp c_9⟩
      refine lv_aload_n hx hb d_B_found_12 rfl (lv_at hl 0 rfl) ?_
      refine g_get C i_B hP hk.1.1 rfl 6 (by decide) wd_37 rfl rfl d_B_found_13 ?_
      refine lv_iload_n hx hb d_B_found_16 rfl (lv_at hl 1 rfl) ?_
      refine g_ialdN C hP hk.1.2.2.2.2.2 (j := j) (by omega) (by decide) d_B_found_17 ?_
      refine lv_goto (tgt := 22) hx hb d_B_found_18 (by decide) ?_
      exact g_iret C hP hS (⟨Or.inl ⟨j, hj, rfl, rfl⟩, rfl⟩) (Nat.le_of_ble_eq_true rfl) (Nat.le_of_ble_eq_true rfl) d_B_found_22
set_option maxHeartbeats 4000000 in
set_option maxRecDepth 100000 in
theorem ct_B_rate {l : Launch} {G : hG} {sa : xS} (hl0 : l.stackTraces = false) (f : hm) (x : Nat) (a : AD) (b : BD) (hk : bk G f x a b) (c0 : Int32) (v0 : Int64) : xi_ l G sa y_B_rate w_B_rate { frames := 7, cells := 2, slots := 12, locals := 120 } [.ref x, .int c0, .long v0] f (fun r u => I_rate c0 ∧ N_rate v0 ∧ ∃ a1 b1, bk G u x a1 b1 ∧ K_rate b c0 v0 r b1) (bad (I_rate c0) (N_rate v0)) := by
  intro sz
  refine x_ofW (cc := c_B_rate) (maxL := 5) (ret := (some .boolean)) (by decide) rfl (Nat.le_of_ble_eq_true rfl) ?_
  intro p e s m below meth c ls C hex hN hZ hsz hP hl
  obtain ⟨hx, hb, hml, hown, -, -, -, -⟩ := id C
  subst hsz
  have hA0 : ∀ q, s.heap.size ≤ q → hA f s.heap.size q := hA.new
  have hS : va_S (hA f s.heap.size) s.heap s.heap [] := va_S.rf
  replace hl : lv_has ls 5 [(0, .ref x), (1, .int c0), (2, .long v0)] := hl
  have hNN : bN b ≤ 40 := hk.2.2.2.2.1.1
  have hRC : bRc b ≤ 10 := hk.2.2.2.2.1.2.1
  have hHC : bHc b ≤ 40 := hk.2.2.2.2.1.2.2
  refine lv_iload_n hx hb d_B_rate_0 rfl (lv_at hl 1 rfl) ?_
  refine lv_iconst (v := 4) hx hb d_B_rate_1 (by decide) ?_
  refine x_callv (x_runS C hN hZ hl.1 (ct_B_checkIndex (sa := sa) hl0 f c0 (nI 4) _) (cx_S C 2 wd_259 wd_260 wd_1 wd_261 rfl rfl (by decide +kernel) ⟨Nat.le_of_ble_eq_true rfl, Nat.le_of_ble_eq_true rfl⟩) hP hS hA0 rfl rfl (Nat.le_of_ble_eq_true rfl) d_B_rate_2 ⟨Nat.le_of_ble_eq_true rfl, Nat.le_of_ble_eq_true rfl⟩) hP hS hA0 (fun E ce q9 H locs hE hP hS h1 h2 h3 => x_out C hex hP hS (Or.inl ⟨hE.1, fun z9 => hE.2 ((ix_chk (n := 4) (by omega)).mpr z9)⟩) h1 h2 h3 (Nat.le_of_ble_eq_true rfl) (Nat.le_of_ble_eq_true rfl)) (fun f1 H locs hq hP hS => ?_)
  obtain ⟨hu, q_z⟩ := hq
  obtain ⟨j, hj, rfl⟩ := (ix_chk (n := 4) (by omega)).mp q_z
  rw [hu] at hP
  refine lv_lload_n hx hb d_B_rate_5 rfl (lv_at hl 2 rfl) ?_
  refine lv_lconst (v := 1) hx hb d_B_rate_6 (by decide) ?_
  refine lv_ldc2 hx hb hown (C.w wd_267) d_B_rate_7 ?_
  refine x_callv (x_runS C hN hZ hl.1 (ct_B_checkNumber (sa := sa) hl0 f v0 1 1000000 _) (cx_S C 3 wd_75 wd_76 wd_1 wd_77 rfl rfl (by decide +kernel) ⟨Nat.le_of_ble_eq_true rfl, Nat.le_of_ble_eq_true rfl⟩) hP hS hA0 rfl rfl (Nat.le_of_ble_eq_true rfl) d_B_rate_10 ⟨Nat.le_of_ble_eq_true rfl, Nat.le_of_ble_eq_true rfl⟩) hP hS hA0 (fun E ce q9 H locs hE hP hS h1 h2 h3 => x_out C hex hP hS (Or.inr ⟨hE.1, ⟨j, hj, rfl⟩, hE.2⟩) h1 h2 h3 (Nat.le_of_ble_eq_true rfl) (Nat.le_of_ble_eq_true rfl)) (fun f3 H locs hq hP hS => ?_)
  obtain ⟨hu, hv0⟩ := hq
  rw [hu] at hP
  have hN0 : N_rate v0 := hv0
  obtain ⟨v, hv1, hv2, rfl⟩ := lu_nat1 (n := 1000000) hv0 (by decide)
  refine lv_aload_n hx hb d_B_rate_13 rfl (lv_at hl 0 rfl) ?_
  refine g_get C i_B hP hk.1.1 rfl 5 (by decide) wd_36 rfl rfl d_B_rate_14 ?_
  refine lv_iload_n hx hb d_B_rate_17 rfl (lv_at hl 1 rfl) ?_
  refine g_laldN C hP hk.1.2.2.2.2.1 (j := j) (hj) (by decide) d_B_rate_18 ?_
  refine lv_lload_n hx hb d_B_rate_19 rfl (lv_at hl 2 rfl) ?_
  refine W.lcmp hx hb d_B_rate_20 ?_
  refine lv_if_eq (tgt := 28) hx hb d_B_rate_21 (by decide) (fun c_21 => ?_) (fun c_21 => ?_)
  · have c_21 := (lg_cmp_eq _ _).mp c_21
    have q_1 : bRa b j = v := (pk_lEQ (by have := (hk.2.2.2.2.2.2.2.2.1 j hj).2; omega) (by omega)).mp c_21
    refine lv_iconst (v := 0) hx hb d_B_rate_28 (by decide) ?_
    refine lv_istore (lv' := [(4, .int 0), (0, .ref x), (1, .int (nI j)), (2, .long (lN v))]) hx hb d_B_rate_29 hl (by decide) rfl (fun ls hl => ?_)
    refine lv_aload_n hx hb d_B_rate_31 rfl (lv_at hl 1 rfl) ?_
    refine g_get C i_B hP hk.1.1 rfl 5 (by decide) wd_36 rfl rfl d_B_rate_32 ?_
    refine lv_iload_n hx hb d_B_rate_35 rfl (lv_at hl 2 rfl) ?_
    refine lv_lload_n hx hb d_B_rate_36 rfl (lv_at hl 3 rfl) ?_
    refine g_lastN C hP hS hk.1.2.2.2.2.1 (j := j) (hj) (by decide) d_B_rate_37 (fun H locs hP hS => ?_)
    obtain ⟨g6, eg6⟩ : ∃ z99, z99 = vp_updL (fun k => lN (bRa b k)) j (lN v) := ⟨_, rfl⟩
    rw [← eg6] at hP
    obtain ⟨f5, ef5⟩ : ∃ z99, z99 = va_up f (aRa a) (some (aL G 4 g6)) := ⟨_, rfl⟩
    replace hP : hH G (hA f s.heap.size) f5 H := by rw [ef5]; exact hP
    have hk11_f5 := (hm_up (v := some (aL G 4 g6)) ef5 (hm_ne hk.1.1 hk.1.2.2.2.2.1 (by simp))).trans hk.1.1
    have hk121_f5 := (hm_up (v := some (aL G 4 g6)) ef5 (hm_ne hk.1.2.1 hk.1.2.2.2.2.1 (by simp))).trans hk.1.2.1
    have hk1221_f5 := (hm_up (v := some (aL G 4 g6)) ef5 (hm_ne hk.1.2.2.1 hk.1.2.2.2.2.1 (by simp))).trans hk.1.2.2.1
    have hk12221_f5 := (hm_up (v := some (aL G 4 g6)) ef5 (hm_ne hk.1.2.2.2.1 hk.1.2.2.2.2.1 (by simp))).trans hk.1.2.2.2.1
    have hk122221_f5 : f5 (aRa a) = some (aL G 4 g6) := by rw [ef5]; exact va_up_self _ _ _
    have hk122222_f5 := (hm_up (v := some (aL G 4 g6)) ef5 (hm_ne hk.1.2.2.2.2.2 hk.1.2.2.2.2.1 (by simp))).trans hk.1.2.2.2.2.2
    refine lv_iload hx hb d_B_rate_38 (lv_at hl 0 rfl) ?_
    rw [updL_lN] at eg6
    subst eg6
    refine vx_ret ?_
    exact g_zret C (by first | exact Or.inl rfl | exact Or.inr rfl) hP hS (⟨⟨j, hj, rfl⟩, hN0, a, bRaS b j v, bk_six hk (by rw [ef5]; refine hE.up ?_ (by simp); exact hE.rf) ⟨hk11_f5, hk121_f5, hk1221_f5, hk12221_f5, hk122221_f5, hk122222_f5⟩ rfl rfl ⟨hk.2.2.2.2.1, hk.2.2.2.2.2.1, hk.2.2.2.2.2.2.1, hk.2.2.2.2.2.2.2.1, up_all (P := fun _ z => 1 ≤ z ∧ z ≤ 1000000) hk.2.2.2.2.2.2.2.2.1 ⟨hv1, hv2⟩, hk.2.2.2.2.2.2.2.2.2⟩, j, v, hj, rfl, hv1, hv2, rfl, by rw [if_pos q_1], rfl⟩) (Nat.le_of_ble_eq_true rfl) (Nat.le_of_ble_eq_true rfl) d_B_rate_40
  · have c_21 := fun z => c_21 ((lg_cmp_eq _ _).mpr z)
    have q_1 : ¬ bRa b j = v := fun z9 => c_21 (by show lN _ = lN _; rw [z9])
    refine lv_iconst (v := 1) hx hb d_B_rate_24 (by decide) ?_
    refine lv_goto (tgt := 29) hx hb d_B_rate_25 (by decide) ?_
    refine lv_istore (lv' := [(4, .int 1), (0, .ref x), (1, .int (nI j)), (2, .long (lN v))]) hx hb d_B_rate_29 hl (by decide) rfl (fun ls hl => ?_)
    refine lv_aload_n hx hb d_B_rate_31 rfl (lv_at hl 1 rfl) ?_
    refine g_get C i_B hP hk.1.1 rfl 5 (by decide) wd_36 rfl rfl d_B_rate_32 ?_
    refine lv_iload_n hx hb d_B_rate_35 rfl (lv_at hl 2 rfl) ?_
    refine lv_lload_n hx hb d_B_rate_36 rfl (lv_at hl 3 rfl) ?_
    refine g_lastN C hP hS hk.1.2.2.2.2.1 (j := j) (hj) (by decide) d_B_rate_37 (fun H locs hP hS => ?_)
    obtain ⟨g8, eg8⟩ : ∃ z99, z99 = vp_updL (fun k => lN (bRa b k)) j (lN v) := ⟨_, rfl⟩
    rw [← eg8] at hP
    obtain ⟨f7, ef7⟩ : ∃ z99, z99 = va_up f (aRa a) (some (aL G 4 g8)) := ⟨_, rfl⟩
    replace hP : hH G (hA f s.heap.size) f7 H := by rw [ef7]; exact hP
    have hk11_f7 := (hm_up (v := some (aL G 4 g8)) ef7 (hm_ne hk.1.1 hk.1.2.2.2.2.1 (by simp))).trans hk.1.1
    have hk121_f7 := (hm_up (v := some (aL G 4 g8)) ef7 (hm_ne hk.1.2.1 hk.1.2.2.2.2.1 (by simp))).trans hk.1.2.1
    have hk1221_f7 := (hm_up (v := some (aL G 4 g8)) ef7 (hm_ne hk.1.2.2.1 hk.1.2.2.2.2.1 (by simp))).trans hk.1.2.2.1
    have hk12221_f7 := (hm_up (v := some (aL G 4 g8)) ef7 (hm_ne hk.1.2.2.2.1 hk.1.2.2.2.2.1 (by simp))).trans hk.1.2.2.2.1
    have hk122221_f7 : f7 (aRa a) = some (aL G 4 g8) := by rw [ef7]; exact va_up_self _ _ _
    have hk122222_f7 := (hm_up (v := some (aL G 4 g8)) ef7 (hm_ne hk.1.2.2.2.2.2 hk.1.2.2.2.2.1 (by simp))).trans hk.1.2.2.2.2.2
    refine lv_iload hx hb d_B_rate_38 (lv_at hl 0 rfl) ?_
    rw [updL_lN] at eg8
    subst eg8
    refine vx_ret ?_
    exact g_zret C (by first | exact Or.inl rfl | exact Or.inr rfl) hP hS (⟨⟨j, hj, rfl⟩, hN0, a, bRaS b j v, bk_six hk (by rw [ef7]; refine hE.up ?_ (by simp); exact hE.rf) ⟨hk11_f7, hk121_f7, hk1221_f7, hk12221_f7, hk122221_f7, hk122222_f7⟩ rfl rfl ⟨hk.2.2.2.2.1, hk.2.2.2.2.2.1, hk.2.2.2.2.2.2.1, hk.2.2.2.2.2.2.2.1, up_all (P := fun _ z => 1 ≤ z ∧ z ≤ 1000000) hk.2.2.2.2.2.2.2.2.1 ⟨hv1, hv2⟩, hk.2.2.2.2.2.2.2.2.2⟩, j, v, hj, rfl, hv1, hv2, rfl, by rw [if_neg q_1], rfl⟩) (Nat.le_of_ble_eq_true rfl) (Nat.le_of_ble_eq_true rfl) d_B_rate_40
set_option maxHeartbeats 4000000 in
set_option maxRecDepth 100000 in
theorem ct_B_maker {l : Launch} {G : hG} {sa : xS} (hl0 : l.stackTraces = false) (f : hm) (x : Nat) (a : AD) (b : BD) (hk : bk G f x a b) (k0 v0 : Int32) : xi_ l G sa y_B_maker w_B_maker { frames := 7, cells := 2, slots := 12, locals := 120 } [.ref x, .int k0, .int v0] f (fun r u => N_maker k0 v0 ∧ ∃ a1 b1, bk G u x a1 b1 ∧ K_maker b k0 v0 r b1) (fun E => E = eA ∧ ¬ N_maker k0 v0) := by
  intro sz
  refine x_ofW (cc := c_B_maker) (maxL := 4) (ret := (some .boolean)) (by decide) rfl (Nat.le_of_ble_eq_true rfl) ?_
  intro p e s m below meth c ls C hex hN hZ hsz hP hl
  obtain ⟨hx, hb, hml, hown, -, -, -, -⟩ := id C
  subst hsz
  have hA0 : ∀ q, s.heap.size ≤ q → hA f s.heap.size q := hA.new
  have hS : va_S (hA f s.heap.size) s.heap s.heap [] := va_S.rf
  replace hl : lv_has ls 4 [(0, .ref x), (1, .int k0), (2, .int v0)] := hl
  have hNN : bN b ≤ 40 := hk.2.2.2.2.1.1
  have hRC : bRc b ≤ 10 := hk.2.2.2.2.1.2.1
  have hHC : bHc b ≤ 40 := hk.2.2.2.2.1.2.2
  refine lv_iload_n hx hb d_B_maker_0 rfl (lv_at hl 1 rfl) ?_
  refine lv_i2l (v := k0.toInt64) hx hb d_B_maker_1 rfl ?_
  refine lv_lconst (v := 0) hx hb d_B_maker_2 (by decide) ?_
  refine lv_ldc2 hx hb hown (C.w wd_74) d_B_maker_3 ?_
  refine x_callv (x_runS C hN hZ hl.1 (ct_B_checkNumber (sa := sa) hl0 f (k0).toInt64 0 15 _) (cx_S C 3 wd_75 wd_76 wd_1 wd_77 rfl rfl (by decide +kernel) ⟨Nat.le_of_ble_eq_true rfl, Nat.le_of_ble_eq_true rfl⟩) hP hS hA0 rfl rfl (Nat.le_of_ble_eq_true rfl) d_B_maker_6 ⟨Nat.le_of_ble_eq_true rfl, Nat.le_of_ble_eq_true rfl⟩) hP hS hA0 (fun E ce q9 H locs hE hP hS h1 h2 h3 => x_out C hex hP hS (⟨hE.1, fun z9 => hE.2 ((nu_chk (by decide) (by decide)).mpr z9.1)⟩) h1 h2 h3 (Nat.le_of_ble_eq_true rfl) (Nat.le_of_ble_eq_true rfl)) (fun f1 H locs hq hP hS => ?_)
  obtain ⟨hu, q_z⟩ := hq
  have hk0 : (0 : Int32) ≤ k0 ∧ k0 ≤ 15 := (nu_chk (by decide) (by decide)).mp q_z
  rw [hu] at hP
  refine lv_iload_n hx hb d_B_maker_9 rfl (lv_at hl 2 rfl) ?_
  refine lv_i2l (v := v0.toInt64) hx hb d_B_maker_10 rfl ?_
  refine lv_lconst (v := 0) hx hb d_B_maker_11 (by decide) ?_
  refine lv_ldc2 hx hb hown (C.w wd_230) d_B_maker_12 ?_
  refine x_callv (x_runS C hN hZ hl.1 (ct_B_checkNumber (sa := sa) hl0 f (v0).toInt64 0 99 _) (cx_S C 3 wd_75 wd_76 wd_1 wd_77 rfl rfl (by decide +kernel) ⟨Nat.le_of_ble_eq_true rfl, Nat.le_of_ble_eq_true rfl⟩) hP hS hA0 rfl rfl (Nat.le_of_ble_eq_true rfl) d_B_maker_15 ⟨Nat.le_of_ble_eq_true rfl, Nat.le_of_ble_eq_true rfl⟩) hP hS hA0 (fun E ce q9 H locs hE hP hS h1 h2 h3 => x_out C hex hP hS (⟨hE.1, fun z9 => hE.2 ((nu_chk (by decide) (by decide)).mpr z9.2)⟩) h1 h2 h3 (Nat.le_of_ble_eq_true rfl) (Nat.le_of_ble_eq_true rfl)) (fun f3 H locs hq hP hS => ?_)
  obtain ⟨hu, q_z⟩ := hq
  have hv0 : (0 : Int32) ≤ v0 ∧ v0 ≤ 99 := (nu_chk (by decide) (by decide)).mp q_z
  rw [hu] at hP
  have hN0 : N_maker k0 v0 := ⟨hk0, hv0⟩
  obtain ⟨v, hv2, rfl⟩ := nu_nat (n := 99) hv0 (by decide)
  obtain ⟨j, hj, rfl⟩ := nu_nat (n := 15) hk0 (by decide)
  refine lv_aload_n hx hb d_B_maker_18 rfl (lv_at hl 0 rfl) ?_
  refine g_get C i_B hP hk.1.1 rfl 2 (by decide) wd_33 rfl rfl d_B_maker_19 ?_
  refine lv_iload_n hx hb d_B_maker_22 rfl (lv_at hl 1 rfl) ?_
  refine g_ialdN C hP hk.1.2.2.1 (j := j) (by omega) (by decide) d_B_maker_23 ?_
  refine lv_iload_n hx hb d_B_maker_24 rfl (lv_at hl 2 rfl) ?_
  refine lv_icmp_eq (tgt := 32) hx hb d_B_maker_25 (by decide) (fun c_25 => ?_) (fun c_25 => ?_)
  · have q_1 : bPl b j = v := (nI_eq (by have := hk.2.2.2.2.2.2.1 j (by omega); omega) (by omega)).mp c_25
    refine lv_iconst (v := 0) hx hb d_B_maker_32 (by decide) ?_
    refine lv_istore_n (lv' := [(3, .int 0), (0, .ref x), (1, .int (nI j)), (2, .int (nI v))]) hx hb d_B_maker_33 rfl hl (by decide) rfl (fun ls hl => ?_)
    refine lv_aload_n hx hb d_B_maker_34 rfl (lv_at hl 1 rfl) ?_
    refine g_get C i_B hP hk.1.1 rfl 2 (by decide) wd_33 rfl rfl d_B_maker_35 ?_
    refine lv_iload_n hx hb d_B_maker_38 rfl (lv_at hl 2 rfl) ?_
    refine lv_iload_n hx hb d_B_maker_39 rfl (lv_at hl 3 rfl) ?_
    refine g_iastN C hP hS hk.1.2.2.1 (j := j) (by omega) (by decide) d_B_maker_40 (fun H locs hP hS => ?_)
    obtain ⟨g6, eg6⟩ : ∃ z99, z99 = upd (fun k => nI (bPl b k)) j (nI v) := ⟨_, rfl⟩
    rw [← eg6] at hP
    obtain ⟨f5, ef5⟩ : ∃ z99, z99 = va_up f (aPl a) (some (aI G 16 g6)) := ⟨_, rfl⟩
    replace hP : hH G (hA f s.heap.size) f5 H := by rw [ef5]; exact hP
    have hk11_f5 := (hm_up (v := some (aI G 16 g6)) ef5 (hm_ne hk.1.1 hk.1.2.2.1 (by simp))).trans hk.1.1
    have hk121_f5 := (hm_up (v := some (aI G 16 g6)) ef5 (hm_ne hk.1.2.1 hk.1.2.2.1 (by simp))).trans hk.1.2.1
    have hk1221_f5 : f5 (aPl a) = some (aI G 16 g6) := by rw [ef5]; exact va_up_self _ _ _
    have hk12221_f5 := (hm_up (v := some (aI G 16 g6)) ef5 (hm_ne hk.1.2.2.2.1 hk.1.2.2.1 (by simp))).trans hk.1.2.2.2.1
    have hk122221_f5 := (hm_up (v := some (aI G 16 g6)) ef5 (hm_ne hk.1.2.2.2.2.1 hk.1.2.2.1 (by simp))).trans hk.1.2.2.2.2.1
    have hk122222_f5 := (hm_up (v := some (aI G 16 g6)) ef5 (hm_ne hk.1.2.2.2.2.2 hk.1.2.2.1 (by simp))).trans hk.1.2.2.2.2.2
    refine lv_iload_n hx hb d_B_maker_41 rfl (lv_at hl 0 rfl) ?_
    rw [upd_nI] at eg6
    subst eg6
    refine vx_ret ?_
    exact g_zret C (by first | exact Or.inl rfl | exact Or.inr rfl) hP hS (⟨hN0, a, bPlS b j v, bk_six hk (by rw [ef5]; refine hE.up ?_ (by simp); exact hE.rf) ⟨hk11_f5, hk121_f5, hk1221_f5, hk12221_f5, hk122221_f5, hk122222_f5⟩ rfl rfl ⟨hk.2.2.2.2.1, hk.2.2.2.2.2.1, up_all (P := fun _ z => z ≤ 99) hk.2.2.2.2.2.2.1 hv2, hk.2.2.2.2.2.2.2⟩, j, v, by omega, rfl, hv2, rfl, by rw [if_pos q_1], rfl⟩) (Nat.le_of_ble_eq_true rfl) (Nat.le_of_ble_eq_true rfl) d_B_maker_42
  · have q_1 : ¬ bPl b j = v := fun z9 => c_25 (by show nI _ = nI _; rw [z9])
    refine lv_iconst (v := 1) hx hb d_B_maker_28 (by decide) ?_
    refine lv_goto (tgt := 33) hx hb d_B_maker_29 (by decide) ?_
    refine lv_istore_n (lv' := [(3, .int 1), (0, .ref x), (1, .int (nI j)), (2, .int (nI v))]) hx hb d_B_maker_33 rfl hl (by decide) rfl (fun ls hl => ?_)
    refine lv_aload_n hx hb d_B_maker_34 rfl (lv_at hl 1 rfl) ?_
    refine g_get C i_B hP hk.1.1 rfl 2 (by decide) wd_33 rfl rfl d_B_maker_35 ?_
    refine lv_iload_n hx hb d_B_maker_38 rfl (lv_at hl 2 rfl) ?_
    refine lv_iload_n hx hb d_B_maker_39 rfl (lv_at hl 3 rfl) ?_
    refine g_iastN C hP hS hk.1.2.2.1 (j := j) (by omega) (by decide) d_B_maker_40 (fun H locs hP hS => ?_)
    obtain ⟨g8, eg8⟩ : ∃ z99, z99 = upd (fun k => nI (bPl b k)) j (nI v) := ⟨_, rfl⟩
    rw [← eg8] at hP
    obtain ⟨f7, ef7⟩ : ∃ z99, z99 = va_up f (aPl a) (some (aI G 16 g8)) := ⟨_, rfl⟩
    replace hP : hH G (hA f s.heap.size) f7 H := by rw [ef7]; exact hP
    have hk11_f7 := (hm_up (v := some (aI G 16 g8)) ef7 (hm_ne hk.1.1 hk.1.2.2.1 (by simp))).trans hk.1.1
    have hk121_f7 := (hm_up (v := some (aI G 16 g8)) ef7 (hm_ne hk.1.2.1 hk.1.2.2.1 (by simp))).trans hk.1.2.1
    have hk1221_f7 : f7 (aPl a) = some (aI G 16 g8) := by rw [ef7]; exact va_up_self _ _ _
    have hk12221_f7 := (hm_up (v := some (aI G 16 g8)) ef7 (hm_ne hk.1.2.2.2.1 hk.1.2.2.1 (by simp))).trans hk.1.2.2.2.1
    have hk122221_f7 := (hm_up (v := some (aI G 16 g8)) ef7 (hm_ne hk.1.2.2.2.2.1 hk.1.2.2.1 (by simp))).trans hk.1.2.2.2.2.1
    have hk122222_f7 := (hm_up (v := some (aI G 16 g8)) ef7 (hm_ne hk.1.2.2.2.2.2 hk.1.2.2.1 (by simp))).trans hk.1.2.2.2.2.2
    refine lv_iload_n hx hb d_B_maker_41 rfl (lv_at hl 0 rfl) ?_
    rw [upd_nI] at eg8
    subst eg8
    refine vx_ret ?_
    exact g_zret C (by first | exact Or.inl rfl | exact Or.inr rfl) hP hS (⟨hN0, a, bPlS b j v, bk_six hk (by rw [ef7]; refine hE.up ?_ (by simp); exact hE.rf) ⟨hk11_f7, hk121_f7, hk1221_f7, hk12221_f7, hk122221_f7, hk122222_f7⟩ rfl rfl ⟨hk.2.2.2.2.1, hk.2.2.2.2.2.1, up_all (P := fun _ z => z ≤ 99) hk.2.2.2.2.2.2.1 hv2, hk.2.2.2.2.2.2.2⟩, j, v, by omega, rfl, hv2, rfl, by rw [if_neg q_1], rfl⟩) (Nat.le_of_ble_eq_true rfl) (Nat.le_of_ble_eq_true rfl) d_B_maker_42
set_option maxHeartbeats 4000000 in
set_option maxRecDepth 100000 in
theorem ct_B_ask {l : Launch} {G : hG} {sa : xS} (hl0 : l.stackTraces = false) (f : hm) (x : Nat) (a : AD) (b : BD) (hk : bk G f x a b) (q0 n0 h0 : Int32) : xi_ l G sa y_B_ask w_B_ask { frames := 7, cells := 3, slots := 18, locals := 120 } [.ref x, .int q0, .int n0, .int h0] f (fun r u => I_ask b q0 n0 ∧ N_ask h0 ∧ ∃ a1 b1, bk G u x a1 b1 ∧ K_ask b q0 n0 h0 r b1) (bad (I_ask b q0 n0) (N_ask h0)) := by
  intro sz
  refine x_ofW (cc := c_B_ask) (maxL := 6) (ret := (some .boolean)) (by decide) rfl (Nat.le_of_ble_eq_true rfl) ?_
  intro p e s m below meth c ls C hex hN hZ hsz hP hl
  obtain ⟨hx, hb, hml, hown, -, -, -, -⟩ := id C
  subst hsz
  have hA0 : ∀ q, s.heap.size ≤ q → hA f s.heap.size q := hA.new
  have hS : va_S (hA f s.heap.size) s.heap s.heap [] := va_S.rf
  replace hl : lv_has ls 6 [(0, .ref x), (1, .int q0), (2, .int n0), (3, .int h0)] := hl
  have hNN : bN b ≤ 40 := hk.2.2.2.2.1.1
  have hRC : bRc b ≤ 10 := hk.2.2.2.2.1.2.1
  have hHC : bHc b ≤ 40 := hk.2.2.2.2.1.2.2
  refine lv_iload_n hx hb d_B_ask_0 rfl (lv_at hl 1 rfl) ?_
  refine lv_aload_n hx hb d_B_ask_1 rfl (lv_at hl 0 rfl) ?_
  refine g_get C i_B hP hk.1.1 rfl 4 (by decide) wd_35 rfl rfl d_B_ask_2 ?_
  refine x_callv (x_runS C hN hZ hl.1 (ct_B_checkIndex (sa := sa) hl0 f q0 (nI (bRc b)) _) (cx_S C 2 wd_259 wd_260 wd_1 wd_261 rfl rfl (by decide +kernel) ⟨Nat.le_of_ble_eq_true rfl, Nat.le_of_ble_eq_true rfl⟩) hP hS hA0 rfl rfl (Nat.le_of_ble_eq_true rfl) d_B_ask_5 ⟨Nat.le_of_ble_eq_true rfl, Nat.le_of_ble_eq_true rfl⟩) hP hS hA0 (fun E ce q9 H locs hE hP hS h1 h2 h3 => x_out C hex hP hS (Or.inl ⟨hE.1, fun z9 => hE.2 ((ix_chk (by omega)).mpr z9.1)⟩) h1 h2 h3 (Nat.le_of_ble_eq_true rfl) (Nat.le_of_ble_eq_true rfl)) (fun f1 H locs hq hP hS => ?_)
  obtain ⟨hu, q_z⟩ := hq
  obtain ⟨i, hi, rfl⟩ := (ix_chk (n := (bRc b)) (by omega)).mp q_z
  rw [hu] at hP
  refine lv_iload_n hx hb d_B_ask_8 rfl (lv_at hl 2 rfl) ?_
  refine lv_bipush (v := 12) hx hb d_B_ask_9 (by decide) ?_
  refine x_callv (x_runS C hN hZ hl.1 (ct_B_checkIndex (sa := sa) hl0 f n0 (nI 12) _) (cx_S C 2 wd_259 wd_260 wd_1 wd_261 rfl rfl (by decide +kernel) ⟨Nat.le_of_ble_eq_true rfl, Nat.le_of_ble_eq_true rfl⟩) hP hS hA0 rfl rfl (Nat.le_of_ble_eq_true rfl) d_B_ask_11 ⟨Nat.le_of_ble_eq_true rfl, Nat.le_of_ble_eq_true rfl⟩) hP hS hA0 (fun E ce q9 H locs hE hP hS h1 h2 h3 => x_out C hex hP hS (Or.inl ⟨hE.1, fun z9 => hE.2 ((ix_chk (n := 12) (by omega)).mpr z9.2)⟩) h1 h2 h3 (Nat.le_of_ble_eq_true rfl) (Nat.le_of_ble_eq_true rfl)) (fun f3 H locs hq hP hS => ?_)
  obtain ⟨hu, q_z⟩ := hq
  obtain ⟨j, hj, rfl⟩ := (ix_chk (n := 12) (by omega)).mp q_z
  rw [hu] at hP
  refine lv_iload_n hx hb d_B_ask_14 rfl (lv_at hl 3 rfl) ?_
  refine lv_i2l (v := h0.toInt64) hx hb d_B_ask_15 rfl ?_
  refine lv_ldc2 hx hb hown (C.w wd_295) d_B_ask_16 ?_
  refine lv_ldc2 hx hb hown (C.w wd_303) d_B_ask_19 ?_
  refine x_callv (x_runS C hN hZ hl.1 (ct_B_checkNumber (sa := sa) hl0 f (h0).toInt64 (-1) 2 _) (cx_S C 3 wd_75 wd_76 wd_1 wd_77 rfl rfl (by decide +kernel) ⟨Nat.le_of_ble_eq_true rfl, Nat.le_of_ble_eq_true rfl⟩) hP hS hA0 rfl rfl (Nat.le_of_ble_eq_true rfl) d_B_ask_22 ⟨Nat.le_of_ble_eq_true rfl, Nat.le_of_ble_eq_true rfl⟩) hP hS hA0 (fun E ce q9 H locs hE hP hS h1 h2 h3 => x_out C hex hP hS (Or.inr ⟨hE.1, ⟨⟨i, hi, rfl⟩, ⟨j, hj, rfl⟩⟩, fun z9 => hE.2 ((nu_chk (by decide) (by decide)).mpr z9)⟩) h1 h2 h3 (Nat.le_of_ble_eq_true rfl) (Nat.le_of_ble_eq_true rfl)) (fun f5 H locs hq hP hS => ?_)
  obtain ⟨hu, q_z⟩ := hq
  have hh0 : (-1 : Int32) ≤ h0 ∧ h0 ≤ 2 := (nu_chk (by decide) (by decide)).mp q_z
  rw [hu] at hP
  have hh1 := ask_4 hh0
  refine lv_iload_n hx hb d_B_ask_25 rfl (lv_at hl 1 rfl) ?_
  refine lv_bipush (v := 12) hx hb d_B_ask_26 (by decide) ?_
  refine lv_imul hx hb d_B_ask_28 ?_
  refine g_eqi (y := nI (i * 12)) (pk_mul _ _) ?_
  refine lv_iload_n hx hb d_B_ask_29 rfl (lv_at hl 2 rfl) ?_
  refine lv_iadd hx hb d_B_ask_30 ?_
  refine g_eqi (y := nI (i * 12 + j)) (nI_add _ _) ?_
  refine lv_istore (lv' := [(4, .int (nI (i * 12 + j))), (0, .ref x), (1, .int (nI i)), (2, .int (nI j)), (3, .int h0)]) hx hb d_B_ask_31 hl (by decide) rfl (fun ls hl => ?_)
  refine lv_aload_n hx hb d_B_ask_33 rfl (lv_at hl 1 rfl) ?_
  refine g_get C i_B hP hk.1.1 rfl 3 (by decide) wd_34 rfl rfl d_B_ask_34 ?_
  refine lv_iload hx hb d_B_ask_37 (lv_at hl 0 rfl) ?_
  refine g_ialdN C hP hk.1.2.2.2.1 (j := (i * 12 + j)) (by omega) (by decide) d_B_ask_39 ?_
  refine lv_iload_n hx hb d_B_ask_40 rfl (lv_at hl 4 rfl) ?_
  refine lv_icmp_eq (tgt := 48) hx hb d_B_ask_41 (by decide) (fun c_41 => ?_) (fun c_41 => ?_)
  · have q_1 : bAs b (i * 12 + j) = h0 := c_41
    refine lv_iconst (v := 0) hx hb d_B_ask_48 (by decide) ?_
    refine lv_istore (lv' := [(5, .int 0), (4, .int (nI (i * 12 + j))), (0, .ref x), (1, .int (nI i)), (2, .int (nI j)), (3, .int h0)]) hx hb d_B_ask_49 hl (by decide) rfl (fun ls hl => ?_)
    refine lv_aload_n hx hb d_B_ask_51 rfl (lv_at hl 2 rfl) ?_
    refine g_get C i_B hP hk.1.1 rfl 3 (by decide) wd_34 rfl rfl d_B_ask_52 ?_
    refine lv_iload hx hb d_B_ask_55 (lv_at hl 1 rfl) ?_
    refine lv_iload_n hx hb d_B_ask_57 rfl (lv_at hl 5 rfl) ?_
    refine g_iastN C hP hS hk.1.2.2.2.1 (j := (i * 12 + j)) (by omega) (by decide) d_B_ask_58 (fun H locs hP hS => ?_)
    obtain ⟨g8, eg8⟩ : ∃ z99, z99 = upd (bAs b) (i * 12 + j) h0 := ⟨_, rfl⟩
    rw [← eg8] at hP
    obtain ⟨f7, ef7⟩ : ∃ z99, z99 = va_up f (aAs a) (some (aI G 120 g8)) := ⟨_, rfl⟩
    replace hP : hH G (hA f s.heap.size) f7 H := by rw [ef7]; exact hP
    have hk11_f7 := (hm_up (v := some (aI G 120 g8)) ef7 (hm_ne hk.1.1 hk.1.2.2.2.1 (by simp))).trans hk.1.1
    have hk121_f7 := (hm_up (v := some (aI G 120 g8)) ef7 (hm_ne hk.1.2.1 hk.1.2.2.2.1 (by simp))).trans hk.1.2.1
    have hk1221_f7 := (hm_up (v := some (aI G 120 g8)) ef7 (hm_ne hk.1.2.2.1 hk.1.2.2.2.1 (by simp))).trans hk.1.2.2.1
    have hk12221_f7 : f7 (aAs a) = some (aI G 120 g8) := by rw [ef7]; exact va_up_self _ _ _
    have hk122221_f7 := (hm_up (v := some (aI G 120 g8)) ef7 (hm_ne hk.1.2.2.2.2.1 hk.1.2.2.2.1 (by simp))).trans hk.1.2.2.2.2.1
    have hk122222_f7 := (hm_up (v := some (aI G 120 g8)) ef7 (hm_ne hk.1.2.2.2.2.2 hk.1.2.2.2.1 (by simp))).trans hk.1.2.2.2.2.2
    refine lv_iload hx hb d_B_ask_59 (lv_at hl 0 rfl) ?_
    rw [upd_va] at eg8
    subst eg8
    refine vx_ret ?_
    exact g_zret C (by first | exact Or.inl rfl | exact Or.inr rfl) hP hS (⟨⟨⟨i, hi, rfl⟩, ⟨j, hj, rfl⟩⟩, hh0, a, bAsS b (i * 12 + j) h0, bk_six hk (by rw [ef7]; refine hE.up ?_ (by simp); exact hE.rf) ⟨hk11_f7, hk121_f7, hk1221_f7, hk12221_f7, hk122221_f7, hk122222_f7⟩ rfl rfl ⟨hk.2.2.2.2.1, hk.2.2.2.2.2.1, hk.2.2.2.2.2.2.1, up_all (P := fun _ z => z = -1 ∨ z = 0 ∨ z = 1 ∨ z = 2) hk.2.2.2.2.2.2.2.1 hh1, hk.2.2.2.2.2.2.2.2⟩, i, j, hi, rfl, hj, rfl, hh1, by rw [if_pos q_1], rfl⟩) (Nat.le_of_ble_eq_true rfl) (Nat.le_of_ble_eq_true rfl) d_B_ask_61
  · have q_1 : ¬ bAs b (i * 12 + j) = h0 := c_41
    refine lv_iconst (v := 1) hx hb d_B_ask_44 (by decide) ?_
    refine lv_goto (tgt := 49) hx hb d_B_ask_45 (by decide) ?_
    refine lv_istore (lv' := [(5, .int 1), (4, .int (nI (i * 12 + j))), (0, .ref x), (1, .int (nI i)), (2, .int (nI j)), (3, .int h0)]) hx hb d_B_ask_49 hl (by decide) rfl (fun ls hl => ?_)
    refine lv_aload_n hx hb d_B_ask_51 rfl (lv_at hl 2 rfl) ?_
    refine g_get C i_B hP hk.1.1 rfl 3 (by decide) wd_34 rfl rfl d_B_ask_52 ?_
    refine lv_iload hx hb d_B_ask_55 (lv_at hl 1 rfl) ?_
    refine lv_iload_n hx hb d_B_ask_57 rfl (lv_at hl 5 rfl) ?_
    refine g_iastN C hP hS hk.1.2.2.2.1 (j := (i * 12 + j)) (by omega) (by decide) d_B_ask_58 (fun H locs hP hS => ?_)
    obtain ⟨g10, eg10⟩ : ∃ z99, z99 = upd (bAs b) (i * 12 + j) h0 := ⟨_, rfl⟩
    rw [← eg10] at hP
    obtain ⟨f9, ef9⟩ : ∃ z99, z99 = va_up f (aAs a) (some (aI G 120 g10)) := ⟨_, rfl⟩
    replace hP : hH G (hA f s.heap.size) f9 H := by rw [ef9]; exact hP
    have hk11_f9 := (hm_up (v := some (aI G 120 g10)) ef9 (hm_ne hk.1.1 hk.1.2.2.2.1 (by simp))).trans hk.1.1
    have hk121_f9 := (hm_up (v := some (aI G 120 g10)) ef9 (hm_ne hk.1.2.1 hk.1.2.2.2.1 (by simp))).trans hk.1.2.1
    have hk1221_f9 := (hm_up (v := some (aI G 120 g10)) ef9 (hm_ne hk.1.2.2.1 hk.1.2.2.2.1 (by simp))).trans hk.1.2.2.1
    have hk12221_f9 : f9 (aAs a) = some (aI G 120 g10) := by rw [ef9]; exact va_up_self _ _ _
    have hk122221_f9 := (hm_up (v := some (aI G 120 g10)) ef9 (hm_ne hk.1.2.2.2.2.1 hk.1.2.2.2.1 (by simp))).trans hk.1.2.2.2.2.1
    have hk122222_f9 := (hm_up (v := some (aI G 120 g10)) ef9 (hm_ne hk.1.2.2.2.2.2 hk.1.2.2.2.1 (by simp))).trans hk.1.2.2.2.2.2
    refine lv_iload hx hb d_B_ask_59 (lv_at hl 0 rfl) ?_
    rw [upd_va] at eg10
    subst eg10
    refine vx_ret ?_
    exact g_zret C (by first | exact Or.inl rfl | exact Or.inr rfl) hP hS (⟨⟨⟨i, hi, rfl⟩, ⟨j, hj, rfl⟩⟩, hh0, a, bAsS b (i * 12 + j) h0, bk_six hk (by rw [ef9]; refine hE.up ?_ (by simp); exact hE.rf) ⟨hk11_f9, hk121_f9, hk1221_f9, hk12221_f9, hk122221_f9, hk122222_f9⟩ rfl rfl ⟨hk.2.2.2.2.1, hk.2.2.2.2.2.1, hk.2.2.2.2.2.2.1, up_all (P := fun _ z => z = -1 ∨ z = 0 ∨ z = 1 ∨ z = 2) hk.2.2.2.2.2.2.2.1 hh1, hk.2.2.2.2.2.2.2.2⟩, i, j, hi, rfl, hj, rfl, hh1, by rw [if_neg q_1], rfl⟩) (Nat.le_of_ble_eq_true rfl) (Nat.le_of_ble_eq_true rfl) d_B_ask_61
set_option maxHeartbeats 4000000 in
set_option maxRecDepth 100000 in
theorem ct_B_stock {l : Launch} {G : hG} {sa : xS} (hl0 : l.stackTraces = false) (f : hm) (x : Nat) (a : AD) (b : BD) (hk : bk G f x a b) (p0 n0 : Int32) : xi_ l G sa y_B_stock w_B_stock { frames := 7, cells := 2, slots := 12, locals := 120 } [.ref x, .int p0, .int n0] f (fun r u => okx p0 (bN b) ∧ N_stock n0 ∧ ∃ a1 b1, bk G u x a1 b1 ∧ K_stock b p0 n0 r b1) (bad (okx p0 (bN b)) (N_stock n0)) := by
  intro sz
  refine x_ofW (cc := c_B_stock) (maxL := 5) (ret := (some .boolean)) (by decide) rfl (Nat.le_of_ble_eq_true rfl) ?_
  intro p e s m below meth c ls C hex hN hZ hsz hP hl
  obtain ⟨hx, hb, hml, hown, -, -, -, -⟩ := id C
  subst hsz
  have hA0 : ∀ q, s.heap.size ≤ q → hA f s.heap.size q := hA.new
  have hS : va_S (hA f s.heap.size) s.heap s.heap [] := va_S.rf
  replace hl : lv_has ls 5 [(0, .ref x), (1, .int p0), (2, .int n0)] := hl
  have hNN : bN b ≤ 40 := hk.2.2.2.2.1.1
  have hRC : bRc b ≤ 10 := hk.2.2.2.2.1.2.1
  have hHC : bHc b ≤ 40 := hk.2.2.2.2.1.2.2
  refine lv_aload_n hx hb d_B_stock_0 rfl (lv_at hl 0 rfl) ?_
  refine lv_iload_n hx hb d_B_stock_1 rfl (lv_at hl 1 rfl) ?_
  refine x_callq (x_runV C hN hZ hl.1 (ct_B_partOf (sa := sa) hl0 f x p0 (aPa a) (bN b) _ _ _ _ _ _ _ (fun i => aAd a i 0) hNN hk.1.1 hk.1.2.1 (fun j hj => if_pos hj) _) (cx_V C 1 wd_239 wd_241 wp_1 wd_1 wd_242 rfl rfl (by decide +kernel) ⟨Nat.le_of_ble_eq_true rfl, Nat.le_of_ble_eq_true rfl⟩) hP hS hA0 hk.1.1 rfl rfl rfl (Nat.le_of_ble_eq_true rfl) d_B_stock_2 ⟨Nat.le_of_ble_eq_true rfl, Nat.le_of_ble_eq_true rfl⟩) hP hS hA0 (fun E ce q9 H locs hE hP hS h1 h2 h3 => x_out C hex hP hS (Or.inl hE) h1 h2 h3 (Nat.le_of_ble_eq_true rfl) (Nat.le_of_ble_eq_true rfl)) (fun r2 f1 H locs hq hP hS => ?_)
  obtain ⟨hu, i, hi, rfl, rfl⟩ := hq
  rw [hu] at hP
  have hp_ := hk.2.1 i hi
  have hD_ := hk.2.2.2.2.2.1 i hi
  refine lv_astore_n (lv' := [(3, .ref (aAd a i 0)), (0, .ref x), (1, .int (nI i)), (2, .int n0)]) hx hb d_B_stock_5 rfl hl (by decide) rfl (fun ls hl => ?_)
  refine lv_iload_n hx hb d_B_stock_6 rfl (lv_at hl 3 rfl) ?_
  refine lv_i2l (v := n0.toInt64) hx hb d_B_stock_7 rfl ?_
  refine lv_lconst (v := 0) hx hb d_B_stock_8 (by decide) ?_
  refine lv_ldc2 hx hb hown (C.w wd_399) d_B_stock_9 ?_
  refine x_callv (x_runS C hN hZ hl.1 (ct_B_checkNumber (sa := sa) hl0 f (n0).toInt64 0 20000 _) (cx_S C 3 wd_75 wd_76 wd_1 wd_77 rfl rfl (by decide +kernel) ⟨Nat.le_of_ble_eq_true rfl, Nat.le_of_ble_eq_true rfl⟩) hP hS hA0 rfl rfl (Nat.le_of_ble_eq_true rfl) d_B_stock_12 ⟨Nat.le_of_ble_eq_true rfl, Nat.le_of_ble_eq_true rfl⟩) hP hS hA0 (fun E ce q9 H locs hE hP hS h1 h2 h3 => x_out C hex hP hS (Or.inr ⟨hE.1, ⟨i, hi, rfl⟩, fun z9 => hE.2 ((nu_chk (by decide) (by decide)).mpr z9)⟩) h1 h2 h3 (Nat.le_of_ble_eq_true rfl) (Nat.le_of_ble_eq_true rfl)) (fun f3 H locs hq hP hS => ?_)
  obtain ⟨hu, q_z⟩ := hq
  have hn0 : (0 : Int32) ≤ n0 ∧ n0 ≤ 20000 := (nu_chk (by decide) (by decide)).mp q_z
  rw [hu] at hP
  have hN0 : N_stock n0 := hn0
  obtain ⟨v, hv2, rfl⟩ := nu_nat (n := 20000) hn0 (by decide)
  refine lv_aload_n hx hb d_B_stock_15 rfl (lv_at hl 0 rfl) ?_
  refine g_get C i_P hP hp_.1.1 rfl 2 (by decide) wd_195 rfl rfl d_B_stock_16 ?_
  refine lv_iload_n hx hb d_B_stock_19 rfl (lv_at hl 3 rfl) ?_
  refine lv_icmp_eq (tgt := 27) hx hb d_B_stock_20 (by decide) (fun c_20 => ?_) (fun c_20 => ?_)
  · have q_1 : pPc (bD b i) = v := (nI_eq (by have := hD_.1.2.1; omega) (by omega)).mp c_20
    refine lv_iconst (v := 0) hx hb d_B_stock_27 (by decide) ?_
    refine lv_istore (lv' := [(4, .int 0), (3, .ref (aAd a i 0)), (0, .ref x), (1, .int (nI i)), (2, .int (nI v))]) hx hb d_B_stock_28 hl (by decide) rfl (fun ls hl => ?_)
    refine lv_aload_n hx hb d_B_stock_30 rfl (lv_at hl 1 rfl) ?_
    refine lv_iload_n hx hb d_B_stock_31 rfl (lv_at hl 4 rfl) ?_
    refine g_put C i_P t_P t_P_ok n_P hP hS hp_.1.1 rfl 2 (by decide) wd_195 rfl rfl rfl (rfl) (Nat.le_of_ble_eq_true rfl) d_B_stock_32 (fun H locs hP hS => ?_)
    obtain ⟨f5, ef5⟩ : ∃ z99, z99 = va_up f (aAd a i 0) (some (ob 1 [.int (nI i), .int (nI (pMk (bD b i))), .int (nI v), .ref (aAd a i 1), .ref (aAd a i 2), .ref (aAd a i 3), .ref (aAd a i 7), .ref (aAd a i 11)])) := ⟨_, rfl⟩
    replace hP : hH G (hA f s.heap.size) f5 H := by rw [ef5]; exact hP
    have hp_11_f5 : f5 (aAd a i 0) = some (ob 1 [.int (nI i), .int (nI (pMk (bD b i))), .int (nI v), .ref (aAd a i 1), .ref (aAd a i 2), .ref (aAd a i 3), .ref (aAd a i 7), .ref (aAd a i 11)]) := by rw [ef5]; exact va_up_self _ _ _
    refine lv_iload hx hb d_B_stock_35 (lv_at hl 0 rfl) ?_
    have hv_ : pV G f5 (aAd a i) i (dPc (bD b i) v) (aSm a i) := pV_pc hp_ (hk.2.2.1 i · i · hi · hi ·) v ef5
    refine vx_ret ?_
    exact g_zret C (by first | exact Or.inl rfl | exact Or.inr rfl) hP hS (⟨⟨i, hi, rfl⟩, hN0, _, _, bk_upd (S := [aAd a i 0]) hk hi (by rw [ef5]; refine hE.up ?_ (by simp); exact hE.rf) (fun q hq => Or.inl ⟨0, by omega, List.mem_singleton.mp hq⟩) hv_ (Or.inl rfl) ⟨⟨hD_.1.1, hv2, hD_.1.2.2⟩, hD_.2⟩, i, v, hi, rfl, hv2, rfl, by rw [if_pos q_1], rfl⟩) (Nat.le_of_ble_eq_true rfl) (Nat.le_of_ble_eq_true rfl) d_B_stock_37
  · have q_1 : ¬ pPc (bD b i) = v := fun z9 => c_20 (by show nI _ = nI _; rw [z9])
    refine lv_iconst (v := 1) hx hb d_B_stock_23 (by decide) ?_
    refine lv_goto (tgt := 28) hx hb d_B_stock_24 (by decide) ?_
    refine lv_istore (lv' := [(4, .int 1), (3, .ref (aAd a i 0)), (0, .ref x), (1, .int (nI i)), (2, .int (nI v))]) hx hb d_B_stock_28 hl (by decide) rfl (fun ls hl => ?_)
    refine lv_aload_n hx hb d_B_stock_30 rfl (lv_at hl 1 rfl) ?_
    refine lv_iload_n hx hb d_B_stock_31 rfl (lv_at hl 4 rfl) ?_
    refine g_put C i_P t_P t_P_ok n_P hP hS hp_.1.1 rfl 2 (by decide) wd_195 rfl rfl rfl (rfl) (Nat.le_of_ble_eq_true rfl) d_B_stock_32 (fun H locs hP hS => ?_)
    obtain ⟨f6, ef6⟩ : ∃ z99, z99 = va_up f (aAd a i 0) (some (ob 1 [.int (nI i), .int (nI (pMk (bD b i))), .int (nI v), .ref (aAd a i 1), .ref (aAd a i 2), .ref (aAd a i 3), .ref (aAd a i 7), .ref (aAd a i 11)])) := ⟨_, rfl⟩
    replace hP : hH G (hA f s.heap.size) f6 H := by rw [ef6]; exact hP
    have hp_11_f6 : f6 (aAd a i 0) = some (ob 1 [.int (nI i), .int (nI (pMk (bD b i))), .int (nI v), .ref (aAd a i 1), .ref (aAd a i 2), .ref (aAd a i 3), .ref (aAd a i 7), .ref (aAd a i 11)]) := by rw [ef6]; exact va_up_self _ _ _
    refine lv_iload hx hb d_B_stock_35 (lv_at hl 0 rfl) ?_
    have hv_ : pV G f6 (aAd a i) i (dPc (bD b i) v) (aSm a i) := pV_pc hp_ (hk.2.2.1 i · i · hi · hi ·) v ef6
    refine vx_ret ?_
    exact g_zret C (by first | exact Or.inl rfl | exact Or.inr rfl) hP hS (⟨⟨i, hi, rfl⟩, hN0, _, _, bk_upd (S := [aAd a i 0]) hk hi (by rw [ef6]; refine hE.up ?_ (by simp); exact hE.rf) (fun q hq => Or.inl ⟨0, by omega, List.mem_singleton.mp hq⟩) hv_ (Or.inl rfl) ⟨⟨hD_.1.1, hv2, hD_.1.2.2⟩, hD_.2⟩, i, v, hi, rfl, hv2, rfl, by rw [if_neg q_1], rfl⟩) (Nat.le_of_ble_eq_true rfl) (Nat.le_of_ble_eq_true rfl) d_B_stock_37
set_option maxHeartbeats 4000000 in
set_option maxRecDepth 100000 in
theorem ct_B_told {l : Launch} {G : hG} {sa : xS} (hl0 : l.stackTraces = false) (f : hm) (x : Nat) (a : AD) (b : BD) (hk : bk G f x a b) (p0 n0 w0 : Int32) : xl_ l G sa y_B_told w_B_told { frames := 7, cells := 3, slots := 18, locals := 120 } [.ref x, .int p0, .int n0, .int w0] f (fun r u => I_told b p0 n0 w0 ∧ K_told b p0 n0 w0 r ∧ u = f) (fun E => E = eI ∧ ¬ I_told b p0 n0 w0) := by
  intro sz
  refine x_ofW (cc := c_B_told) (maxL := 5) (ret := (some .long)) (by decide) rfl (Nat.le_of_ble_eq_true rfl) ?_
  intro p e s m below meth c ls C hex hN hZ hsz hP hl
  obtain ⟨hx, hb, hml, hown, -, -, -, -⟩ := id C
  subst hsz
  have hA0 : ∀ q, s.heap.size ≤ q → hA f s.heap.size q := hA.new
  have hS : va_S (hA f s.heap.size) s.heap s.heap [] := va_S.rf
  replace hl : lv_has ls 5 [(0, .ref x), (1, .int p0), (2, .int n0), (3, .int w0)] := hl
  have hNN : bN b ≤ 40 := hk.2.2.2.2.1.1
  have hRC : bRc b ≤ 10 := hk.2.2.2.2.1.2.1
  have hHC : bHc b ≤ 40 := hk.2.2.2.2.1.2.2
  refine lv_aload_n hx hb d_B_told_0 rfl (lv_at hl 0 rfl) ?_
  refine lv_iload_n hx hb d_B_told_1 rfl (lv_at hl 1 rfl) ?_
  refine x_callq (x_runV C hN hZ hl.1 (ct_B_partOf (sa := sa) hl0 f x p0 (aPa a) (bN b) _ _ _ _ _ _ _ (fun i => aAd a i 0) hNN hk.1.1 hk.1.2.1 (fun j hj => if_pos hj) _) (cx_V C 1 wd_239 wd_241 wp_1 wd_1 wd_242 rfl rfl (by decide +kernel) ⟨Nat.le_of_ble_eq_true rfl, Nat.le_of_ble_eq_true rfl⟩) hP hS hA0 hk.1.1 rfl rfl rfl (Nat.le_of_ble_eq_true rfl) d_B_told_2 ⟨Nat.le_of_ble_eq_true rfl, Nat.le_of_ble_eq_true rfl⟩) hP hS hA0 (fun E ce q9 H locs hE hP hS h1 h2 h3 => x_out C hex hP hS (⟨hE.1, fun z9 => hE.2 z9.1⟩) h1 h2 h3 (Nat.le_of_ble_eq_true rfl) (Nat.le_of_ble_eq_true rfl)) (fun r2 f1 H locs hq hP hS => ?_)
  obtain ⟨hu, i, hi, rfl, rfl⟩ := hq
  rw [hu] at hP
  have hp_ := hk.2.1 i hi
  have hD_ := hk.2.2.2.2.2.1 i hi
  refine lv_astore (lv' := [(4, .ref (aAd a i 0)), (0, .ref x), (1, .int (nI i)), (2, .int n0), (3, .int w0)]) hx hb d_B_told_5 hl (by decide) rfl (fun ls hl => ?_)
  refine lv_iload_n hx hb d_B_told_7 rfl (lv_at hl 3 rfl) ?_
  refine lv_bipush (v := 12) hx hb d_B_told_8 (by decide) ?_
  refine x_callv (x_runS C hN hZ hl.1 (ct_B_checkIndex (sa := sa) hl0 f n0 (nI 12) _) (cx_S C 2 wd_259 wd_260 wd_1 wd_261 rfl rfl (by decide +kernel) ⟨Nat.le_of_ble_eq_true rfl, Nat.le_of_ble_eq_true rfl⟩) hP hS hA0 rfl rfl (Nat.le_of_ble_eq_true rfl) d_B_told_10 ⟨Nat.le_of_ble_eq_true rfl, Nat.le_of_ble_eq_true rfl⟩) hP hS hA0 (fun E ce q9 H locs hE hP hS h1 h2 h3 => x_out C hex hP hS (⟨hE.1, fun z9 => hE.2 ((ix_chk (n := 12) (by omega)).mpr z9.2.1)⟩) h1 h2 h3 (Nat.le_of_ble_eq_true rfl) (Nat.le_of_ble_eq_true rfl)) (fun f3 H locs hq hP hS => ?_)
  obtain ⟨hu, q_z⟩ := hq
  obtain ⟨j, hj, rfl⟩ := (ix_chk (n := 12) (by omega)).mp q_z
  rw [hu] at hP
  refine lv_iload_n hx hb d_B_told_13 rfl (lv_at hl 4 rfl) ?_
  refine lv_iconst (v := 2) hx hb d_B_told_14 (by decide) ?_
  refine x_callv (x_runS C hN hZ hl.1 (ct_B_checkIndex (sa := sa) hl0 f w0 (nI 2) _) (cx_S C 2 wd_259 wd_260 wd_1 wd_261 rfl rfl (by decide +kernel) ⟨Nat.le_of_ble_eq_true rfl, Nat.le_of_ble_eq_true rfl⟩) hP hS hA0 rfl rfl (Nat.le_of_ble_eq_true rfl) d_B_told_15 ⟨Nat.le_of_ble_eq_true rfl, Nat.le_of_ble_eq_true rfl⟩) hP hS hA0 (fun E ce q9 H locs hE hP hS h1 h2 h3 => x_out C hex hP hS (⟨hE.1, fun z9 => hE.2 ((ix_chk (n := 2) (by omega)).mpr z9.2.2)⟩) h1 h2 h3 (Nat.le_of_ble_eq_true rfl) (Nat.le_of_ble_eq_true rfl)) (fun f5 H locs hq hP hS => ?_)
  obtain ⟨hu, q_z⟩ := hq
  obtain ⟨k, hk1, rfl⟩ := (ix_chk (n := 2) (by omega)).mp q_z
  rw [hu] at hP
  refine lv_aload hx hb d_B_told_18 (lv_at hl 0 rfl) ?_
  refine lv_iload_n hx hb d_B_told_20 rfl (lv_at hl 3 rfl) ?_
  refine g_calli (g_runV C hl.1 (ct_P_has f _ _ _ _ _ _ _ _ _ hp_.1.1 _ hp_.1.2.2.1 j hj _) (cx_V C 1 wd_291 wd_292 wd_293 wd_8 wd_294 rfl rfl (by decide +kernel) ⟨Nat.le_of_ble_eq_true rfl, Nat.le_of_ble_eq_true rfl⟩) hP hp_.1.1 rfl rfl rfl (Nat.le_of_ble_eq_true rfl) d_B_told_21 ⟨Nat.le_of_ble_eq_true rfl, Nat.le_of_ble_eq_true rfl⟩) hP hS hA0 (fun r8 f7 H locs hq hP hS => ?_)
  obtain ⟨rfl, hu⟩ := hq
  rw [hu] at hP
  refine lv_if_ne (tgt := 31) hx hb d_B_told_24 (by decide) (fun c_24 => ?_) (fun c_24 => ?_)
  · have q_1 : ¬ pVb (bD b i) j = 0 := fun z9 => c_24 (if_pos (by show lN _ = 0; rw [z9]; rfl))
    refine lv_iload_n hx hb d_B_told_31 rfl (lv_at hl 4 rfl) ?_
    refine lv_if_ne (tgt := 45) hx hb d_B_told_32 (by decide) (fun c_32 => ?_) (fun c_32 => ?_)
    · have q_2 : ¬ k = 0 := fun z9 => c_32 (by rw [z9]; rfl)
      refine lv_aload hx hb d_B_told_45 (lv_at hl 0 rfl) ?_
      refine g_get C i_P hP hp_.1.1 rfl 4 (by decide) wd_199 rfl rfl d_B_told_47 ?_
      refine lv_iload_n hx hb d_B_told_50 rfl (lv_at hl 3 rfl) ?_
      refine g_laldN C hP hp_.1.2.2.1 (j := j) (hj) (by decide) d_B_told_51 ?_
      refine vx_ret ?_
      exact g_lret C hP hS (⟨⟨⟨i, hi, rfl⟩, ⟨j, hj, rfl⟩, ⟨k, hk1, rfl⟩⟩, ⟨i, j, k, hi, rfl, hj, rfl, hk1, rfl, by rw [if_neg q_1, if_neg q_2]⟩, rfl⟩) (Nat.le_of_ble_eq_true rfl) (Nat.le_of_ble_eq_true rfl) d_B_told_52
    · have q_2 : k = 0 := (nI_eq (b := 0) (by omega) (by omega)).mp c_32
      refine lv_aload hx hb d_B_told_35 (lv_at hl 0 rfl) ?_
      refine g_get C i_P hP hp_.1.1 rfl 3 (by decide) wd_197 rfl rfl d_B_told_37 ?_
      refine lv_iload_n hx hb d_B_told_40 rfl (lv_at hl 3 rfl) ?_
      refine g_laldN C hP hp_.1.2.1 (j := j) (hj) (by decide) d_B_told_41 ?_
      refine lv_goto (tgt := 52) hx hb d_B_told_42 (by decide) ?_
      refine vx_ret ?_
      exact g_lret C hP hS (⟨⟨⟨i, hi, rfl⟩, ⟨j, hj, rfl⟩, ⟨k, hk1, rfl⟩⟩, ⟨i, j, k, hi, rfl, hj, rfl, hk1, rfl, by rw [if_neg q_1, if_pos q_2]⟩, rfl⟩) (Nat.le_of_ble_eq_true rfl) (Nat.le_of_ble_eq_true rfl) d_B_told_52
  · have q_1 : pVb (bD b i) j = 0 := has_0 (hD_.2.1 j).2 c_24
    refine lv_ldc2 hx hb hown (C.w wd_295) d_B_told_27 ?_
    refine vx_ret ?_
    exact g_lret C hP hS (⟨⟨⟨i, hi, rfl⟩, ⟨j, hj, rfl⟩, ⟨k, hk1, rfl⟩⟩, ⟨i, j, k, hi, rfl, hj, rfl, hk1, rfl, by rw [if_pos q_1]⟩, rfl⟩) (Nat.le_of_ble_eq_true rfl) (Nat.le_of_ble_eq_true rfl) d_B_told_30
set_option maxHeartbeats 4000000 in
set_option maxRecDepth 100000 in
theorem ct_B_state {l : Launch} {G : hG} {sa : xS} (hl0 : l.stackTraces = false) (f : hm) (x : Nat) (a : AD) (b : BD) (hk : bk G f x a b) (p0 : Int32) (d0 : Int64) : xi_ l G sa y_B_state w_B_state { frames := 7, cells := 1, slots := 6, locals := 120 } [.ref x, .int p0, .long d0] f (fun r u => okx p0 (bN b) ∧ K_state b p0 d0 r ∧ u = f) (fun E => E = eI ∧ ¬ okx p0 (bN b)) := by
  intro sz
  refine x_ofW (cc := c_B_state) (maxL := 4) (ret := (some .int)) (by decide) rfl (Nat.le_of_ble_eq_true rfl) ?_
  intro p e s m below meth c ls C hex hN hZ hsz hP hl
  obtain ⟨hx, hb, hml, hown, -, -, -, -⟩ := id C
  subst hsz
  have hA0 : ∀ q, s.heap.size ≤ q → hA f s.heap.size q := hA.new
  have hS : va_S (hA f s.heap.size) s.heap s.heap [] := va_S.rf
  replace hl : lv_has ls 4 [(0, .ref x), (1, .int p0), (2, .long d0)] := hl
  have hNN : bN b ≤ 40 := hk.2.2.2.2.1.1
  have hRC : bRc b ≤ 10 := hk.2.2.2.2.1.2.1
  have hHC : bHc b ≤ 40 := hk.2.2.2.2.1.2.2
  refine lv_aload_n hx hb d_B_state_0 rfl (lv_at hl 0 rfl) ?_
  refine lv_iload_n hx hb d_B_state_1 rfl (lv_at hl 1 rfl) ?_
  refine x_callq (x_runV C hN hZ hl.1 (ct_B_partOf (sa := sa) hl0 f x p0 (aPa a) (bN b) _ _ _ _ _ _ _ (fun i => aAd a i 0) hNN hk.1.1 hk.1.2.1 (fun j hj => if_pos hj) _) (cx_V C 1 wd_239 wd_241 wp_1 wd_1 wd_242 rfl rfl (by decide +kernel) ⟨Nat.le_of_ble_eq_true rfl, Nat.le_of_ble_eq_true rfl⟩) hP hS hA0 hk.1.1 rfl rfl rfl (Nat.le_of_ble_eq_true rfl) d_B_state_2 ⟨Nat.le_of_ble_eq_true rfl, Nat.le_of_ble_eq_true rfl⟩) hP hS hA0 (fun E ce q9 H locs hE hP hS h1 h2 h3 => x_out C hex hP hS (hE) h1 h2 h3 (Nat.le_of_ble_eq_true rfl) (Nat.le_of_ble_eq_true rfl)) (fun r2 f1 H locs hq hP hS => ?_)
  obtain ⟨hu, i, hi, rfl, rfl⟩ := hq
  rw [hu] at hP
  have hp_ := hk.2.1 i hi
  have hD_ := hk.2.2.2.2.2.1 i hi
  refine lv_lload_n hx hb d_B_state_5 rfl (lv_at hl 2 rfl) ?_
  refine g_calli (g_runV C hl.1 (ct_P_stateOn f _ _ _ _ _ _ _ _ _ hp_.1.1 _ _ _ _ _ _ _ hp_.1.2.2.2.2.1 hD_.1.2.2.2.1 d0 _) (cx_V C 1 wd_415 wd_416 wd_417 wd_8 wd_418 rfl rfl (by decide +kernel) ⟨Nat.le_of_ble_eq_true rfl, Nat.le_of_ble_eq_true rfl⟩) hP hp_.1.1 rfl rfl rfl (Nat.le_of_ble_eq_true rfl) d_B_state_6 ⟨Nat.le_of_ble_eq_true rfl, Nat.le_of_ble_eq_true rfl⟩) hP hS hA0 (fun r4 f3 H locs hq hP hS => ?_)
  obtain ⟨⟨k, hk1, hk2, hk3, hk4⟩, hu⟩ := hq
  rw [hu] at hP
  have hk5 : r4 = nI (if k = 0 then 0 else pK2 (bD b i) (k - 1)) := by rw [hk4]; by_cases z : k = 0 <;> simp [z] <;> rfl
  refine vx_ret ?_
  exact g_iret C hP hS (⟨⟨i, hi, rfl⟩, ⟨i, _, hi, rfl, ⟨k, hk1, hk2, hk3, rfl⟩, hk5⟩, rfl⟩) (Nat.le_of_ble_eq_true rfl) (Nat.le_of_ble_eq_true rfl) d_B_state_9
