/-! The reference: rule, found, part, maker, told, ask, rate, stock, derate. -/
theorem cq_gt {x y z w : Nat} (h : 0 < cq_i (((100 * x : Nat) : Int) * (w : Int) - (z : Int) * (y : Int))) : ¬ (x * 100) * w ≤ z * y := fun hle => by
  have h1 : ((x * 100 : Nat) : Int) * (w : Int) ≤ (z : Int) * (y : Int) := by exact_mod_cast hle
  rw [Nat.mul_comm x 100] at h1
  unfold cq_i at h
  by_cases h2 : ((100 * x : Nat) : Int) * (w : Int) - (z : Int) * (y : Int) < 0
  · rw [if_pos h2] at h; exact absurd h (by decide)
  · rw [if_neg h2, if_neg (by omega)] at h; exact absurd h (by decide)
theorem cq_le {x y z w : Nat} (h : ¬ 0 < cq_i (((100 * x : Nat) : Int) * (w : Int) - (z : Int) * (y : Int))) : (x * 100) * w ≤ z * y := by
  have h1 : ¬ 0 < ((100 * x : Nat) : Int) * (w : Int) - (z : Int) * (y : Int) := fun z9 => h (by unfold cq_i; rw [if_neg (by omega), if_pos z9]; decide)
  rw [Nat.mul_comm x 100]
  have h2 : ((100 * x : Nat) : Int) * (w : Int) ≤ (z : Int) * (y : Int) := by omega
  exact_mod_cast h2
theorem ask_inj {x y : Int32} (h : x + 1 = y + 1) : x = y := by
  have h1 := congrArg (fun z => z - 1) h
  simpa [Int32.add_sub_cancel] using h1
theorem mR_ra {b : BD} {MK : Nat → Int32} {PL : Nat → Int32} {AB : Nat → Int64} {BE : Nat → Int64} {AS : Nat → Int32} {FP : Nat → Int32} {PC : Nat → Int32} {PF : Nat → Int32} {PT : Nat → Int64} {PU : Nat → Int32} {RA : Nat → Int64} {KC : Nat → Int32} {PK : Nat → Int32} {ST : Nat → Int32} {DC : Nat → Int32} {DY : Nat → Int64} {DS : Nat → Int32} (h : mR b MK PL AB BE AS FP PC PF PT PU RA KC PK ST DC DY DS) (j v : Nat) : mR (bRaS b j v) MK PL AB BE AS FP PC PF PT PU (vp_updL RA j (lN v)) KC PK ST DC DY DS := by
  obtain ⟨⟨h1, h2, h3, h4, h5⟩, hv, hs, hp, hk, hd⟩ := h
  exact ⟨⟨h1, h2, by rw [h3, updL_lN], h4, h5⟩, hv, hs, hp, hk, hd⟩
theorem mR_pl {b : BD} {MK : Nat → Int32} {PL : Nat → Int32} {AB : Nat → Int64} {BE : Nat → Int64} {AS : Nat → Int32} {FP : Nat → Int32} {PC : Nat → Int32} {PF : Nat → Int32} {PT : Nat → Int64} {PU : Nat → Int32} {RA : Nat → Int64} {KC : Nat → Int32} {PK : Nat → Int32} {ST : Nat → Int32} {DC : Nat → Int32} {DY : Nat → Int64} {DS : Nat → Int32} (h : mR b MK PL AB BE AS FP PC PF PT PU RA KC PK ST DC DY DS) (j v : Nat) : mR (bPlS b j v) MK (upd PL j (nI v)) AB BE AS FP PC PF PT PU RA KC PK ST DC DY DS := by
  obtain ⟨⟨h1, h2, h3, h4, h5⟩, hv, hs, hp, hk, hd⟩ := h
  exact ⟨⟨by rw [h1, upd_nI], h2, h3, h4, h5⟩, hv, hs, hp, hk, hd⟩
theorem mR_as {b : BD} {MK : Nat → Int32} {PL : Nat → Int32} {AB : Nat → Int64} {BE : Nat → Int64} {AS : Nat → Int32} {FP : Nat → Int32} {PC : Nat → Int32} {PF : Nat → Int32} {PT : Nat → Int64} {PU : Nat → Int32} {RA : Nat → Int64} {KC : Nat → Int32} {PK : Nat → Int32} {ST : Nat → Int32} {DC : Nat → Int32} {DY : Nat → Int64} {DS : Nat → Int32} (h : mR b MK PL AB BE AS FP PC PF PT PU RA KC PK ST DC DY DS) (j : Nat) (v : Int32) : mR (bAsS b j v) MK PL AB BE (upd AS j (v + 1)) FP PC PF PT PU RA KC PK ST DC DY DS := by
  obtain ⟨⟨h1, h2, h3, h4, h5⟩, hv, hs, hp, hk, hd⟩ := h
  refine ⟨⟨h1, h2, h3, fun k hk9 => ?_, h5⟩, hv, hs, hp, hk, hd⟩
  rw [upd_va]
  show va_up AS j (v + 1) k = va_up (bAs b) j v k + 1
  by_cases e : k = j
  · rw [e, va_up_self, va_up_self]
  · rw [va_up_ne _ _ e, va_up_ne _ _ e]; exact h4 k hk9
theorem set_D {b : BD} {i : Nat} {D : PD} {P : Nat → PD → Prop} {N : Nat} (h : ∀ k, k < N → k ≠ i → P k (bD b k)) (hi : P i D) : ∀ k, k < N → P k (bD (bSet b i D) k) := fun k hk => by
  show P k (va_up (bD b) i D k)
  by_cases e : k = i
  · rw [e, va_up_self]; exact hi
  · rw [va_up_ne _ _ e]; exact h k hk e
theorem set_0 {b : BD} {i : Nat} {D : PD} (h : ∀ k, bN b ≤ k → bD b k = D0 0) (hi : i < bN b) : ∀ k, bN b ≤ k → bD (bSet b i D) k = D0 0 := fun k hk => by
  show va_up (bD b) i D k = D0 0
  rw [va_up_ne _ _ (by omega)]; exact h k hk
theorem mR_st {b : BD} {MK : Nat → Int32} {PL : Nat → Int32} {AB : Nat → Int64} {BE : Nat → Int64} {AS : Nat → Int32} {FP : Nat → Int32} {PC : Nat → Int32} {PF : Nat → Int32} {PT : Nat → Int64} {PU : Nat → Int32} {RA : Nat → Int64} {KC : Nat → Int32} {PK : Nat → Int32} {ST : Nat → Int32} {DC : Nat → Int32} {DY : Nat → Int64} {DS : Nat → Int32} (h : mR b MK PL AB BE AS FP PC PF PT PU RA KC PK ST DC DY DS) (i v : Nat) (hi : i < bN b) (hN : bN b ≤ 40) : mR (bSet b i (dPc (bD b i) v)) MK PL AB BE AS FP PC PF PT PU RA KC PK (upd ST i (nI v)) DC DY DS := by
  obtain ⟨⟨h1, h2, h3, h4, h5⟩, hv, hs, hp, hk, hd⟩ := h
  refine ⟨⟨h1, h2, h3, h4, set_0 h5 hi⟩, set_D (P := fun k D => mRv D k MK AB BE) (fun k hk9 _ => hv k hk9) (hv i hi), set_D (P := fun k D => upd ST i (nI v) k = nI (pPc D)) (fun k hk9 e => (pk_un e).trans (hs k hk9)) pk_us, set_D (P := fun k D => mRp D k PC PF PT PU) (fun k hk9 _ => hp k hk9) (hp i (by omega)), set_D (P := fun k D => mRk D k KC PK) (fun k hk9 _ => hk k hk9) (hk i (by omega)), set_D (P := fun k D => mRd D k DC DY DS) (fun k hk9 _ => hd k hk9) (hd i (by omega))⟩
theorem mR_add {b : BD} {MK : Nat → Int32} {PL : Nat → Int32} {AB : Nat → Int64} {BE : Nat → Int64} {AS : Nat → Int32} {FP : Nat → Int32} {PC : Nat → Int32} {PF : Nat → Int32} {PT : Nat → Int64} {PU : Nat → Int32} {RA : Nat → Int64} {KC : Nat → Int32} {PK : Nat → Int32} {ST : Nat → Int32} {DC : Nat → Int32} {DY : Nat → Int64} {DS : Nat → Int32} (h : mR b MK PL AB BE AS FP PC PF PT PU RA KC PK ST DC DY DS) (mk : Nat) (hN : bN b < 40) : mR (bAdd b mk) (upd MK (bN b) (nI mk)) PL (fun j => if 12 * bN b ≤ j ∧ j < 12 * bN b + 12 then -1 else AB j) BE AS FP PC PF PT PU RA KC PK ST DC DY DS := by
  obtain ⟨⟨h1, h2, h3, h4, h5⟩, hv, hs, hp, hk, hd⟩ := h
  have e0 : bD b (bN b) = D0 0 := h5 _ (Nat.le_refl _)
  refine ⟨⟨h1, h2, h3, h4, fun i hi => ?_⟩, fun i hi => ?_, fun i hi => ?_, fun i hi => ?_, fun i hi => ?_, fun i hi => ?_⟩
  · have hi2 : bN b + 1 ≤ i := hi
    show va_up (bD b) (bN b) (D0 mk) i = D0 0
    rw [va_up_ne _ _ (by omega)]; exact h5 i (by omega)
  · replace hi : i < bN b + 1 := hi
    show mRv (va_up (bD b) (bN b) (D0 mk) i) i _ _ _
    by_cases e : i = bN b
    · rw [e, va_up_self]
      exact ⟨pk_us, fun n hn => ⟨by show (if _ then (-1 : Int64) else _) = _; rw [if_pos (by omega)]; rfl, fun z => absurd rfl z⟩⟩
    · rw [va_up_ne _ _ e]
      obtain ⟨g1, g2⟩ := hv i (by omega)
      exact ⟨(pk_un e).trans g1, fun n hn => ⟨by show (if _ then (-1 : Int64) else _) = _; rw [if_neg (by omega)]; exact (g2 n hn).1, (g2 n hn).2⟩⟩
  · show ST i = nI (pPc (va_up (bD b) (bN b) (D0 mk) i))
    by_cases e : i = bN b
    · rw [e, va_up_self]; have := hs (bN b) hN; rw [e0] at this; exact this
    · rw [va_up_ne _ _ e]; exact hs i hi
  · show mRp (va_up (bD b) (bN b) (D0 mk) i) i _ _ _ _
    by_cases e : i = bN b
    · rw [e, va_up_self]; have := hp (bN b) hN; rw [e0] at this; exact this
    · rw [va_up_ne _ _ e]; exact hp i hi
  · show mRk (va_up (bD b) (bN b) (D0 mk) i) i _ _
    by_cases e : i = bN b
    · rw [e, va_up_self]; have := hk (bN b) hN; rw [e0] at this; exact this
    · rw [va_up_ne _ _ e]; exact hk i hi
  · show mRd (va_up (bD b) (bN b) (D0 mk) i) i _ _ _
    by_cases e : i = bN b
    · rw [e, va_up_self]; have := hd (bN b) hN; rw [e0] at this; exact this
    · rw [va_up_ne _ _ e]; exact hd i hi
set_option maxHeartbeats 4000000 in
set_option maxRecDepth 100000 in
theorem ct_M_rule {l : Launch} {G : hG} (f : hm) (y : Nat) (ca : Nat → Nat) (b : BD) (hok : bOK b) (th : Int32) (bc : Int64) (cp : Int32) (hm : mS G f y ca b th bc cp) (r0 : Int32) (b1 : BD) (hK0 : True → True → K_rule b r0 b1) : ci_ l G y_M_rule w_M_rule { frames := 2, cells := 0, slots := 0, locals := 120 } [.ref y] f (fun r u => ∃ th2 b2 bc2 cp2, mS G u y ca b2 th2 bc2 cp2 ∧ mp (True) (True) b b1 (r = r0) th2 b2) := by
  intro sz
  refine h_ofW (cc := c_M_rule) (maxL := 1) (ret := (some .int)) (by decide) rfl (Nat.le_of_ble_eq_true rfl) ?_
  intro p e s m below meth c ls C hin hsz hP hl
  obtain ⟨hx, hb, hml, hown, -, -, -, -⟩ := id C
  subst hsz
  have hA0 : ∀ q, s.heap.size ≤ q → hA f s.heap.size q := hA.new
  have hS : va_S (hA f s.heap.size) s.heap s.heap [] := va_S.rf
  replace hl : lv_has ls 1 [(0, .ref y)] := hl
  obtain ⟨MK, PL, AB, BE, AS, FP, PC, PF, PT, PU, RA, KC, PK, ST, DC, DY, DS, SU, hv, hR⟩ := hm
  have hNN : bN b ≤ 40 := hok.1.1
  have hRC : bRc b ≤ 10 := hok.1.2.1
  have hHC : bHc b ≤ 40 := hok.1.2.2
  refine lv_aload_n hx hb d_M_rule_0 rfl (lv_at hl 0 rfl) ?_
  refine lv_iconst (v := 0) hx hb d_M_rule_1 (by decide) ?_
  refine g_put C i_M t_M t_M_ok n_M hP hS hv.1 rfl 0 (by decide) wd_506 rfl rfl rfl (rfl) (Nat.le_of_ble_eq_true rfl) d_M_rule_2 (fun H locs hP hS => ?_)
  obtain ⟨f1, ef1⟩ : ∃ z99, z99 = va_up f y (some (ob 4 [.int 0, .int (nI (bN b)), .ref (ca 0), .ref (ca 1), .ref (ca 2), .ref (ca 3), .int (nI (bRc b)), .ref (ca 4), .int (nI (bHc b)), .ref (ca 5), .ref (ca 6), .ref (ca 7), .ref (ca 8), .ref (ca 9), .ref (ca 10), .ref (ca 11), .ref (ca 12), .ref (ca 13), .ref (ca 14), .ref (ca 15), .ref (ca 16), .ref (ca 17), .long bc, .int cp])) := ⟨_, rfl⟩
  replace hP : hH G (hA f s.heap.size) f1 H := by rw [ef1]; exact hP
  have hv_f1 : mv G f1 y ca 0 (nI (bN b)) (nI (bRc b)) (nI (bHc b)) bc cp MK PL AB BE AS FP PC PF PT PU RA KC PK ST DC DY DS SU := by rw [ef1]; exact mv_y hv _ _ _ _ _ _
  refine lv_aload_n hx hb d_M_rule_5 rfl (lv_at hl 0 rfl) ?_
  refine g_get C i_M hP hv_f1.1 rfl 6 (by decide) wd_512 rfl rfl d_M_rule_6 ?_
  refine lv_bipush (v := 10) hx hb d_M_rule_9 (by decide) ?_
  refine lv_icmp_ne (tgt := 16) hx hb d_M_rule_11 (by decide) (fun c_11 => ?_) (fun c_11 => ?_)
  · have q_1 : bRc b < 10 := by have : bRc b ≠ 10 := fun z9 => c_11 (by rw [z9]; rfl); omega
    refine lv_aload_n hx hb d_M_rule_16 rfl (lv_at hl 0 rfl) ?_
    refine lv_dup hx hb d_M_rule_17 rfl ?_
    refine g_get C i_M hP hv_f1.1 rfl 6 (by decide) wd_512 rfl rfl d_M_rule_18 ?_
    refine lv_iconst (v := 1) hx hb d_M_rule_21 (by decide) ?_
    refine lv_iadd hx hb d_M_rule_22 ?_
    refine g_eqi (y := nI (bRc b + 1)) (nI_1 _) ?_
    refine g_put C i_M t_M t_M_ok n_M hP hS hv_f1.1 rfl 6 (by decide) wd_512 rfl rfl rfl (rfl) (Nat.le_of_ble_eq_true rfl) d_M_rule_23 (fun H locs hP hS => ?_)
    obtain ⟨f2, ef2⟩ : ∃ z99, z99 = va_up f1 y (some (ob 4 [.int 0, .int (nI (bN b)), .ref (ca 0), .ref (ca 1), .ref (ca 2), .ref (ca 3), .int (nI (bRc b + 1)), .ref (ca 4), .int (nI (bHc b)), .ref (ca 5), .ref (ca 6), .ref (ca 7), .ref (ca 8), .ref (ca 9), .ref (ca 10), .ref (ca 11), .ref (ca 12), .ref (ca 13), .ref (ca 14), .ref (ca 15), .ref (ca 16), .ref (ca 17), .long bc, .int cp])) := ⟨_, rfl⟩
    replace hP : hH G (hA f s.heap.size) f2 H := by rw [ef2]; exact hP
    have hv_f2 : mv G f2 y ca 0 (nI (bN b)) (nI (bRc b + 1)) (nI (bHc b)) bc cp MK PL AB BE AS FP PC PF PT PU RA KC PK ST DC DY DS SU := by rw [ef2]; exact mv_y hv_f1 _ _ _ _ _ _
    refine lv_aload_n hx hb d_M_rule_26 rfl (lv_at hl 0 rfl) ?_
    refine g_get C i_M hP hv_f2.1 rfl 6 (by decide) wd_512 rfl rfl d_M_rule_27 ?_
    refine lv_iconst (v := 1) hx hb d_M_rule_30 (by decide) ?_
    refine lv_isub hx hb d_M_rule_31 ?_
    obtain ⟨e1, rfl⟩ : r0 = nI (bRc b) ∧ b1 = bRcS b (bRc b + 1) := by rcases hK0 trivial trivial with z | z; exact z.2; exact absurd q_1 z.1
    exact g_iret C hP hS (⟨0, bRcS b (bRc b + 1), bc, cp, ⟨MK, PL, AB, BE, AS, FP, PC, PF, PT, PU, RA, KC, PK, ST, DC, DY, DS, SU, hv_f2, hR⟩, Or.inl ⟨trivial, trivial, rfl, rfl, (nI_pred _).trans e1.symm⟩⟩) (Nat.le_of_ble_eq_true rfl) (Nat.le_of_ble_eq_true rfl) d_M_rule_32
  · have q_1 : ¬ bRc b < 10 := by have := (nI_eq (b := 10) (by omega) (by decide)).mp c_11; omega
    refine lv_iconst (v := (-1)) hx hb d_M_rule_14 (by decide) ?_
    obtain ⟨e1, eb⟩ : r0 = -1 ∧ b1 = b := by rcases hK0 trivial trivial with z | z; exact absurd z.1 q_1; exact z.2
    exact g_iret C hP hS (⟨0, b, bc, cp, ⟨MK, PL, AB, BE, AS, FP, PC, PF, PT, PU, RA, KC, PK, ST, DC, DY, DS, SU, hv_f1, hR⟩, Or.inl ⟨trivial, trivial, rfl, eb.symm, e1.symm⟩⟩) (Nat.le_of_ble_eq_true rfl) (Nat.le_of_ble_eq_true rfl) d_M_rule_15
set_option maxHeartbeats 4000000 in
set_option maxRecDepth 100000 in
theorem ct_M_found {l : Launch} {G : hG} (f : hm) (y : Nat) (ca : Nat → Nat) (b : BD) (hok : bOK b) (th : Int32) (bc : Int64) (cp : Int32) (hm : mS G f y ca b th bc cp) (k0 : Int32) (r0 : Int32) (b1 : BD) (hK0 : True → True → K_found b k0 r0 ∧ b1 = b) : ci_ l G y_M_found w_M_found { frames := 2, cells := 0, slots := 0, locals := 120 } [.ref y, .int k0] f (fun r u => ∃ th2 b2 bc2 cp2, mS G u y ca b2 th2 bc2 cp2 ∧ mp (True) (True) b b1 (r = r0) th2 b2) := by
  intro sz
  refine h_ofW (cc := c_M_found) (maxL := 2) (ret := (some .int)) (by decide) rfl (Nat.le_of_ble_eq_true rfl) ?_
  intro p e s m below meth c ls C hin hsz hP hl
  obtain ⟨hx, hb, hml, hown, -, -, -, -⟩ := id C
  subst hsz
  have hA0 : ∀ q, s.heap.size ≤ q → hA f s.heap.size q := hA.new
  have hS : va_S (hA f s.heap.size) s.heap s.heap [] := va_S.rf
  replace hl : lv_has ls 2 [(0, .ref y), (1, .int k0)] := hl
  obtain ⟨MK, PL, AB, BE, AS, FP, PC, PF, PT, PU, RA, KC, PK, ST, DC, DY, DS, SU, hv, hR⟩ := hm
  have hNN : bN b ≤ 40 := hok.1.1
  have hRC : bRc b ≤ 10 := hok.1.2.1
  have hHC : bHc b ≤ 40 := hok.1.2.2
  refine lv_aload_n hx hb d_M_found_0 rfl (lv_at hl 0 rfl) ?_
  refine lv_iconst (v := 0) hx hb d_M_found_1 (by decide) ?_
  refine g_put C i_M t_M t_M_ok n_M hP hS hv.1 rfl 0 (by decide) wd_506 rfl rfl rfl (rfl) (Nat.le_of_ble_eq_true rfl) d_M_found_2 (fun H locs hP hS => ?_)
  obtain ⟨f1, ef1⟩ : ∃ z99, z99 = va_up f y (some (ob 4 [.int 0, .int (nI (bN b)), .ref (ca 0), .ref (ca 1), .ref (ca 2), .ref (ca 3), .int (nI (bRc b)), .ref (ca 4), .int (nI (bHc b)), .ref (ca 5), .ref (ca 6), .ref (ca 7), .ref (ca 8), .ref (ca 9), .ref (ca 10), .ref (ca 11), .ref (ca 12), .ref (ca 13), .ref (ca 14), .ref (ca 15), .ref (ca 16), .ref (ca 17), .long bc, .int cp])) := ⟨_, rfl⟩
  replace hP : hH G (hA f s.heap.size) f1 H := by rw [ef1]; exact hP
  have hv_f1 : mv G f1 y ca 0 (nI (bN b)) (nI (bRc b)) (nI (bHc b)) bc cp MK PL AB BE AS FP PC PF PT PU RA KC PK ST DC DY DS SU := by rw [ef1]; exact mv_y hv _ _ _ _ _ _
  refine lv_iload_n hx hb d_M_found_5 rfl (lv_at hl 1 rfl) ?_
  refine lv_if_lt (tgt := 26) hx hb d_M_found_6 (by decide) (fun c_6 => ?_) (fun c_6 => ?_)
  · refine lv_iconst (v := (-1)) hx hb d_M_found_26 (by decide) ?_
    obtain ⟨hK1, eb⟩ := hK0 trivial trivial
    exact g_iret C hP hS (⟨0, b, bc, cp, ⟨MK, PL, AB, BE, AS, FP, PC, PF, PT, PU, RA, KC, PK, ST, DC, DY, DS, SU, hv_f1, hR⟩, Or.inl ⟨trivial, trivial, rfl, eb.symm, by rcases hK1 with ⟨j2, g1, g2, g3⟩ | ⟨-, g1⟩; exfalso; (have z8 := (ix_chk (x := k0) (n := bHc b) (by omega)).mpr ⟨j2, g1, g2⟩; first | exact z8.1 c_6 | exact Int32.not_le.mpr z8.2 c_14); exact g1.symm⟩⟩) (Nat.le_of_ble_eq_true rfl) (Nat.le_of_ble_eq_true rfl) d_M_found_27
  · refine lv_iload_n hx hb d_M_found_9 rfl (lv_at hl 1 rfl) ?_
    refine lv_aload_n hx hb d_M_found_10 rfl (lv_at hl 0 rfl) ?_
    refine g_get C i_M hP hv_f1.1 rfl 8 (by decide) wd_514 rfl rfl d_M_found_11 ?_
    refine lv_icmp_ge (tgt := 26) hx hb d_M_found_14 (by decide) (fun c_14 => ?_) (fun c_14 => ?_)
    · refine lv_iconst (v := (-1)) hx hb d_M_found_26 (by decide) ?_
      obtain ⟨hK1, eb⟩ := hK0 trivial trivial
      exact g_iret C hP hS (⟨0, b, bc, cp, ⟨MK, PL, AB, BE, AS, FP, PC, PF, PT, PU, RA, KC, PK, ST, DC, DY, DS, SU, hv_f1, hR⟩, Or.inl ⟨trivial, trivial, rfl, eb.symm, by rcases hK1 with ⟨j2, g1, g2, g3⟩ | ⟨-, g1⟩; exfalso; (have z8 := (ix_chk (x := k0) (n := bHc b) (by omega)).mpr ⟨j2, g1, g2⟩; first | exact z8.1 c_6 | exact Int32.not_le.mpr z8.2 c_14); exact g1.symm⟩⟩) (Nat.le_of_ble_eq_true rfl) (Nat.le_of_ble_eq_true rfl) d_M_found_27
    · obtain ⟨j, hj, rfl⟩ := (ix_chk (x := k0) (n := bHc b) (by omega)).mp ⟨c_6, Int32.not_le.mp c_14⟩
      refine lv_aload_n hx hb d_M_found_17 rfl (lv_at hl 0 rfl) ?_
      refine g_get C i_M hP hv_f1.1 rfl 9 (by decide) wd_515 rfl rfl d_M_found_18 ?_
      refine lv_iload_n hx hb d_M_found_21 rfl (lv_at hl 1 rfl) ?_
      refine g_ialdN C hP hv_f1.2.2.2.2.2.2.1 (j := j) (by omega) (by decide) d_M_found_22 ?_
      refine g_eqi (y := nI (bHi b j)) (by rw [hR.1.2.1]) ?_
      refine lv_goto (tgt := 27) hx hb d_M_found_23 (by decide) ?_
      obtain ⟨hK1, eb⟩ := hK0 trivial trivial
      exact g_iret C hP hS (⟨0, b, bc, cp, ⟨MK, PL, AB, BE, AS, FP, PC, PF, PT, PU, RA, KC, PK, ST, DC, DY, DS, SU, hv_f1, hR⟩, Or.inl ⟨trivial, trivial, rfl, eb.symm, by rcases hK1 with ⟨j2, g1, g2, g3⟩ | ⟨g1, -⟩; rw [g3, (nI_eq (by omega) (by omega)).mp g2]; exact absurd ⟨j, hj, rfl⟩ g1⟩⟩) (Nat.le_of_ble_eq_true rfl) (Nat.le_of_ble_eq_true rfl) d_M_found_27
set_option maxHeartbeats 4000000 in
set_option maxRecDepth 100000 in
theorem ct_M_maker {l : Launch} {G : hG} (f : hm) (y : Nat) (ca : Nat → Nat) (b : BD) (hok : bOK b) (th : Int32) (bc : Int64) (cp : Int32) (hm : mS G f y ca b th bc cp) (k0 : Int32) (v0 : Int32) (r0 : Int32) (b1 : BD) (hK0 : N_maker k0 v0 → True → K_maker b k0 v0 r0 b1) : ci_ l G y_M_maker w_M_maker { frames := 2, cells := 0, slots := 0, locals := 120 } [.ref y, .int k0, .int v0] f (fun r u => ∃ th2 b2 bc2 cp2, mS G u y ca b2 th2 bc2 cp2 ∧ mp (N_maker k0 v0) (True) b b1 (r = r0) th2 b2) := by
  intro sz
  refine h_ofW (cc := c_M_maker) (maxL := 3) (ret := (some .boolean)) (by decide) rfl (Nat.le_of_ble_eq_true rfl) ?_
  intro p e s m below meth c ls C hin hsz hP hl
  obtain ⟨hx, hb, hml, hown, -, -, -, -⟩ := id C
  subst hsz
  have hA0 : ∀ q, s.heap.size ≤ q → hA f s.heap.size q := hA.new
  have hS : va_S (hA f s.heap.size) s.heap s.heap [] := va_S.rf
  replace hl : lv_has ls 3 [(0, .ref y), (1, .int k0), (2, .int v0)] := hl
  obtain ⟨MK, PL, AB, BE, AS, FP, PC, PF, PT, PU, RA, KC, PK, ST, DC, DY, DS, SU, hv, hR⟩ := hm
  have hNN : bN b ≤ 40 := hok.1.1
  have hRC : bRc b ≤ 10 := hok.1.2.1
  have hHC : bHc b ≤ 40 := hok.1.2.2
  refine lv_aload_n hx hb d_M_maker_0 rfl (lv_at hl 0 rfl) ?_
  refine lv_iload_n hx hb d_M_maker_1 rfl (lv_at hl 1 rfl) ?_
  refine lv_if_lt (tgt := 21) hx hb d_M_maker_2 (by decide) (fun c_2 => ?_) (fun c_2 => ?_)
  · refine lv_iconst (v := 1) hx hb d_M_maker_21 (by decide) ?_
    refine lv_goto (tgt := 26) hx hb d_M_maker_22 (by decide) ?_
    have hB : ¬ (N_maker k0 v0) := fun z9 => by first | exact Int32.not_lt.mpr z9.1.1 c_2 | exact Int32.not_lt.mpr z9.1.2 c_8 | exact Int32.not_lt.mpr z9.2.1 c_12 | exact c_18 z9.2.2
    refine g_put C i_M t_M t_M_ok n_M hP hS hv.1 rfl 0 (by decide) wd_506 rfl rfl rfl (rfl) (Nat.le_of_ble_eq_true rfl) d_M_maker_26 (fun H locs hP hS => ?_)
    obtain ⟨f1, ef1⟩ : ∃ z99, z99 = va_up f y (some (ob 4 [.int 1, .int (nI (bN b)), .ref (ca 0), .ref (ca 1), .ref (ca 2), .ref (ca 3), .int (nI (bRc b)), .ref (ca 4), .int (nI (bHc b)), .ref (ca 5), .ref (ca 6), .ref (ca 7), .ref (ca 8), .ref (ca 9), .ref (ca 10), .ref (ca 11), .ref (ca 12), .ref (ca 13), .ref (ca 14), .ref (ca 15), .ref (ca 16), .ref (ca 17), .long bc, .int cp])) := ⟨_, rfl⟩
    replace hP : hH G (hA f s.heap.size) f1 H := by rw [ef1]; exact hP
    have hv_f1 : mv G f1 y ca 1 (nI (bN b)) (nI (bRc b)) (nI (bHc b)) bc cp MK PL AB BE AS FP PC PF PT PU RA KC PK ST DC DY DS SU := by rw [ef1]; exact mv_y hv _ _ _ _ _ _
    refine lv_aload_n hx hb d_M_maker_29 rfl (lv_at hl 0 rfl) ?_
    refine g_get C i_M hP hv_f1.1 rfl 0 (by decide) wd_506 rfl rfl d_M_maker_30 ?_
    refine lv_if_ne (tgt := 46) hx hb d_M_maker_33 (by decide) (fun c_33 => ?_) (fun c_33 => ?_)
    · refine lv_iconst (v := 0) hx hb d_M_maker_46 (by decide) ?_
      exact g_zret C (by first | exact Or.inl rfl | exact Or.inr rfl) hP hS (⟨1, b, bc, cp, ⟨MK, PL, AB, BE, AS, FP, PC, PF, PT, PU, RA, KC, PK, ST, DC, DY, DS, SU, hv_f1, hR⟩, Or.inr (Or.inr ⟨hB, rfl, rfl⟩)⟩) (Nat.le_of_ble_eq_true rfl) (Nat.le_of_ble_eq_true rfl) d_M_maker_47
    · exact absurd c_33 (by decide)
  · refine lv_iload_n hx hb d_M_maker_5 rfl (lv_at hl 1 rfl) ?_
    refine lv_bipush (v := 15) hx hb d_M_maker_6 (by decide) ?_
    refine lv_icmp_gt (tgt := 21) hx hb d_M_maker_8 (by decide) (fun c_8 => ?_) (fun c_8 => ?_)
    · refine lv_iconst (v := 1) hx hb d_M_maker_21 (by decide) ?_
      refine lv_goto (tgt := 26) hx hb d_M_maker_22 (by decide) ?_
      have hB : ¬ (N_maker k0 v0) := fun z9 => by first | exact Int32.not_lt.mpr z9.1.1 c_2 | exact Int32.not_lt.mpr z9.1.2 c_8 | exact Int32.not_lt.mpr z9.2.1 c_12 | exact c_18 z9.2.2
      refine g_put C i_M t_M t_M_ok n_M hP hS hv.1 rfl 0 (by decide) wd_506 rfl rfl rfl (rfl) (Nat.le_of_ble_eq_true rfl) d_M_maker_26 (fun H locs hP hS => ?_)
      obtain ⟨f2, ef2⟩ : ∃ z99, z99 = va_up f y (some (ob 4 [.int 1, .int (nI (bN b)), .ref (ca 0), .ref (ca 1), .ref (ca 2), .ref (ca 3), .int (nI (bRc b)), .ref (ca 4), .int (nI (bHc b)), .ref (ca 5), .ref (ca 6), .ref (ca 7), .ref (ca 8), .ref (ca 9), .ref (ca 10), .ref (ca 11), .ref (ca 12), .ref (ca 13), .ref (ca 14), .ref (ca 15), .ref (ca 16), .ref (ca 17), .long bc, .int cp])) := ⟨_, rfl⟩
      replace hP : hH G (hA f s.heap.size) f2 H := by rw [ef2]; exact hP
      have hv_f2 : mv G f2 y ca 1 (nI (bN b)) (nI (bRc b)) (nI (bHc b)) bc cp MK PL AB BE AS FP PC PF PT PU RA KC PK ST DC DY DS SU := by rw [ef2]; exact mv_y hv _ _ _ _ _ _
      refine lv_aload_n hx hb d_M_maker_29 rfl (lv_at hl 0 rfl) ?_
      refine g_get C i_M hP hv_f2.1 rfl 0 (by decide) wd_506 rfl rfl d_M_maker_30 ?_
      refine lv_if_ne (tgt := 46) hx hb d_M_maker_33 (by decide) (fun c_33 => ?_) (fun c_33 => ?_)
      · refine lv_iconst (v := 0) hx hb d_M_maker_46 (by decide) ?_
        exact g_zret C (by first | exact Or.inl rfl | exact Or.inr rfl) hP hS (⟨1, b, bc, cp, ⟨MK, PL, AB, BE, AS, FP, PC, PF, PT, PU, RA, KC, PK, ST, DC, DY, DS, SU, hv_f2, hR⟩, Or.inr (Or.inr ⟨hB, rfl, rfl⟩)⟩) (Nat.le_of_ble_eq_true rfl) (Nat.le_of_ble_eq_true rfl) d_M_maker_47
      · exact absurd c_33 (by decide)
    · refine lv_iload_n hx hb d_M_maker_11 rfl (lv_at hl 2 rfl) ?_
      refine lv_if_lt (tgt := 21) hx hb d_M_maker_12 (by decide) (fun c_12 => ?_) (fun c_12 => ?_)
      · refine lv_iconst (v := 1) hx hb d_M_maker_21 (by decide) ?_
        refine lv_goto (tgt := 26) hx hb d_M_maker_22 (by decide) ?_
        have hB : ¬ (N_maker k0 v0) := fun z9 => by first | exact Int32.not_lt.mpr z9.1.1 c_2 | exact Int32.not_lt.mpr z9.1.2 c_8 | exact Int32.not_lt.mpr z9.2.1 c_12 | exact c_18 z9.2.2
        refine g_put C i_M t_M t_M_ok n_M hP hS hv.1 rfl 0 (by decide) wd_506 rfl rfl rfl (rfl) (Nat.le_of_ble_eq_true rfl) d_M_maker_26 (fun H locs hP hS => ?_)
        obtain ⟨f3, ef3⟩ : ∃ z99, z99 = va_up f y (some (ob 4 [.int 1, .int (nI (bN b)), .ref (ca 0), .ref (ca 1), .ref (ca 2), .ref (ca 3), .int (nI (bRc b)), .ref (ca 4), .int (nI (bHc b)), .ref (ca 5), .ref (ca 6), .ref (ca 7), .ref (ca 8), .ref (ca 9), .ref (ca 10), .ref (ca 11), .ref (ca 12), .ref (ca 13), .ref (ca 14), .ref (ca 15), .ref (ca 16), .ref (ca 17), .long bc, .int cp])) := ⟨_, rfl⟩
        replace hP : hH G (hA f s.heap.size) f3 H := by rw [ef3]; exact hP
        have hv_f3 : mv G f3 y ca 1 (nI (bN b)) (nI (bRc b)) (nI (bHc b)) bc cp MK PL AB BE AS FP PC PF PT PU RA KC PK ST DC DY DS SU := by rw [ef3]; exact mv_y hv _ _ _ _ _ _
        refine lv_aload_n hx hb d_M_maker_29 rfl (lv_at hl 0 rfl) ?_
        refine g_get C i_M hP hv_f3.1 rfl 0 (by decide) wd_506 rfl rfl d_M_maker_30 ?_
        refine lv_if_ne (tgt := 46) hx hb d_M_maker_33 (by decide) (fun c_33 => ?_) (fun c_33 => ?_)
        · refine lv_iconst (v := 0) hx hb d_M_maker_46 (by decide) ?_
          exact g_zret C (by first | exact Or.inl rfl | exact Or.inr rfl) hP hS (⟨1, b, bc, cp, ⟨MK, PL, AB, BE, AS, FP, PC, PF, PT, PU, RA, KC, PK, ST, DC, DY, DS, SU, hv_f3, hR⟩, Or.inr (Or.inr ⟨hB, rfl, rfl⟩)⟩) (Nat.le_of_ble_eq_true rfl) (Nat.le_of_ble_eq_true rfl) d_M_maker_47
        · exact absurd c_33 (by decide)
      · refine lv_iload_n hx hb d_M_maker_15 rfl (lv_at hl 2 rfl) ?_
        refine lv_bipush (v := 99) hx hb d_M_maker_16 (by decide) ?_
        refine lv_icmp_le (tgt := 25) hx hb d_M_maker_18 (by decide) (fun c_18 => ?_) (fun c_18 => ?_)
        · refine lv_iconst (v := 0) hx hb d_M_maker_25 (by decide) ?_
          have hI : N_maker k0 v0 := ⟨⟨Int32.not_lt.mp c_2, Int32.not_lt.mp c_8⟩, ⟨Int32.not_lt.mp c_12, c_18⟩⟩
          have hN : True := trivial
          obtain ⟨j, w, hj, rfl, hw, rfl, hr0, rfl⟩ := hK0 hI hN
          have hbp := hok.2.2.1 j hj
          refine g_put C i_M t_M t_M_ok n_M hP hS hv.1 rfl 0 (by decide) wd_506 rfl rfl rfl (rfl) (Nat.le_of_ble_eq_true rfl) d_M_maker_26 (fun H locs hP hS => ?_)
          obtain ⟨f4, ef4⟩ : ∃ z99, z99 = va_up f y (some (ob 4 [.int 0, .int (nI (bN b)), .ref (ca 0), .ref (ca 1), .ref (ca 2), .ref (ca 3), .int (nI (bRc b)), .ref (ca 4), .int (nI (bHc b)), .ref (ca 5), .ref (ca 6), .ref (ca 7), .ref (ca 8), .ref (ca 9), .ref (ca 10), .ref (ca 11), .ref (ca 12), .ref (ca 13), .ref (ca 14), .ref (ca 15), .ref (ca 16), .ref (ca 17), .long bc, .int cp])) := ⟨_, rfl⟩
          replace hP : hH G (hA f s.heap.size) f4 H := by rw [ef4]; exact hP
          have hv_f4 : mv G f4 y ca 0 (nI (bN b)) (nI (bRc b)) (nI (bHc b)) bc cp MK PL AB BE AS FP PC PF PT PU RA KC PK ST DC DY DS SU := by rw [ef4]; exact mv_y hv _ _ _ _ _ _
          refine lv_aload_n hx hb d_M_maker_29 rfl (lv_at hl 0 rfl) ?_
          refine g_get C i_M hP hv_f4.1 rfl 0 (by decide) wd_506 rfl rfl d_M_maker_30 ?_
          refine lv_if_ne (tgt := 46) hx hb d_M_maker_33 (by decide) (fun c_33 => ?_) (fun c_33 => ?_)
          · exact absurd c_33 (by decide)
          · refine lv_aload_n hx hb d_M_maker_36 rfl (lv_at hl 0 rfl) ?_
            refine g_get C i_M hP hv_f4.1 rfl 3 (by decide) wd_509 rfl rfl d_M_maker_37 ?_
            refine lv_iload_n hx hb d_M_maker_40 rfl (lv_at hl 1 rfl) ?_
            refine g_ialdN C hP hv_f4.2.2.1 (j := j) (hj) (by decide) d_M_maker_41 ?_
            refine g_eqi (y := nI (bPl b j)) (by rw [hR.1.1]) ?_
            refine lv_iload_n hx hb d_M_maker_42 rfl (lv_at hl 2 rfl) ?_
            refine lv_icmp_ne (tgt := 48) hx hb d_M_maker_43 (by decide) (fun c_43 => ?_) (fun c_43 => ?_)
            · have q_1 : ¬ bPl b j = w := fun z9 => c_43 (by rw [z9])
              refine lv_aload_n hx hb d_M_maker_48 rfl (lv_at hl 0 rfl) ?_
              refine g_get C i_M hP hv_f4.1 rfl 3 (by decide) wd_509 rfl rfl d_M_maker_49 ?_
              refine lv_iload_n hx hb d_M_maker_52 rfl (lv_at hl 1 rfl) ?_
              refine lv_iload_n hx hb d_M_maker_53 rfl (lv_at hl 2 rfl) ?_
              refine g_iastN C hP hS hv_f4.2.2.1 (j := j) (hj) (by decide) d_M_maker_54 (fun H locs hP hS => ?_)
              obtain ⟨g6, eg6⟩ : ∃ z99, z99 = upd PL j (nI w) := ⟨_, rfl⟩
              rw [← eg6] at hP
              obtain ⟨f5, ef5⟩ : ∃ z99, z99 = va_up f4 (ca 1) (some (aI G 16 g6)) := ⟨_, rfl⟩
              replace hP : hH G (hA f s.heap.size) f5 H := by rw [ef5]; exact hP
              have hv_f5 : mv G f5 y ca 0 (nI (bN b)) (nI (bRc b)) (nI (bHc b)) bc cp MK g6 AB BE AS FP PC PF PT PU RA KC PK ST DC DY DS SU := by rw [ef5]; exact mv_1 hv_f4 _
              refine lv_iconst (v := 1) hx hb d_M_maker_55 (by decide) ?_
              subst eg6
              exact g_zret C (by first | exact Or.inl rfl | exact Or.inr rfl) hP hS (⟨0, bPlS b j w, bc, cp, ⟨MK, _, AB, BE, AS, FP, PC, PF, PT, PU, RA, KC, PK, ST, DC, DY, DS, SU, hv_f5, (mR_pl hR j w)⟩, Or.inl ⟨hI, hN, rfl, rfl, by rw [hr0, if_neg q_1]⟩⟩) (Nat.le_of_ble_eq_true rfl) (Nat.le_of_ble_eq_true rfl) d_M_maker_56
            · have q_1 : bPl b j = w := (nI_eq (by omega) (by omega)).mp c_43
              refine lv_iconst (v := 0) hx hb d_M_maker_46 (by decide) ?_
              exact g_zret C (by first | exact Or.inl rfl | exact Or.inr rfl) hP hS (⟨0, bPlS b j w, bc, cp, ⟨MK, PL, AB, BE, AS, FP, PC, PF, PT, PU, RA, KC, PK, ST, DC, DY, DS, SU, hv_f4, (by have h9 := mR_pl hR j w; rw [upd_va, up_id (by rw [hR.1.1]; show nI (bPl b j) = _; rw [q_1])] at h9; exact h9)⟩, Or.inl ⟨hI, hN, rfl, rfl, by rw [hr0, if_pos q_1]⟩⟩) (Nat.le_of_ble_eq_true rfl) (Nat.le_of_ble_eq_true rfl) d_M_maker_47
        · refine lv_iconst (v := 1) hx hb d_M_maker_21 (by decide) ?_
          refine lv_goto (tgt := 26) hx hb d_M_maker_22 (by decide) ?_
          have hB : ¬ (N_maker k0 v0) := fun z9 => by first | exact Int32.not_lt.mpr z9.1.1 c_2 | exact Int32.not_lt.mpr z9.1.2 c_8 | exact Int32.not_lt.mpr z9.2.1 c_12 | exact c_18 z9.2.2
          refine g_put C i_M t_M t_M_ok n_M hP hS hv.1 rfl 0 (by decide) wd_506 rfl rfl rfl (rfl) (Nat.le_of_ble_eq_true rfl) d_M_maker_26 (fun H locs hP hS => ?_)
          obtain ⟨f7, ef7⟩ : ∃ z99, z99 = va_up f y (some (ob 4 [.int 1, .int (nI (bN b)), .ref (ca 0), .ref (ca 1), .ref (ca 2), .ref (ca 3), .int (nI (bRc b)), .ref (ca 4), .int (nI (bHc b)), .ref (ca 5), .ref (ca 6), .ref (ca 7), .ref (ca 8), .ref (ca 9), .ref (ca 10), .ref (ca 11), .ref (ca 12), .ref (ca 13), .ref (ca 14), .ref (ca 15), .ref (ca 16), .ref (ca 17), .long bc, .int cp])) := ⟨_, rfl⟩
          replace hP : hH G (hA f s.heap.size) f7 H := by rw [ef7]; exact hP
          have hv_f7 : mv G f7 y ca 1 (nI (bN b)) (nI (bRc b)) (nI (bHc b)) bc cp MK PL AB BE AS FP PC PF PT PU RA KC PK ST DC DY DS SU := by rw [ef7]; exact mv_y hv _ _ _ _ _ _
          refine lv_aload_n hx hb d_M_maker_29 rfl (lv_at hl 0 rfl) ?_
          refine g_get C i_M hP hv_f7.1 rfl 0 (by decide) wd_506 rfl rfl d_M_maker_30 ?_
          refine lv_if_ne (tgt := 46) hx hb d_M_maker_33 (by decide) (fun c_33 => ?_) (fun c_33 => ?_)
          · refine lv_iconst (v := 0) hx hb d_M_maker_46 (by decide) ?_
            exact g_zret C (by first | exact Or.inl rfl | exact Or.inr rfl) hP hS (⟨1, b, bc, cp, ⟨MK, PL, AB, BE, AS, FP, PC, PF, PT, PU, RA, KC, PK, ST, DC, DY, DS, SU, hv_f7, hR⟩, Or.inr (Or.inr ⟨hB, rfl, rfl⟩)⟩) (Nat.le_of_ble_eq_true rfl) (Nat.le_of_ble_eq_true rfl) d_M_maker_47
          · exact absurd c_33 (by decide)
set_option maxHeartbeats 4000000 in
set_option maxRecDepth 100000 in
theorem ct_M_rate {l : Launch} {G : hG} (f : hm) (y : Nat) (ca : Nat → Nat) (b : BD) (hok : bOK b) (th : Int32) (bc : Int64) (cp : Int32) (hm : mS G f y ca b th bc cp) (c0 : Int32) (v0 : Int64) (r0 : Int32) (b1 : BD) (hK0 : I_rate c0 → N_rate v0 → K_rate b c0 v0 r0 b1) : ci_ l G y_M_rate w_M_rate { frames := 2, cells := 0, slots := 0, locals := 120 } [.ref y, .int c0, .long v0] f (fun r u => ∃ th2 b2 bc2 cp2, mS G u y ca b2 th2 bc2 cp2 ∧ mp (I_rate c0) (N_rate v0) b b1 (r = r0) th2 b2) := by
  intro sz
  refine h_ofW (cc := c_M_rate) (maxL := 4) (ret := (some .boolean)) (by decide) rfl (Nat.le_of_ble_eq_true rfl) ?_
  intro p e s m below meth c ls C hin hsz hP hl
  obtain ⟨hx, hb, hml, hown, -, -, -, -⟩ := id C
  subst hsz
  have hA0 : ∀ q, s.heap.size ≤ q → hA f s.heap.size q := hA.new
  have hS : va_S (hA f s.heap.size) s.heap s.heap [] := va_S.rf
  replace hl : lv_has ls 4 [(0, .ref y), (1, .int c0), (2, .long v0)] := hl
  obtain ⟨MK, PL, AB, BE, AS, FP, PC, PF, PT, PU, RA, KC, PK, ST, DC, DY, DS, SU, hv, hR⟩ := hm
  have hNN : bN b ≤ 40 := hok.1.1
  have hRC : bRc b ≤ 10 := hok.1.2.1
  have hHC : bHc b ≤ 40 := hok.1.2.2
  refine lv_aload_n hx hb d_M_rate_0 rfl (lv_at hl 0 rfl) ?_
  refine lv_iload_n hx hb d_M_rate_1 rfl (lv_at hl 1 rfl) ?_
  refine g_calli (g_runS C hl.1 (ct_M_isCurrency f c0 _) (cx_S C 1 wd_671 wd_672 wd_3 wd_673 rfl rfl (by decide +kernel) ⟨Nat.le_of_ble_eq_true rfl, Nat.le_of_ble_eq_true rfl⟩) hP rfl rfl (Nat.le_of_ble_eq_true rfl) d_M_rate_2 ⟨Nat.le_of_ble_eq_true rfl, Nat.le_of_ble_eq_true rfl⟩) hP hS hA0 (fun r2 f1 H locs hq hP hS => ?_)
  obtain ⟨hzC, hu⟩ := hq
  rw [hu] at hP
  refine lv_if_ne (tgt := 12) hx hb d_M_rate_5 (by decide) (fun c_5 => ?_) (fun c_5 => ?_)
  · refine lv_lload_n hx hb d_M_rate_12 rfl (lv_at hl 2 rfl) ?_
    refine lv_lconst (v := 1) hx hb d_M_rate_13 (by decide) ?_
    refine W.lcmp hx hb d_M_rate_14 ?_
    refine lv_if_lt (tgt := 26) hx hb d_M_rate_15 (by decide) (fun c_15 => ?_) (fun c_15 => ?_)
    · have c_15 := (lg_cmp_lt _ _).mp c_15
      refine lv_iconst (v := 2) hx hb d_M_rate_26 (by decide) ?_
      refine lv_goto (tgt := 31) hx hb d_M_rate_27 (by decide) ?_
      have hI : I_rate c0 := bz_t hzC c_5
      have hB : ¬ (N_rate v0) := fun z9 => by first | exact Int64.not_lt.mpr z9.1 c_15 | exact c_23 z9.2
      refine g_put C i_M t_M t_M_ok n_M hP hS hv.1 rfl 0 (by decide) wd_506 rfl rfl rfl (rfl) (Nat.le_of_ble_eq_true rfl) d_M_rate_31 (fun H locs hP hS => ?_)
      obtain ⟨f3, ef3⟩ : ∃ z99, z99 = va_up f y (some (ob 4 [.int 2, .int (nI (bN b)), .ref (ca 0), .ref (ca 1), .ref (ca 2), .ref (ca 3), .int (nI (bRc b)), .ref (ca 4), .int (nI (bHc b)), .ref (ca 5), .ref (ca 6), .ref (ca 7), .ref (ca 8), .ref (ca 9), .ref (ca 10), .ref (ca 11), .ref (ca 12), .ref (ca 13), .ref (ca 14), .ref (ca 15), .ref (ca 16), .ref (ca 17), .long bc, .int cp])) := ⟨_, rfl⟩
      replace hP : hH G (hA f s.heap.size) f3 H := by rw [ef3]; exact hP
      have hv_f3 : mv G f3 y ca 2 (nI (bN b)) (nI (bRc b)) (nI (bHc b)) bc cp MK PL AB BE AS FP PC PF PT PU RA KC PK ST DC DY DS SU := by rw [ef3]; exact mv_y hv _ _ _ _ _ _
      refine lv_aload_n hx hb d_M_rate_34 rfl (lv_at hl 0 rfl) ?_
      refine g_get C i_M hP hv_f3.1 rfl 0 (by decide) wd_506 rfl rfl d_M_rate_35 ?_
      refine lv_if_ne (tgt := 52) hx hb d_M_rate_38 (by decide) (fun c_38 => ?_) (fun c_38 => ?_)
      · refine lv_iconst (v := 0) hx hb d_M_rate_52 (by decide) ?_
        exact g_zret C (by first | exact Or.inl rfl | exact Or.inr rfl) hP hS (⟨2, b, bc, cp, ⟨MK, PL, AB, BE, AS, FP, PC, PF, PT, PU, RA, KC, PK, ST, DC, DY, DS, SU, hv_f3, hR⟩, Or.inr (Or.inl ⟨hI, hB, rfl, rfl⟩)⟩) (Nat.le_of_ble_eq_true rfl) (Nat.le_of_ble_eq_true rfl) d_M_rate_53
      · exact absurd c_38 (by decide)
    · have c_15 := fun z => c_15 ((lg_cmp_lt _ _).mpr z)
      refine lv_lload_n hx hb d_M_rate_18 rfl (lv_at hl 2 rfl) ?_
      refine lv_ldc2 hx hb hown (C.w wd_604) d_M_rate_19 ?_
      refine W.lcmp hx hb d_M_rate_22 ?_
      refine lv_if_le (tgt := 30) hx hb d_M_rate_23 (by decide) (fun c_23 => ?_) (fun c_23 => ?_)
      · have c_23 := (lg_cmp_le _ _).mp c_23
        refine lv_iconst (v := 0) hx hb d_M_rate_30 (by decide) ?_
        have hI : I_rate c0 := bz_t hzC c_5
        have hN : N_rate v0 := ⟨Int64.not_lt.mp c_15, c_23⟩
        obtain ⟨j, w, hj, rfl, hw1, hw2, rfl, hr0, rfl⟩ := hK0 hI hN
        have hbp := hok.2.2.2.2.1 j hj
        refine g_put C i_M t_M t_M_ok n_M hP hS hv.1 rfl 0 (by decide) wd_506 rfl rfl rfl (rfl) (Nat.le_of_ble_eq_true rfl) d_M_rate_31 (fun H locs hP hS => ?_)
        obtain ⟨f4, ef4⟩ : ∃ z99, z99 = va_up f y (some (ob 4 [.int 0, .int (nI (bN b)), .ref (ca 0), .ref (ca 1), .ref (ca 2), .ref (ca 3), .int (nI (bRc b)), .ref (ca 4), .int (nI (bHc b)), .ref (ca 5), .ref (ca 6), .ref (ca 7), .ref (ca 8), .ref (ca 9), .ref (ca 10), .ref (ca 11), .ref (ca 12), .ref (ca 13), .ref (ca 14), .ref (ca 15), .ref (ca 16), .ref (ca 17), .long bc, .int cp])) := ⟨_, rfl⟩
        replace hP : hH G (hA f s.heap.size) f4 H := by rw [ef4]; exact hP
        have hv_f4 : mv G f4 y ca 0 (nI (bN b)) (nI (bRc b)) (nI (bHc b)) bc cp MK PL AB BE AS FP PC PF PT PU RA KC PK ST DC DY DS SU := by rw [ef4]; exact mv_y hv _ _ _ _ _ _
        refine lv_aload_n hx hb d_M_rate_34 rfl (lv_at hl 0 rfl) ?_
        refine g_get C i_M hP hv_f4.1 rfl 0 (by decide) wd_506 rfl rfl d_M_rate_35 ?_
        refine lv_if_ne (tgt := 52) hx hb d_M_rate_38 (by decide) (fun c_38 => ?_) (fun c_38 => ?_)
        · exact absurd c_38 (by decide)
        · refine lv_aload_n hx hb d_M_rate_41 rfl (lv_at hl 0 rfl) ?_
          refine g_get C i_M hP hv_f4.1 rfl 14 (by decide) wd_520 rfl rfl d_M_rate_42 ?_
          refine lv_iload_n hx hb d_M_rate_45 rfl (lv_at hl 1 rfl) ?_
          refine g_laldN C hP hv_f4.2.2.2.2.2.2.2.2.2.2.2.1 (j := j) (hj) (by decide) d_M_rate_46 ?_
          refine g_eql (y := lN (bRa b j)) (by rw [hR.1.2.2.1]) ?_
          refine lv_lload_n hx hb d_M_rate_47 rfl (lv_at hl 2 rfl) ?_
          refine W.lcmp hx hb d_M_rate_48 ?_
          refine lv_if_ne (tgt := 54) hx hb d_M_rate_49 (by decide) (fun c_49 => ?_) (fun c_49 => ?_)
          · have c_49 := fun z => c_49 ((lg_cmp_eq _ _).mpr z)
            have q_1 : ¬ bRa b j = w := fun z9 => c_49 (by rw [z9])
            refine lv_aload_n hx hb d_M_rate_54 rfl (lv_at hl 0 rfl) ?_
            refine g_get C i_M hP hv_f4.1 rfl 14 (by decide) wd_520 rfl rfl d_M_rate_55 ?_
            refine lv_iload_n hx hb d_M_rate_58 rfl (lv_at hl 1 rfl) ?_
            refine lv_lload_n hx hb d_M_rate_59 rfl (lv_at hl 2 rfl) ?_
            refine g_lastN C hP hS hv_f4.2.2.2.2.2.2.2.2.2.2.2.1 (j := j) (hj) (by decide) d_M_rate_60 (fun H locs hP hS => ?_)
            obtain ⟨g6, eg6⟩ : ∃ z99, z99 = vp_updL RA j (lN w) := ⟨_, rfl⟩
            rw [← eg6] at hP
            obtain ⟨f5, ef5⟩ : ∃ z99, z99 = va_up f4 (ca 10) (some (aL G 4 g6)) := ⟨_, rfl⟩
            replace hP : hH G (hA f s.heap.size) f5 H := by rw [ef5]; exact hP
            have hv_f5 : mv G f5 y ca 0 (nI (bN b)) (nI (bRc b)) (nI (bHc b)) bc cp MK PL AB BE AS FP PC PF PT PU g6 KC PK ST DC DY DS SU := by rw [ef5]; exact mv_10 hv_f4 _
            refine lv_iconst (v := 1) hx hb d_M_rate_61 (by decide) ?_
            subst eg6
            exact g_zret C (by first | exact Or.inl rfl | exact Or.inr rfl) hP hS (⟨0, bRaS b j w, bc, cp, ⟨MK, PL, AB, BE, AS, FP, PC, PF, PT, PU, _, KC, PK, ST, DC, DY, DS, SU, hv_f5, (mR_ra hR j w)⟩, Or.inl ⟨hI, hN, rfl, rfl, by rw [hr0, if_neg q_1]⟩⟩) (Nat.le_of_ble_eq_true rfl) (Nat.le_of_ble_eq_true rfl) d_M_rate_62
          · have c_49 := (lg_cmp_eq _ _).mp c_49
            have q_1 : bRa b j = w := (pk_lEQ (by omega) (by omega)).mp c_49
            refine lv_iconst (v := 0) hx hb d_M_rate_52 (by decide) ?_
            exact g_zret C (by first | exact Or.inl rfl | exact Or.inr rfl) hP hS (⟨0, bRaS b j w, bc, cp, ⟨MK, PL, AB, BE, AS, FP, PC, PF, PT, PU, RA, KC, PK, ST, DC, DY, DS, SU, hv_f4, (by have h9 := mR_ra hR j w; rw [updL_va, up_id (by rw [hR.1.2.2.1]; show lN (bRa b j) = _; rw [q_1])] at h9; exact h9)⟩, Or.inl ⟨hI, hN, rfl, rfl, by rw [hr0, if_pos q_1]⟩⟩) (Nat.le_of_ble_eq_true rfl) (Nat.le_of_ble_eq_true rfl) d_M_rate_53
      · have c_23 := fun z => c_23 ((lg_cmp_le _ _).mpr z)
        refine lv_iconst (v := 2) hx hb d_M_rate_26 (by decide) ?_
        refine lv_goto (tgt := 31) hx hb d_M_rate_27 (by decide) ?_
        have hI : I_rate c0 := bz_t hzC c_5
        have hB : ¬ (N_rate v0) := fun z9 => by first | exact Int64.not_lt.mpr z9.1 c_15 | exact c_23 z9.2
        refine g_put C i_M t_M t_M_ok n_M hP hS hv.1 rfl 0 (by decide) wd_506 rfl rfl rfl (rfl) (Nat.le_of_ble_eq_true rfl) d_M_rate_31 (fun H locs hP hS => ?_)
        obtain ⟨f7, ef7⟩ : ∃ z99, z99 = va_up f y (some (ob 4 [.int 2, .int (nI (bN b)), .ref (ca 0), .ref (ca 1), .ref (ca 2), .ref (ca 3), .int (nI (bRc b)), .ref (ca 4), .int (nI (bHc b)), .ref (ca 5), .ref (ca 6), .ref (ca 7), .ref (ca 8), .ref (ca 9), .ref (ca 10), .ref (ca 11), .ref (ca 12), .ref (ca 13), .ref (ca 14), .ref (ca 15), .ref (ca 16), .ref (ca 17), .long bc, .int cp])) := ⟨_, rfl⟩
        replace hP : hH G (hA f s.heap.size) f7 H := by rw [ef7]; exact hP
        have hv_f7 : mv G f7 y ca 2 (nI (bN b)) (nI (bRc b)) (nI (bHc b)) bc cp MK PL AB BE AS FP PC PF PT PU RA KC PK ST DC DY DS SU := by rw [ef7]; exact mv_y hv _ _ _ _ _ _
        refine lv_aload_n hx hb d_M_rate_34 rfl (lv_at hl 0 rfl) ?_
        refine g_get C i_M hP hv_f7.1 rfl 0 (by decide) wd_506 rfl rfl d_M_rate_35 ?_
        refine lv_if_ne (tgt := 52) hx hb d_M_rate_38 (by decide) (fun c_38 => ?_) (fun c_38 => ?_)
        · refine lv_iconst (v := 0) hx hb d_M_rate_52 (by decide) ?_
          exact g_zret C (by first | exact Or.inl rfl | exact Or.inr rfl) hP hS (⟨2, b, bc, cp, ⟨MK, PL, AB, BE, AS, FP, PC, PF, PT, PU, RA, KC, PK, ST, DC, DY, DS, SU, hv_f7, hR⟩, Or.inr (Or.inl ⟨hI, hB, rfl, rfl⟩)⟩) (Nat.le_of_ble_eq_true rfl) (Nat.le_of_ble_eq_true rfl) d_M_rate_53
        · exact absurd c_38 (by decide)
  · refine lv_iconst (v := 1) hx hb d_M_rate_8 (by decide) ?_
    refine lv_goto (tgt := 31) hx hb d_M_rate_9 (by decide) ?_
    have hB : ¬ (I_rate c0) := fun z9 => bz_f hzC c_5 z9
    refine g_put C i_M t_M t_M_ok n_M hP hS hv.1 rfl 0 (by decide) wd_506 rfl rfl rfl (rfl) (Nat.le_of_ble_eq_true rfl) d_M_rate_31 (fun H locs hP hS => ?_)
    obtain ⟨f8, ef8⟩ : ∃ z99, z99 = va_up f y (some (ob 4 [.int 1, .int (nI (bN b)), .ref (ca 0), .ref (ca 1), .ref (ca 2), .ref (ca 3), .int (nI (bRc b)), .ref (ca 4), .int (nI (bHc b)), .ref (ca 5), .ref (ca 6), .ref (ca 7), .ref (ca 8), .ref (ca 9), .ref (ca 10), .ref (ca 11), .ref (ca 12), .ref (ca 13), .ref (ca 14), .ref (ca 15), .ref (ca 16), .ref (ca 17), .long bc, .int cp])) := ⟨_, rfl⟩
    replace hP : hH G (hA f s.heap.size) f8 H := by rw [ef8]; exact hP
    have hv_f8 : mv G f8 y ca 1 (nI (bN b)) (nI (bRc b)) (nI (bHc b)) bc cp MK PL AB BE AS FP PC PF PT PU RA KC PK ST DC DY DS SU := by rw [ef8]; exact mv_y hv _ _ _ _ _ _
    refine lv_aload_n hx hb d_M_rate_34 rfl (lv_at hl 0 rfl) ?_
    refine g_get C i_M hP hv_f8.1 rfl 0 (by decide) wd_506 rfl rfl d_M_rate_35 ?_
    refine lv_if_ne (tgt := 52) hx hb d_M_rate_38 (by decide) (fun c_38 => ?_) (fun c_38 => ?_)
    · refine lv_iconst (v := 0) hx hb d_M_rate_52 (by decide) ?_
      exact g_zret C (by first | exact Or.inl rfl | exact Or.inr rfl) hP hS (⟨1, b, bc, cp, ⟨MK, PL, AB, BE, AS, FP, PC, PF, PT, PU, RA, KC, PK, ST, DC, DY, DS, SU, hv_f8, hR⟩, Or.inr (Or.inr ⟨hB, rfl, rfl⟩)⟩) (Nat.le_of_ble_eq_true rfl) (Nat.le_of_ble_eq_true rfl) d_M_rate_53
    · exact absurd c_38 (by decide)
set_option maxHeartbeats 4000000 in
set_option maxRecDepth 100000 in
theorem ct_M_stock {l : Launch} {G : hG} (f : hm) (y : Nat) (ca : Nat → Nat) (b : BD) (hok : bOK b) (th : Int32) (bc : Int64) (cp : Int32) (hm : mS G f y ca b th bc cp) (p0 : Int32) (n0 : Int32) (r0 : Int32) (b1 : BD) (hK0 : okx p0 (bN b) → N_stock n0 → K_stock b p0 n0 r0 b1) : ci_ l G y_M_stock w_M_stock { frames := 2, cells := 0, slots := 0, locals := 120 } [.ref y, .int p0, .int n0] f (fun r u => ∃ th2 b2 bc2 cp2, mS G u y ca b2 th2 bc2 cp2 ∧ mp (okx p0 (bN b)) (N_stock n0) b b1 (r = r0) th2 b2) := by
  intro sz
  refine h_ofW (cc := c_M_stock) (maxL := 3) (ret := (some .boolean)) (by decide) rfl (Nat.le_of_ble_eq_true rfl) ?_
  intro p e s m below meth c ls C hin hsz hP hl
  obtain ⟨hx, hb, hml, hown, -, -, -, -⟩ := id C
  subst hsz
  have hA0 : ∀ q, s.heap.size ≤ q → hA f s.heap.size q := hA.new
  have hS : va_S (hA f s.heap.size) s.heap s.heap [] := va_S.rf
  replace hl : lv_has ls 3 [(0, .ref y), (1, .int p0), (2, .int n0)] := hl
  obtain ⟨MK, PL, AB, BE, AS, FP, PC, PF, PT, PU, RA, KC, PK, ST, DC, DY, DS, SU, hv, hR⟩ := hm
  have hNN : bN b ≤ 40 := hok.1.1
  have hRC : bRc b ≤ 10 := hok.1.2.1
  have hHC : bHc b ≤ 40 := hok.1.2.2
  refine lv_aload_n hx hb d_M_stock_0 rfl (lv_at hl 0 rfl) ?_
  refine lv_aload_n hx hb d_M_stock_1 rfl (lv_at hl 0 rfl) ?_
  refine lv_iload_n hx hb d_M_stock_2 rfl (lv_at hl 1 rfl) ?_
  refine g_calli (g_runV C hl.1 (ct_M_isPart f y ca b hok th bc cp ⟨MK, PL, AB, BE, AS, FP, PC, PF, PT, PU, RA, KC, PK, ST, DC, DY, DS, SU, hv, hR⟩ p0 _) (cx_V C 1 wd_605 wd_607 wp_14 wd_3 wd_608 rfl rfl (by decide +kernel) ⟨Nat.le_of_ble_eq_true rfl, Nat.le_of_ble_eq_true rfl⟩) hP hv.1 rfl rfl rfl (Nat.le_of_ble_eq_true rfl) d_M_stock_3 ⟨Nat.le_of_ble_eq_true rfl, Nat.le_of_ble_eq_true rfl⟩) hP hS hA0 (fun r2 f1 H locs hq hP hS => ?_)
  obtain ⟨hzP, hu⟩ := hq
  rw [hu] at hP
  refine lv_if_ne (tgt := 13) hx hb d_M_stock_6 (by decide) (fun c_6 => ?_) (fun c_6 => ?_)
  · refine lv_iload_n hx hb d_M_stock_13 rfl (lv_at hl 2 rfl) ?_
    refine lv_if_lt (tgt := 24) hx hb d_M_stock_14 (by decide) (fun c_14 => ?_) (fun c_14 => ?_)
    · refine lv_iconst (v := 2) hx hb d_M_stock_24 (by decide) ?_
      refine lv_goto (tgt := 29) hx hb d_M_stock_25 (by decide) ?_
      have hI : okx p0 (bN b) := bz_t hzP c_6
      have hB : ¬ (N_stock n0) := fun z9 => by first | exact Int32.not_lt.mpr z9.1 c_14 | exact c_21 z9.2
      refine g_put C i_M t_M t_M_ok n_M hP hS hv.1 rfl 0 (by decide) wd_506 rfl rfl rfl (rfl) (Nat.le_of_ble_eq_true rfl) d_M_stock_29 (fun H locs hP hS => ?_)
      obtain ⟨f3, ef3⟩ : ∃ z99, z99 = va_up f y (some (ob 4 [.int 2, .int (nI (bN b)), .ref (ca 0), .ref (ca 1), .ref (ca 2), .ref (ca 3), .int (nI (bRc b)), .ref (ca 4), .int (nI (bHc b)), .ref (ca 5), .ref (ca 6), .ref (ca 7), .ref (ca 8), .ref (ca 9), .ref (ca 10), .ref (ca 11), .ref (ca 12), .ref (ca 13), .ref (ca 14), .ref (ca 15), .ref (ca 16), .ref (ca 17), .long bc, .int cp])) := ⟨_, rfl⟩
      replace hP : hH G (hA f s.heap.size) f3 H := by rw [ef3]; exact hP
      have hv_f3 : mv G f3 y ca 2 (nI (bN b)) (nI (bRc b)) (nI (bHc b)) bc cp MK PL AB BE AS FP PC PF PT PU RA KC PK ST DC DY DS SU := by rw [ef3]; exact mv_y hv _ _ _ _ _ _
      refine lv_aload_n hx hb d_M_stock_32 rfl (lv_at hl 0 rfl) ?_
      refine g_get C i_M hP hv_f3.1 rfl 0 (by decide) wd_506 rfl rfl d_M_stock_33 ?_
      refine lv_if_ne (tgt := 49) hx hb d_M_stock_36 (by decide) (fun c_36 => ?_) (fun c_36 => ?_)
      · refine lv_iconst (v := 0) hx hb d_M_stock_49 (by decide) ?_
        exact g_zret C (by first | exact Or.inl rfl | exact Or.inr rfl) hP hS (⟨2, b, bc, cp, ⟨MK, PL, AB, BE, AS, FP, PC, PF, PT, PU, RA, KC, PK, ST, DC, DY, DS, SU, hv_f3, hR⟩, Or.inr (Or.inl ⟨hI, hB, rfl, rfl⟩)⟩) (Nat.le_of_ble_eq_true rfl) (Nat.le_of_ble_eq_true rfl) d_M_stock_50
      · exact absurd c_36 (by decide)
    · refine lv_iload_n hx hb d_M_stock_17 rfl (lv_at hl 2 rfl) ?_
      refine lv_sipush (v := 20000) hx hb d_M_stock_18 (by decide) ?_
      refine lv_icmp_le (tgt := 28) hx hb d_M_stock_21 (by decide) (fun c_21 => ?_) (fun c_21 => ?_)
      · refine lv_iconst (v := 0) hx hb d_M_stock_28 (by decide) ?_
        have hI : okx p0 (bN b) := bz_t hzP c_6
        have hN : N_stock n0 := ⟨Int32.not_lt.mp c_14, c_21⟩
        obtain ⟨i, w, hi, rfl, hw, rfl, hr0, rfl⟩ := hK0 hI hN
        have hbp := (hok.2.1 i hi).1.2.1
        have hst := hR.2.2.1 i (by omega)
        refine g_put C i_M t_M t_M_ok n_M hP hS hv.1 rfl 0 (by decide) wd_506 rfl rfl rfl (rfl) (Nat.le_of_ble_eq_true rfl) d_M_stock_29 (fun H locs hP hS => ?_)
        obtain ⟨f4, ef4⟩ : ∃ z99, z99 = va_up f y (some (ob 4 [.int 0, .int (nI (bN b)), .ref (ca 0), .ref (ca 1), .ref (ca 2), .ref (ca 3), .int (nI (bRc b)), .ref (ca 4), .int (nI (bHc b)), .ref (ca 5), .ref (ca 6), .ref (ca 7), .ref (ca 8), .ref (ca 9), .ref (ca 10), .ref (ca 11), .ref (ca 12), .ref (ca 13), .ref (ca 14), .ref (ca 15), .ref (ca 16), .ref (ca 17), .long bc, .int cp])) := ⟨_, rfl⟩
        replace hP : hH G (hA f s.heap.size) f4 H := by rw [ef4]; exact hP
        have hv_f4 : mv G f4 y ca 0 (nI (bN b)) (nI (bRc b)) (nI (bHc b)) bc cp MK PL AB BE AS FP PC PF PT PU RA KC PK ST DC DY DS SU := by rw [ef4]; exact mv_y hv _ _ _ _ _ _
        refine lv_aload_n hx hb d_M_stock_32 rfl (lv_at hl 0 rfl) ?_
        refine g_get C i_M hP hv_f4.1 rfl 0 (by decide) wd_506 rfl rfl d_M_stock_33 ?_
        refine lv_if_ne (tgt := 49) hx hb d_M_stock_36 (by decide) (fun c_36 => ?_) (fun c_36 => ?_)
        · exact absurd c_36 (by decide)
        · refine lv_aload_n hx hb d_M_stock_39 rfl (lv_at hl 0 rfl) ?_
          refine g_get C i_M hP hv_f4.1 rfl 17 (by decide) wd_523 rfl rfl d_M_stock_40 ?_
          refine lv_iload_n hx hb d_M_stock_43 rfl (lv_at hl 1 rfl) ?_
          refine g_ialdN C hP hv_f4.2.2.2.2.2.2.2.2.2.2.2.2.2.2.1 (j := i) (by omega) (by decide) d_M_stock_44 ?_
          refine g_eqi (y := nI (pPc (bD b i))) (hst) ?_
          refine lv_iload_n hx hb d_M_stock_45 rfl (lv_at hl 2 rfl) ?_
          refine lv_icmp_ne (tgt := 51) hx hb d_M_stock_46 (by decide) (fun c_46 => ?_) (fun c_46 => ?_)
          · have q_1 : ¬ pPc (bD b i) = w := fun z9 => c_46 (by rw [z9])
            refine lv_aload_n hx hb d_M_stock_51 rfl (lv_at hl 0 rfl) ?_
            refine g_get C i_M hP hv_f4.1 rfl 17 (by decide) wd_523 rfl rfl d_M_stock_52 ?_
            refine lv_iload_n hx hb d_M_stock_55 rfl (lv_at hl 1 rfl) ?_
            refine lv_iload_n hx hb d_M_stock_56 rfl (lv_at hl 2 rfl) ?_
            refine g_iastN C hP hS hv_f4.2.2.2.2.2.2.2.2.2.2.2.2.2.2.1 (j := i) (by omega) (by decide) d_M_stock_57 (fun H locs hP hS => ?_)
            obtain ⟨g6, eg6⟩ : ∃ z99, z99 = upd ST i (nI w) := ⟨_, rfl⟩
            rw [← eg6] at hP
            obtain ⟨f5, ef5⟩ : ∃ z99, z99 = va_up f4 (ca 13) (some (aI G 40 g6)) := ⟨_, rfl⟩
            replace hP : hH G (hA f s.heap.size) f5 H := by rw [ef5]; exact hP
            have hv_f5 : mv G f5 y ca 0 (nI (bN b)) (nI (bRc b)) (nI (bHc b)) bc cp MK PL AB BE AS FP PC PF PT PU RA KC PK g6 DC DY DS SU := by rw [ef5]; exact mv_13 hv_f4 _
            refine lv_iconst (v := 1) hx hb d_M_stock_58 (by decide) ?_
            subst eg6
            exact g_zret C (by first | exact Or.inl rfl | exact Or.inr rfl) hP hS (⟨0, bSet b i (dPc (bD b i) w), bc, cp, ⟨MK, PL, AB, BE, AS, FP, PC, PF, PT, PU, RA, KC, PK, _, DC, DY, DS, SU, hv_f5, (mR_st hR i w hi hNN)⟩, Or.inl ⟨hI, hN, rfl, rfl, by rw [hr0, if_neg q_1]⟩⟩) (Nat.le_of_ble_eq_true rfl) (Nat.le_of_ble_eq_true rfl) d_M_stock_59
          · have q_1 : pPc (bD b i) = w := (nI_eq (by omega) (by omega)).mp c_46
            refine lv_iconst (v := 0) hx hb d_M_stock_49 (by decide) ?_
            exact g_zret C (by first | exact Or.inl rfl | exact Or.inr rfl) hP hS (⟨0, bSet b i (dPc (bD b i) w), bc, cp, ⟨MK, PL, AB, BE, AS, FP, PC, PF, PT, PU, RA, KC, PK, ST, DC, DY, DS, SU, hv_f4, (by have h9 := mR_st hR i w hi hNN; rw [upd_va, up_id (by rw [hst, q_1])] at h9; exact h9)⟩, Or.inl ⟨hI, hN, rfl, rfl, by rw [hr0, if_pos q_1]⟩⟩) (Nat.le_of_ble_eq_true rfl) (Nat.le_of_ble_eq_true rfl) d_M_stock_50
      · refine lv_iconst (v := 2) hx hb d_M_stock_24 (by decide) ?_
        refine lv_goto (tgt := 29) hx hb d_M_stock_25 (by decide) ?_
        have hI : okx p0 (bN b) := bz_t hzP c_6
        have hB : ¬ (N_stock n0) := fun z9 => by first | exact Int32.not_lt.mpr z9.1 c_14 | exact c_21 z9.2
        refine g_put C i_M t_M t_M_ok n_M hP hS hv.1 rfl 0 (by decide) wd_506 rfl rfl rfl (rfl) (Nat.le_of_ble_eq_true rfl) d_M_stock_29 (fun H locs hP hS => ?_)
        obtain ⟨f7, ef7⟩ : ∃ z99, z99 = va_up f y (some (ob 4 [.int 2, .int (nI (bN b)), .ref (ca 0), .ref (ca 1), .ref (ca 2), .ref (ca 3), .int (nI (bRc b)), .ref (ca 4), .int (nI (bHc b)), .ref (ca 5), .ref (ca 6), .ref (ca 7), .ref (ca 8), .ref (ca 9), .ref (ca 10), .ref (ca 11), .ref (ca 12), .ref (ca 13), .ref (ca 14), .ref (ca 15), .ref (ca 16), .ref (ca 17), .long bc, .int cp])) := ⟨_, rfl⟩
        replace hP : hH G (hA f s.heap.size) f7 H := by rw [ef7]; exact hP
        have hv_f7 : mv G f7 y ca 2 (nI (bN b)) (nI (bRc b)) (nI (bHc b)) bc cp MK PL AB BE AS FP PC PF PT PU RA KC PK ST DC DY DS SU := by rw [ef7]; exact mv_y hv _ _ _ _ _ _
        refine lv_aload_n hx hb d_M_stock_32 rfl (lv_at hl 0 rfl) ?_
        refine g_get C i_M hP hv_f7.1 rfl 0 (by decide) wd_506 rfl rfl d_M_stock_33 ?_
        refine lv_if_ne (tgt := 49) hx hb d_M_stock_36 (by decide) (fun c_36 => ?_) (fun c_36 => ?_)
        · refine lv_iconst (v := 0) hx hb d_M_stock_49 (by decide) ?_
          exact g_zret C (by first | exact Or.inl rfl | exact Or.inr rfl) hP hS (⟨2, b, bc, cp, ⟨MK, PL, AB, BE, AS, FP, PC, PF, PT, PU, RA, KC, PK, ST, DC, DY, DS, SU, hv_f7, hR⟩, Or.inr (Or.inl ⟨hI, hB, rfl, rfl⟩)⟩) (Nat.le_of_ble_eq_true rfl) (Nat.le_of_ble_eq_true rfl) d_M_stock_50
        · exact absurd c_36 (by decide)
  · refine lv_iconst (v := 1) hx hb d_M_stock_9 (by decide) ?_
    refine lv_goto (tgt := 29) hx hb d_M_stock_10 (by decide) ?_
    have hB : ¬ (okx p0 (bN b)) := fun z9 => bz_f hzP c_6 z9
    refine g_put C i_M t_M t_M_ok n_M hP hS hv.1 rfl 0 (by decide) wd_506 rfl rfl rfl (rfl) (Nat.le_of_ble_eq_true rfl) d_M_stock_29 (fun H locs hP hS => ?_)
    obtain ⟨f8, ef8⟩ : ∃ z99, z99 = va_up f y (some (ob 4 [.int 1, .int (nI (bN b)), .ref (ca 0), .ref (ca 1), .ref (ca 2), .ref (ca 3), .int (nI (bRc b)), .ref (ca 4), .int (nI (bHc b)), .ref (ca 5), .ref (ca 6), .ref (ca 7), .ref (ca 8), .ref (ca 9), .ref (ca 10), .ref (ca 11), .ref (ca 12), .ref (ca 13), .ref (ca 14), .ref (ca 15), .ref (ca 16), .ref (ca 17), .long bc, .int cp])) := ⟨_, rfl⟩
    replace hP : hH G (hA f s.heap.size) f8 H := by rw [ef8]; exact hP
    have hv_f8 : mv G f8 y ca 1 (nI (bN b)) (nI (bRc b)) (nI (bHc b)) bc cp MK PL AB BE AS FP PC PF PT PU RA KC PK ST DC DY DS SU := by rw [ef8]; exact mv_y hv _ _ _ _ _ _
    refine lv_aload_n hx hb d_M_stock_32 rfl (lv_at hl 0 rfl) ?_
    refine g_get C i_M hP hv_f8.1 rfl 0 (by decide) wd_506 rfl rfl d_M_stock_33 ?_
    refine lv_if_ne (tgt := 49) hx hb d_M_stock_36 (by decide) (fun c_36 => ?_) (fun c_36 => ?_)
    · refine lv_iconst (v := 0) hx hb d_M_stock_49 (by decide) ?_
      exact g_zret C (by first | exact Or.inl rfl | exact Or.inr rfl) hP hS (⟨1, b, bc, cp, ⟨MK, PL, AB, BE, AS, FP, PC, PF, PT, PU, RA, KC, PK, ST, DC, DY, DS, SU, hv_f8, hR⟩, Or.inr (Or.inr ⟨hB, rfl, rfl⟩)⟩) (Nat.le_of_ble_eq_true rfl) (Nat.le_of_ble_eq_true rfl) d_M_stock_50
    · exact absurd c_36 (by decide)
set_option maxHeartbeats 4000000 in
set_option maxRecDepth 100000 in
theorem ct_M_ask {l : Launch} {G : hG} (f : hm) (y : Nat) (ca : Nat → Nat) (b : BD) (hok : bOK b) (th : Int32) (bc : Int64) (cp : Int32) (hm : mS G f y ca b th bc cp) (q0 : Int32) (n0 : Int32) (h0 : Int32) (r0 : Int32) (b1 : BD) (hK0 : I_ask b q0 n0 → N_ask h0 → K_ask b q0 n0 h0 r0 b1) : ci_ l G y_M_ask w_M_ask { frames := 2, cells := 0, slots := 0, locals := 120 } [.ref y, .int q0, .int n0, .int h0] f (fun r u => ∃ th2 b2 bc2 cp2, mS G u y ca b2 th2 bc2 cp2 ∧ mp (I_ask b q0 n0) (N_ask h0) b b1 (r = r0) th2 b2) := by
  intro sz
  refine h_ofW (cc := c_M_ask) (maxL := 4) (ret := (some .boolean)) (by decide) rfl (Nat.le_of_ble_eq_true rfl) ?_
  intro p e s m below meth c ls C hin hsz hP hl
  obtain ⟨hx, hb, hml, hown, -, -, -, -⟩ := id C
  subst hsz
  have hA0 : ∀ q, s.heap.size ≤ q → hA f s.heap.size q := hA.new
  have hS : va_S (hA f s.heap.size) s.heap s.heap [] := va_S.rf
  replace hl : lv_has ls 4 [(0, .ref y), (1, .int q0), (2, .int n0), (3, .int h0)] := hl
  obtain ⟨MK, PL, AB, BE, AS, FP, PC, PF, PT, PU, RA, KC, PK, ST, DC, DY, DS, SU, hv, hR⟩ := hm
  have hNN : bN b ≤ 40 := hok.1.1
  have hRC : bRc b ≤ 10 := hok.1.2.1
  have hHC : bHc b ≤ 40 := hok.1.2.2
  refine lv_aload_n hx hb d_M_ask_0 rfl (lv_at hl 0 rfl) ?_
  refine lv_aload_n hx hb d_M_ask_1 rfl (lv_at hl 0 rfl) ?_
  refine lv_iload_n hx hb d_M_ask_2 rfl (lv_at hl 1 rfl) ?_
  refine g_calli (g_runV C hl.1 (ct_M_isRule f y ca b hok th bc cp ⟨MK, PL, AB, BE, AS, FP, PC, PF, PT, PU, RA, KC, PK, ST, DC, DY, DS, SU, hv, hR⟩ q0 _) (cx_V C 1 wd_632 wd_634 wp_16 wd_3 wd_635 rfl rfl (by decide +kernel) ⟨Nat.le_of_ble_eq_true rfl, Nat.le_of_ble_eq_true rfl⟩) hP hv.1 rfl rfl rfl (Nat.le_of_ble_eq_true rfl) d_M_ask_3 ⟨Nat.le_of_ble_eq_true rfl, Nat.le_of_ble_eq_true rfl⟩) hP hS hA0 (fun r2 f1 H locs hq hP hS => ?_)
  obtain ⟨hzR, hu⟩ := hq
  rw [hu] at hP
  refine lv_if_eq (tgt := 16) hx hb d_M_ask_6 (by decide) (fun c_6 => ?_) (fun c_6 => ?_)
  · refine lv_iconst (v := 1) hx hb d_M_ask_16 (by decide) ?_
    refine lv_goto (tgt := 35) hx hb d_M_ask_17 (by decide) ?_
    have hB : ¬ (I_ask b q0 n0) := fun z9 => by first | exact bz_f hzR c_6 z9.1 | exact bz_f hzN c_13 z9.2
    refine g_put C i_M t_M t_M_ok n_M hP hS hv.1 rfl 0 (by decide) wd_506 rfl rfl rfl (rfl) (Nat.le_of_ble_eq_true rfl) d_M_ask_35 (fun H locs hP hS => ?_)
    obtain ⟨f3, ef3⟩ : ∃ z99, z99 = va_up f y (some (ob 4 [.int 1, .int (nI (bN b)), .ref (ca 0), .ref (ca 1), .ref (ca 2), .ref (ca 3), .int (nI (bRc b)), .ref (ca 4), .int (nI (bHc b)), .ref (ca 5), .ref (ca 6), .ref (ca 7), .ref (ca 8), .ref (ca 9), .ref (ca 10), .ref (ca 11), .ref (ca 12), .ref (ca 13), .ref (ca 14), .ref (ca 15), .ref (ca 16), .ref (ca 17), .long bc, .int cp])) := ⟨_, rfl⟩
    replace hP : hH G (hA f s.heap.size) f3 H := by rw [ef3]; exact hP
    have hv_f3 : mv G f3 y ca 1 (nI (bN b)) (nI (bRc b)) (nI (bHc b)) bc cp MK PL AB BE AS FP PC PF PT PU RA KC PK ST DC DY DS SU := by rw [ef3]; exact mv_y hv _ _ _ _ _ _
    refine lv_aload_n hx hb d_M_ask_38 rfl (lv_at hl 0 rfl) ?_
    refine g_get C i_M hP hv_f3.1 rfl 0 (by decide) wd_506 rfl rfl d_M_ask_39 ?_
    refine lv_if_ne (tgt := 62) hx hb d_M_ask_42 (by decide) (fun c_42 => ?_) (fun c_42 => ?_)
    · refine lv_iconst (v := 0) hx hb d_M_ask_62 (by decide) ?_
      exact g_zret C (by first | exact Or.inl rfl | exact Or.inr rfl) hP hS (⟨1, b, bc, cp, ⟨MK, PL, AB, BE, AS, FP, PC, PF, PT, PU, RA, KC, PK, ST, DC, DY, DS, SU, hv_f3, hR⟩, Or.inr (Or.inr ⟨hB, rfl, rfl⟩)⟩) (Nat.le_of_ble_eq_true rfl) (Nat.le_of_ble_eq_true rfl) d_M_ask_63
    · exact absurd c_42 (by decide)
  · refine lv_iload_n hx hb d_M_ask_9 rfl (lv_at hl 2 rfl) ?_
    refine g_calli (g_runS C hl.1 (ct_M_isName f n0 _) (cx_S C 1 wd_609 wd_610 wd_3 wd_611 rfl rfl (by decide +kernel) ⟨Nat.le_of_ble_eq_true rfl, Nat.le_of_ble_eq_true rfl⟩) hP rfl rfl (Nat.le_of_ble_eq_true rfl) d_M_ask_10 ⟨Nat.le_of_ble_eq_true rfl, Nat.le_of_ble_eq_true rfl⟩) hP hS hA0 (fun r5 f4 H locs hq hP hS => ?_)
    obtain ⟨hzN, hu⟩ := hq
    rw [hu] at hP
    refine lv_if_ne (tgt := 20) hx hb d_M_ask_13 (by decide) (fun c_13 => ?_) (fun c_13 => ?_)
    · refine lv_iload_n hx hb d_M_ask_20 rfl (lv_at hl 3 rfl) ?_
      refine lv_iconst (v := (-1)) hx hb d_M_ask_21 (by decide) ?_
      refine lv_icmp_lt (tgt := 30) hx hb d_M_ask_22 (by decide) (fun c_22 => ?_) (fun c_22 => ?_)
      · refine lv_iconst (v := 2) hx hb d_M_ask_30 (by decide) ?_
        refine lv_goto (tgt := 35) hx hb d_M_ask_31 (by decide) ?_
        have hI : I_ask b q0 n0 := ⟨bz_t hzR c_6, bz_t hzN c_13⟩
        have hB : ¬ (N_ask h0) := fun z9 => by first | exact Int32.not_lt.mpr z9.1 c_22 | exact c_27 z9.2
        refine g_put C i_M t_M t_M_ok n_M hP hS hv.1 rfl 0 (by decide) wd_506 rfl rfl rfl (rfl) (Nat.le_of_ble_eq_true rfl) d_M_ask_35 (fun H locs hP hS => ?_)
        obtain ⟨f6, ef6⟩ : ∃ z99, z99 = va_up f y (some (ob 4 [.int 2, .int (nI (bN b)), .ref (ca 0), .ref (ca 1), .ref (ca 2), .ref (ca 3), .int (nI (bRc b)), .ref (ca 4), .int (nI (bHc b)), .ref (ca 5), .ref (ca 6), .ref (ca 7), .ref (ca 8), .ref (ca 9), .ref (ca 10), .ref (ca 11), .ref (ca 12), .ref (ca 13), .ref (ca 14), .ref (ca 15), .ref (ca 16), .ref (ca 17), .long bc, .int cp])) := ⟨_, rfl⟩
        replace hP : hH G (hA f s.heap.size) f6 H := by rw [ef6]; exact hP
        have hv_f6 : mv G f6 y ca 2 (nI (bN b)) (nI (bRc b)) (nI (bHc b)) bc cp MK PL AB BE AS FP PC PF PT PU RA KC PK ST DC DY DS SU := by rw [ef6]; exact mv_y hv _ _ _ _ _ _
        refine lv_aload_n hx hb d_M_ask_38 rfl (lv_at hl 0 rfl) ?_
        refine g_get C i_M hP hv_f6.1 rfl 0 (by decide) wd_506 rfl rfl d_M_ask_39 ?_
        refine lv_if_ne (tgt := 62) hx hb d_M_ask_42 (by decide) (fun c_42 => ?_) (fun c_42 => ?_)
        · refine lv_iconst (v := 0) hx hb d_M_ask_62 (by decide) ?_
          exact g_zret C (by first | exact Or.inl rfl | exact Or.inr rfl) hP hS (⟨2, b, bc, cp, ⟨MK, PL, AB, BE, AS, FP, PC, PF, PT, PU, RA, KC, PK, ST, DC, DY, DS, SU, hv_f6, hR⟩, Or.inr (Or.inl ⟨hI, hB, rfl, rfl⟩)⟩) (Nat.le_of_ble_eq_true rfl) (Nat.le_of_ble_eq_true rfl) d_M_ask_63
        · exact absurd c_42 (by decide)
      · refine lv_iload_n hx hb d_M_ask_25 rfl (lv_at hl 3 rfl) ?_
        refine lv_iconst (v := 2) hx hb d_M_ask_26 (by decide) ?_
        refine lv_icmp_le (tgt := 34) hx hb d_M_ask_27 (by decide) (fun c_27 => ?_) (fun c_27 => ?_)
        · refine lv_iconst (v := 0) hx hb d_M_ask_34 (by decide) ?_
          have hI : I_ask b q0 n0 := ⟨bz_t hzR c_6, bz_t hzN c_13⟩
          have hN : N_ask h0 := ⟨Int32.not_lt.mp c_22, c_27⟩
          obtain ⟨i, j, hi, rfl, hj, rfl, hh, hr0, rfl⟩ := hK0 hI hN
          have has := hR.1.2.2.2.1 (i * 12 + j) (by omega)
          refine g_put C i_M t_M t_M_ok n_M hP hS hv.1 rfl 0 (by decide) wd_506 rfl rfl rfl (rfl) (Nat.le_of_ble_eq_true rfl) d_M_ask_35 (fun H locs hP hS => ?_)
          obtain ⟨f7, ef7⟩ : ∃ z99, z99 = va_up f y (some (ob 4 [.int 0, .int (nI (bN b)), .ref (ca 0), .ref (ca 1), .ref (ca 2), .ref (ca 3), .int (nI (bRc b)), .ref (ca 4), .int (nI (bHc b)), .ref (ca 5), .ref (ca 6), .ref (ca 7), .ref (ca 8), .ref (ca 9), .ref (ca 10), .ref (ca 11), .ref (ca 12), .ref (ca 13), .ref (ca 14), .ref (ca 15), .ref (ca 16), .ref (ca 17), .long bc, .int cp])) := ⟨_, rfl⟩
          replace hP : hH G (hA f s.heap.size) f7 H := by rw [ef7]; exact hP
          have hv_f7 : mv G f7 y ca 0 (nI (bN b)) (nI (bRc b)) (nI (bHc b)) bc cp MK PL AB BE AS FP PC PF PT PU RA KC PK ST DC DY DS SU := by rw [ef7]; exact mv_y hv _ _ _ _ _ _
          refine lv_aload_n hx hb d_M_ask_38 rfl (lv_at hl 0 rfl) ?_
          refine g_get C i_M hP hv_f7.1 rfl 0 (by decide) wd_506 rfl rfl d_M_ask_39 ?_
          refine lv_if_ne (tgt := 62) hx hb d_M_ask_42 (by decide) (fun c_42 => ?_) (fun c_42 => ?_)
          · exact absurd c_42 (by decide)
          · refine lv_aload_n hx hb d_M_ask_45 rfl (lv_at hl 0 rfl) ?_
            refine g_get C i_M hP hv_f7.1 rfl 7 (by decide) wd_513 rfl rfl d_M_ask_46 ?_
            refine lv_bipush (v := 12) hx hb d_M_ask_49 (by decide) ?_
            refine lv_iload_n hx hb d_M_ask_51 rfl (lv_at hl 1 rfl) ?_
            refine lv_imul hx hb d_M_ask_52 ?_
            refine g_eqi (y := nI (12 * i)) (pk_mul _ _) ?_
            refine lv_iload_n hx hb d_M_ask_53 rfl (lv_at hl 2 rfl) ?_
            refine lv_iadd hx hb d_M_ask_54 ?_
            refine g_eqi (y := nI (i * 12 + j)) (by rw [nI_add, Nat.mul_comm]) ?_
            refine g_ialdN C hP hv_f7.2.2.2.2.2.1 (j := (i * 12 + j)) (by omega) (by decide) d_M_ask_55 ?_
            refine g_eqi (y := bAs b (i * 12 + j) + 1) (has) ?_
            refine lv_iload_n hx hb d_M_ask_56 rfl (lv_at hl 3 rfl) ?_
            refine lv_iconst (v := 1) hx hb d_M_ask_57 (by decide) ?_
            refine lv_iadd hx hb d_M_ask_58 ?_
            refine lv_icmp_ne (tgt := 64) hx hb d_M_ask_59 (by decide) (fun c_59 => ?_) (fun c_59 => ?_)
            · have q_1 : ¬ bAs b (i * 12 + j) = h0 := fun z9 => c_59 (by rw [z9])
              refine lv_aload_n hx hb d_M_ask_64 rfl (lv_at hl 0 rfl) ?_
              refine g_get C i_M hP hv_f7.1 rfl 7 (by decide) wd_513 rfl rfl d_M_ask_65 ?_
              refine lv_bipush (v := 12) hx hb d_M_ask_68 (by decide) ?_
              refine lv_iload_n hx hb d_M_ask_70 rfl (lv_at hl 1 rfl) ?_
              refine lv_imul hx hb d_M_ask_71 ?_
              refine g_eqi (y := nI (12 * i)) (pk_mul _ _) ?_
              refine lv_iload_n hx hb d_M_ask_72 rfl (lv_at hl 2 rfl) ?_
              refine lv_iadd hx hb d_M_ask_73 ?_
              refine g_eqi (y := nI (i * 12 + j)) (by rw [nI_add, Nat.mul_comm]) ?_
              refine lv_iload_n hx hb d_M_ask_74 rfl (lv_at hl 3 rfl) ?_
              refine lv_iconst (v := 1) hx hb d_M_ask_75 (by decide) ?_
              refine lv_iadd hx hb d_M_ask_76 ?_
              refine g_iastN C hP hS hv_f7.2.2.2.2.2.1 (j := (i * 12 + j)) (by omega) (by decide) d_M_ask_77 (fun H locs hP hS => ?_)
              obtain ⟨g9, eg9⟩ : ∃ z99, z99 = upd AS (i * 12 + j) (h0 + 1) := ⟨_, rfl⟩
              rw [← eg9] at hP
              obtain ⟨f8, ef8⟩ : ∃ z99, z99 = va_up f7 (ca 4) (some (aI G 120 g9)) := ⟨_, rfl⟩
              replace hP : hH G (hA f s.heap.size) f8 H := by rw [ef8]; exact hP
              have hv_f8 : mv G f8 y ca 0 (nI (bN b)) (nI (bRc b)) (nI (bHc b)) bc cp MK PL AB BE g9 FP PC PF PT PU RA KC PK ST DC DY DS SU := by rw [ef8]; exact mv_4 hv_f7 _
              refine lv_iconst (v := 1) hx hb d_M_ask_78 (by decide) ?_
              subst eg9
              exact g_zret C (by first | exact Or.inl rfl | exact Or.inr rfl) hP hS (⟨0, bAsS b (i * 12 + j) h0, bc, cp, ⟨MK, PL, AB, BE, _, FP, PC, PF, PT, PU, RA, KC, PK, ST, DC, DY, DS, SU, hv_f8, (mR_as hR (i * 12 + j) h0)⟩, Or.inl ⟨hI, hN, rfl, rfl, by rw [hr0, if_neg q_1]⟩⟩) (Nat.le_of_ble_eq_true rfl) (Nat.le_of_ble_eq_true rfl) d_M_ask_79
            · have q_1 : bAs b (i * 12 + j) = h0 := ask_inj c_59
              refine lv_iconst (v := 0) hx hb d_M_ask_62 (by decide) ?_
              exact g_zret C (by first | exact Or.inl rfl | exact Or.inr rfl) hP hS (⟨0, bAsS b (i * 12 + j) h0, bc, cp, ⟨MK, PL, AB, BE, AS, FP, PC, PF, PT, PU, RA, KC, PK, ST, DC, DY, DS, SU, hv_f7, (by have h9 := mR_as hR (i * 12 + j) h0; rw [upd_va, up_id (by rw [has, q_1])] at h9; exact h9)⟩, Or.inl ⟨hI, hN, rfl, rfl, by rw [hr0, if_pos q_1]⟩⟩) (Nat.le_of_ble_eq_true rfl) (Nat.le_of_ble_eq_true rfl) d_M_ask_63
        · refine lv_iconst (v := 2) hx hb d_M_ask_30 (by decide) ?_
          refine lv_goto (tgt := 35) hx hb d_M_ask_31 (by decide) ?_
          have hI : I_ask b q0 n0 := ⟨bz_t hzR c_6, bz_t hzN c_13⟩
          have hB : ¬ (N_ask h0) := fun z9 => by first | exact Int32.not_lt.mpr z9.1 c_22 | exact c_27 z9.2
          refine g_put C i_M t_M t_M_ok n_M hP hS hv.1 rfl 0 (by decide) wd_506 rfl rfl rfl (rfl) (Nat.le_of_ble_eq_true rfl) d_M_ask_35 (fun H locs hP hS => ?_)
          obtain ⟨f10, ef10⟩ : ∃ z99, z99 = va_up f y (some (ob 4 [.int 2, .int (nI (bN b)), .ref (ca 0), .ref (ca 1), .ref (ca 2), .ref (ca 3), .int (nI (bRc b)), .ref (ca 4), .int (nI (bHc b)), .ref (ca 5), .ref (ca 6), .ref (ca 7), .ref (ca 8), .ref (ca 9), .ref (ca 10), .ref (ca 11), .ref (ca 12), .ref (ca 13), .ref (ca 14), .ref (ca 15), .ref (ca 16), .ref (ca 17), .long bc, .int cp])) := ⟨_, rfl⟩
          replace hP : hH G (hA f s.heap.size) f10 H := by rw [ef10]; exact hP
          have hv_f10 : mv G f10 y ca 2 (nI (bN b)) (nI (bRc b)) (nI (bHc b)) bc cp MK PL AB BE AS FP PC PF PT PU RA KC PK ST DC DY DS SU := by rw [ef10]; exact mv_y hv _ _ _ _ _ _
          refine lv_aload_n hx hb d_M_ask_38 rfl (lv_at hl 0 rfl) ?_
          refine g_get C i_M hP hv_f10.1 rfl 0 (by decide) wd_506 rfl rfl d_M_ask_39 ?_
          refine lv_if_ne (tgt := 62) hx hb d_M_ask_42 (by decide) (fun c_42 => ?_) (fun c_42 => ?_)
          · refine lv_iconst (v := 0) hx hb d_M_ask_62 (by decide) ?_
            exact g_zret C (by first | exact Or.inl rfl | exact Or.inr rfl) hP hS (⟨2, b, bc, cp, ⟨MK, PL, AB, BE, AS, FP, PC, PF, PT, PU, RA, KC, PK, ST, DC, DY, DS, SU, hv_f10, hR⟩, Or.inr (Or.inl ⟨hI, hB, rfl, rfl⟩)⟩) (Nat.le_of_ble_eq_true rfl) (Nat.le_of_ble_eq_true rfl) d_M_ask_63
          · exact absurd c_42 (by decide)
    · refine lv_iconst (v := 1) hx hb d_M_ask_16 (by decide) ?_
      refine lv_goto (tgt := 35) hx hb d_M_ask_17 (by decide) ?_
      have hB : ¬ (I_ask b q0 n0) := fun z9 => by first | exact bz_f hzR c_6 z9.1 | exact bz_f hzN c_13 z9.2
      refine g_put C i_M t_M t_M_ok n_M hP hS hv.1 rfl 0 (by decide) wd_506 rfl rfl rfl (rfl) (Nat.le_of_ble_eq_true rfl) d_M_ask_35 (fun H locs hP hS => ?_)
      obtain ⟨f11, ef11⟩ : ∃ z99, z99 = va_up f y (some (ob 4 [.int 1, .int (nI (bN b)), .ref (ca 0), .ref (ca 1), .ref (ca 2), .ref (ca 3), .int (nI (bRc b)), .ref (ca 4), .int (nI (bHc b)), .ref (ca 5), .ref (ca 6), .ref (ca 7), .ref (ca 8), .ref (ca 9), .ref (ca 10), .ref (ca 11), .ref (ca 12), .ref (ca 13), .ref (ca 14), .ref (ca 15), .ref (ca 16), .ref (ca 17), .long bc, .int cp])) := ⟨_, rfl⟩
      replace hP : hH G (hA f s.heap.size) f11 H := by rw [ef11]; exact hP
      have hv_f11 : mv G f11 y ca 1 (nI (bN b)) (nI (bRc b)) (nI (bHc b)) bc cp MK PL AB BE AS FP PC PF PT PU RA KC PK ST DC DY DS SU := by rw [ef11]; exact mv_y hv _ _ _ _ _ _
      refine lv_aload_n hx hb d_M_ask_38 rfl (lv_at hl 0 rfl) ?_
      refine g_get C i_M hP hv_f11.1 rfl 0 (by decide) wd_506 rfl rfl d_M_ask_39 ?_
      refine lv_if_ne (tgt := 62) hx hb d_M_ask_42 (by decide) (fun c_42 => ?_) (fun c_42 => ?_)
      · refine lv_iconst (v := 0) hx hb d_M_ask_62 (by decide) ?_
        exact g_zret C (by first | exact Or.inl rfl | exact Or.inr rfl) hP hS (⟨1, b, bc, cp, ⟨MK, PL, AB, BE, AS, FP, PC, PF, PT, PU, RA, KC, PK, ST, DC, DY, DS, SU, hv_f11, hR⟩, Or.inr (Or.inr ⟨hB, rfl, rfl⟩)⟩) (Nat.le_of_ble_eq_true rfl) (Nat.le_of_ble_eq_true rfl) d_M_ask_63
      · exact absurd c_42 (by decide)
set_option maxHeartbeats 4000000 in
set_option maxRecDepth 100000 in
theorem ct_M_told {l : Launch} {G : hG} (f : hm) (y : Nat) (ca : Nat → Nat) (b : BD) (hok : bOK b) (th : Int32) (bc : Int64) (cp : Int32) (hm : mS G f y ca b th bc cp) (p0 : Int32) (n0 : Int32) (w0 : Int32) (r0 : Int64) (b1 : BD) (hK0 : I_told b p0 n0 w0 → True → K_told b p0 n0 w0 r0 ∧ b1 = b) : cl_ l G y_M_told w_M_told { frames := 2, cells := 0, slots := 0, locals := 120 } [.ref y, .int p0, .int n0, .int w0] f (fun r u => ∃ th2 b2 bc2 cp2, mS G u y ca b2 th2 bc2 cp2 ∧ mp (I_told b p0 n0 w0) (True) b b1 (r = r0) th2 b2) := by
  intro sz
  refine h_ofW (cc := c_M_told) (maxL := 4) (ret := (some .long)) (by decide) rfl (Nat.le_of_ble_eq_true rfl) ?_
  intro p e s m below meth c ls C hin hsz hP hl
  obtain ⟨hx, hb, hml, hown, -, -, -, -⟩ := id C
  subst hsz
  have hA0 : ∀ q, s.heap.size ≤ q → hA f s.heap.size q := hA.new
  have hS : va_S (hA f s.heap.size) s.heap s.heap [] := va_S.rf
  replace hl : lv_has ls 4 [(0, .ref y), (1, .int p0), (2, .int n0), (3, .int w0)] := hl
  obtain ⟨MK, PL, AB, BE, AS, FP, PC, PF, PT, PU, RA, KC, PK, ST, DC, DY, DS, SU, hv, hR⟩ := hm
  have hNN : bN b ≤ 40 := hok.1.1
  have hRC : bRc b ≤ 10 := hok.1.2.1
  have hHC : bHc b ≤ 40 := hok.1.2.2
  refine lv_aload_n hx hb d_M_told_0 rfl (lv_at hl 0 rfl) ?_
  refine lv_aload_n hx hb d_M_told_1 rfl (lv_at hl 0 rfl) ?_
  refine lv_iload_n hx hb d_M_told_2 rfl (lv_at hl 1 rfl) ?_
  refine g_calli (g_runV C hl.1 (ct_M_isPart f y ca b hok th bc cp ⟨MK, PL, AB, BE, AS, FP, PC, PF, PT, PU, RA, KC, PK, ST, DC, DY, DS, SU, hv, hR⟩ p0 _) (cx_V C 1 wd_605 wd_607 wp_14 wd_3 wd_608 rfl rfl (by decide +kernel) ⟨Nat.le_of_ble_eq_true rfl, Nat.le_of_ble_eq_true rfl⟩) hP hv.1 rfl rfl rfl (Nat.le_of_ble_eq_true rfl) d_M_told_3 ⟨Nat.le_of_ble_eq_true rfl, Nat.le_of_ble_eq_true rfl⟩) hP hS hA0 (fun r2 f1 H locs hq hP hS => ?_)
  obtain ⟨hzP, hu⟩ := hq
  rw [hu] at hP
  refine lv_if_eq (tgt := 29) hx hb d_M_told_6 (by decide) (fun c_6 => ?_) (fun c_6 => ?_)
  · refine lv_iconst (v := 1) hx hb d_M_told_29 (by decide) ?_
    have hB : ¬ (I_told b p0 n0 w0) := fun z9 => by first | exact bz_f hzP c_6 z9.1 | exact bz_f hzN c_13 z9.2.1 | (obtain ⟨k, hk9, rfl⟩ := z9.2.2; rcases (show k = 0 ∨ k = 1 by omega) with rfl | rfl; exact c_17 rfl; exact c_22 rfl)
    refine g_put C i_M t_M t_M_ok n_M hP hS hv.1 rfl 0 (by decide) wd_506 rfl rfl rfl (rfl) (Nat.le_of_ble_eq_true rfl) d_M_told_30 (fun H locs hP hS => ?_)
    obtain ⟨f3, ef3⟩ : ∃ z99, z99 = va_up f y (some (ob 4 [.int 1, .int (nI (bN b)), .ref (ca 0), .ref (ca 1), .ref (ca 2), .ref (ca 3), .int (nI (bRc b)), .ref (ca 4), .int (nI (bHc b)), .ref (ca 5), .ref (ca 6), .ref (ca 7), .ref (ca 8), .ref (ca 9), .ref (ca 10), .ref (ca 11), .ref (ca 12), .ref (ca 13), .ref (ca 14), .ref (ca 15), .ref (ca 16), .ref (ca 17), .long bc, .int cp])) := ⟨_, rfl⟩
    replace hP : hH G (hA f s.heap.size) f3 H := by rw [ef3]; exact hP
    have hv_f3 : mv G f3 y ca 1 (nI (bN b)) (nI (bRc b)) (nI (bHc b)) bc cp MK PL AB BE AS FP PC PF PT PU RA KC PK ST DC DY DS SU := by rw [ef3]; exact mv_y hv _ _ _ _ _ _
    refine lv_aload_n hx hb d_M_told_33 rfl (lv_at hl 0 rfl) ?_
    refine g_get C i_M hP hv_f3.1 rfl 0 (by decide) wd_506 rfl rfl d_M_told_34 ?_
    refine lv_if_eq (tgt := 42) hx hb d_M_told_37 (by decide) (fun c_37 => ?_) (fun c_37 => ?_)
    · exact absurd c_37 (by decide)
    · refine lv_lconst (v := 0) hx hb d_M_told_40 (by decide) ?_
      exact g_lret C hP hS (⟨1, b, bc, cp, ⟨MK, PL, AB, BE, AS, FP, PC, PF, PT, PU, RA, KC, PK, ST, DC, DY, DS, SU, hv_f3, hR⟩, Or.inr (Or.inr ⟨hB, rfl, rfl⟩)⟩) (Nat.le_of_ble_eq_true rfl) (Nat.le_of_ble_eq_true rfl) d_M_told_41
  · refine lv_iload_n hx hb d_M_told_9 rfl (lv_at hl 2 rfl) ?_
    refine g_calli (g_runS C hl.1 (ct_M_isName f n0 _) (cx_S C 1 wd_609 wd_610 wd_3 wd_611 rfl rfl (by decide +kernel) ⟨Nat.le_of_ble_eq_true rfl, Nat.le_of_ble_eq_true rfl⟩) hP rfl rfl (Nat.le_of_ble_eq_true rfl) d_M_told_10 ⟨Nat.le_of_ble_eq_true rfl, Nat.le_of_ble_eq_true rfl⟩) hP hS hA0 (fun r5 f4 H locs hq hP hS => ?_)
    obtain ⟨hzN, hu⟩ := hq
    rw [hu] at hP
    refine lv_if_eq (tgt := 29) hx hb d_M_told_13 (by decide) (fun c_13 => ?_) (fun c_13 => ?_)
    · refine lv_iconst (v := 1) hx hb d_M_told_29 (by decide) ?_
      have hB : ¬ (I_told b p0 n0 w0) := fun z9 => by first | exact bz_f hzP c_6 z9.1 | exact bz_f hzN c_13 z9.2.1 | (obtain ⟨k, hk9, rfl⟩ := z9.2.2; rcases (show k = 0 ∨ k = 1 by omega) with rfl | rfl; exact c_17 rfl; exact c_22 rfl)
      refine g_put C i_M t_M t_M_ok n_M hP hS hv.1 rfl 0 (by decide) wd_506 rfl rfl rfl (rfl) (Nat.le_of_ble_eq_true rfl) d_M_told_30 (fun H locs hP hS => ?_)
      obtain ⟨f6, ef6⟩ : ∃ z99, z99 = va_up f y (some (ob 4 [.int 1, .int (nI (bN b)), .ref (ca 0), .ref (ca 1), .ref (ca 2), .ref (ca 3), .int (nI (bRc b)), .ref (ca 4), .int (nI (bHc b)), .ref (ca 5), .ref (ca 6), .ref (ca 7), .ref (ca 8), .ref (ca 9), .ref (ca 10), .ref (ca 11), .ref (ca 12), .ref (ca 13), .ref (ca 14), .ref (ca 15), .ref (ca 16), .ref (ca 17), .long bc, .int cp])) := ⟨_, rfl⟩
      replace hP : hH G (hA f s.heap.size) f6 H := by rw [ef6]; exact hP
      have hv_f6 : mv G f6 y ca 1 (nI (bN b)) (nI (bRc b)) (nI (bHc b)) bc cp MK PL AB BE AS FP PC PF PT PU RA KC PK ST DC DY DS SU := by rw [ef6]; exact mv_y hv _ _ _ _ _ _
      refine lv_aload_n hx hb d_M_told_33 rfl (lv_at hl 0 rfl) ?_
      refine g_get C i_M hP hv_f6.1 rfl 0 (by decide) wd_506 rfl rfl d_M_told_34 ?_
      refine lv_if_eq (tgt := 42) hx hb d_M_told_37 (by decide) (fun c_37 => ?_) (fun c_37 => ?_)
      · exact absurd c_37 (by decide)
      · refine lv_lconst (v := 0) hx hb d_M_told_40 (by decide) ?_
        exact g_lret C hP hS (⟨1, b, bc, cp, ⟨MK, PL, AB, BE, AS, FP, PC, PF, PT, PU, RA, KC, PK, ST, DC, DY, DS, SU, hv_f6, hR⟩, Or.inr (Or.inr ⟨hB, rfl, rfl⟩)⟩) (Nat.le_of_ble_eq_true rfl) (Nat.le_of_ble_eq_true rfl) d_M_told_41
    · refine lv_iload_n hx hb d_M_told_16 rfl (lv_at hl 3 rfl) ?_
      refine lv_if_eq (tgt := 25) hx hb d_M_told_17 (by decide) (fun c_17 => ?_) (fun c_17 => ?_)
      · refine lv_iconst (v := 0) hx hb d_M_told_25 (by decide) ?_
        refine lv_goto (tgt := 30) hx hb d_M_told_26 (by decide) ?_
        have hI : I_told b p0 n0 w0 := ⟨bz_t hzP c_6, bz_t hzN c_13, by first | exact ⟨0, by decide, c_17⟩ | exact ⟨1, by decide, c_22⟩⟩
        have hN : True := trivial
        obtain ⟨⟨i, n, k, hi, rfl, hn, rfl, hk9, rfl, hr0⟩, eb⟩ := hK0 hI hN
        refine g_put C i_M t_M t_M_ok n_M hP hS hv.1 rfl 0 (by decide) wd_506 rfl rfl rfl (rfl) (Nat.le_of_ble_eq_true rfl) d_M_told_30 (fun H locs hP hS => ?_)
        obtain ⟨f7, ef7⟩ : ∃ z99, z99 = va_up f y (some (ob 4 [.int 0, .int (nI (bN b)), .ref (ca 0), .ref (ca 1), .ref (ca 2), .ref (ca 3), .int (nI (bRc b)), .ref (ca 4), .int (nI (bHc b)), .ref (ca 5), .ref (ca 6), .ref (ca 7), .ref (ca 8), .ref (ca 9), .ref (ca 10), .ref (ca 11), .ref (ca 12), .ref (ca 13), .ref (ca 14), .ref (ca 15), .ref (ca 16), .ref (ca 17), .long bc, .int cp])) := ⟨_, rfl⟩
        replace hP : hH G (hA f s.heap.size) f7 H := by rw [ef7]; exact hP
        have hv_f7 : mv G f7 y ca 0 (nI (bN b)) (nI (bRc b)) (nI (bHc b)) bc cp MK PL AB BE AS FP PC PF PT PU RA KC PK ST DC DY DS SU := by rw [ef7]; exact mv_y hv _ _ _ _ _ _
        refine lv_aload_n hx hb d_M_told_33 rfl (lv_at hl 0 rfl) ?_
        refine g_get C i_M hP hv_f7.1 rfl 0 (by decide) wd_506 rfl rfl d_M_told_34 ?_
        refine lv_if_eq (tgt := 42) hx hb d_M_told_37 (by decide) (fun c_37 => ?_) (fun c_37 => ?_)
        · refine lv_aload_n hx hb d_M_told_42 rfl (lv_at hl 0 rfl) ?_
          refine lv_iload_n hx hb d_M_told_43 rfl (lv_at hl 1 rfl) ?_
          refine lv_iload_n hx hb d_M_told_44 rfl (lv_at hl 2 rfl) ?_
          refine g_calli (g_runV C hl.1 (ct_M_hasValue f7 y ca b hok 0 bc cp ⟨MK, PL, AB, BE, AS, FP, PC, PF, PT, PU, RA, KC, PK, ST, DC, DY, DS, SU, hv_f7, hR⟩ i n hi hn _) (cx_V C 2 wd_620 wd_622 wp_15 wd_3 wd_623 rfl rfl (by decide +kernel) ⟨Nat.le_of_ble_eq_true rfl, Nat.le_of_ble_eq_true rfl⟩) hP hv_f7.1 rfl rfl rfl (Nat.le_of_ble_eq_true rfl) d_M_told_45 ⟨Nat.le_of_ble_eq_true rfl, Nat.le_of_ble_eq_true rfl⟩) hP hS hA0 (fun r9 f8 H locs hq hP hS => ?_)
          obtain ⟨hzV, hu⟩ := hq
          rw [hu] at hP
          refine lv_if_ne (tgt := 55) hx hb d_M_told_48 (by decide) (fun c_48 => ?_) (fun c_48 => ?_)
          · have q_1 : pVb (bD b i) n ≠ 0 := bz_t hzV c_48
            refine lv_iload_n hx hb d_M_told_55 rfl (lv_at hl 3 rfl) ?_
            refine lv_if_ne (tgt := 73) hx hb d_M_told_56 (by decide) (fun c_56 => ?_) (fun c_56 => ?_)
            · have q_2 : ¬ k = 0 := fun z9 => c_56 (by rw [z9]; rfl)
              refine lv_aload_n hx hb d_M_told_73 rfl (lv_at hl 0 rfl) ?_
              refine g_get C i_M hP hv_f7.1 rfl 5 (by decide) wd_511 rfl rfl d_M_told_74 ?_
              refine lv_bipush (v := 12) hx hb d_M_told_77 (by decide) ?_
              refine lv_iload_n hx hb d_M_told_79 rfl (lv_at hl 1 rfl) ?_
              refine lv_imul hx hb d_M_told_80 ?_
              refine g_eqi (y := nI (12 * i)) (pk_mul _ _) ?_
              refine lv_iload_n hx hb d_M_told_81 rfl (lv_at hl 2 rfl) ?_
              refine lv_iadd hx hb d_M_told_82 ?_
              refine g_eqi (y := nI (12 * i + n)) (nI_add _ _) ?_
              refine g_laldN C hP hv_f7.2.2.2.2.1 (j := (12 * i + n)) (by omega) (by decide) d_M_told_83 ?_
              refine g_eql (y := lN (pVb (bD b i) n)) (((hR.2.1 i hi).2 n hn).2 q_1) ?_
              exact g_lret C hP hS (⟨0, b, bc, cp, ⟨MK, PL, AB, BE, AS, FP, PC, PF, PT, PU, RA, KC, PK, ST, DC, DY, DS, SU, hv_f7, hR⟩, Or.inl ⟨hI, hN, rfl, eb.symm, by rw [hr0, if_neg q_1, if_neg q_2]⟩⟩) (Nat.le_of_ble_eq_true rfl) (Nat.le_of_ble_eq_true rfl) d_M_told_84
            · have q_2 : k = 0 := (nI_eq (b := 0) (by omega) (by omega)).mp c_56
              refine lv_aload_n hx hb d_M_told_59 rfl (lv_at hl 0 rfl) ?_
              refine g_get C i_M hP hv_f7.1 rfl 4 (by decide) wd_510 rfl rfl d_M_told_60 ?_
              refine lv_bipush (v := 12) hx hb d_M_told_63 (by decide) ?_
              refine lv_iload_n hx hb d_M_told_65 rfl (lv_at hl 1 rfl) ?_
              refine lv_imul hx hb d_M_told_66 ?_
              refine g_eqi (y := nI (12 * i)) (pk_mul _ _) ?_
              refine lv_iload_n hx hb d_M_told_67 rfl (lv_at hl 2 rfl) ?_
              refine lv_iadd hx hb d_M_told_68 ?_
              refine g_eqi (y := nI (12 * i + n)) (nI_add _ _) ?_
              refine g_laldN C hP hv_f7.2.2.2.1 (j := (12 * i + n)) (by omega) (by decide) d_M_told_69 ?_
              refine g_eql (y := lN (pVa (bD b i) n)) (((hR.2.1 i hi).2 n hn).1.trans (if_neg q_1)) ?_
              refine lv_goto (tgt := 84) hx hb d_M_told_70 (by decide) ?_
              exact g_lret C hP hS (⟨0, b, bc, cp, ⟨MK, PL, AB, BE, AS, FP, PC, PF, PT, PU, RA, KC, PK, ST, DC, DY, DS, SU, hv_f7, hR⟩, Or.inl ⟨hI, hN, rfl, eb.symm, by rw [hr0, if_neg q_1, if_pos q_2]⟩⟩) (Nat.le_of_ble_eq_true rfl) (Nat.le_of_ble_eq_true rfl) d_M_told_84
          · have q_1 : pVb (bD b i) n = 0 := Decidable.of_not_not (bz_f hzV c_48)
            refine lv_ldc2 hx hb hown (C.w wd_588) d_M_told_51 ?_
            exact g_lret C hP hS (⟨0, b, bc, cp, ⟨MK, PL, AB, BE, AS, FP, PC, PF, PT, PU, RA, KC, PK, ST, DC, DY, DS, SU, hv_f7, hR⟩, Or.inl ⟨hI, hN, rfl, eb.symm, by rw [hr0, if_pos q_1]⟩⟩) (Nat.le_of_ble_eq_true rfl) (Nat.le_of_ble_eq_true rfl) d_M_told_54
        · exact absurd c_37 (by decide)
      · refine lv_iload_n hx hb d_M_told_20 rfl (lv_at hl 3 rfl) ?_
        refine lv_iconst (v := 1) hx hb d_M_told_21 (by decide) ?_
        refine lv_icmp_ne (tgt := 29) hx hb d_M_told_22 (by decide) (fun c_22 => ?_) (fun c_22 => ?_)
        · refine lv_iconst (v := 1) hx hb d_M_told_29 (by decide) ?_
          have hB : ¬ (I_told b p0 n0 w0) := fun z9 => by first | exact bz_f hzP c_6 z9.1 | exact bz_f hzN c_13 z9.2.1 | (obtain ⟨k, hk9, rfl⟩ := z9.2.2; rcases (show k = 0 ∨ k = 1 by omega) with rfl | rfl; exact c_17 rfl; exact c_22 rfl)
          refine g_put C i_M t_M t_M_ok n_M hP hS hv.1 rfl 0 (by decide) wd_506 rfl rfl rfl (rfl) (Nat.le_of_ble_eq_true rfl) d_M_told_30 (fun H locs hP hS => ?_)
          obtain ⟨f10, ef10⟩ : ∃ z99, z99 = va_up f y (some (ob 4 [.int 1, .int (nI (bN b)), .ref (ca 0), .ref (ca 1), .ref (ca 2), .ref (ca 3), .int (nI (bRc b)), .ref (ca 4), .int (nI (bHc b)), .ref (ca 5), .ref (ca 6), .ref (ca 7), .ref (ca 8), .ref (ca 9), .ref (ca 10), .ref (ca 11), .ref (ca 12), .ref (ca 13), .ref (ca 14), .ref (ca 15), .ref (ca 16), .ref (ca 17), .long bc, .int cp])) := ⟨_, rfl⟩
          replace hP : hH G (hA f s.heap.size) f10 H := by rw [ef10]; exact hP
          have hv_f10 : mv G f10 y ca 1 (nI (bN b)) (nI (bRc b)) (nI (bHc b)) bc cp MK PL AB BE AS FP PC PF PT PU RA KC PK ST DC DY DS SU := by rw [ef10]; exact mv_y hv _ _ _ _ _ _
          refine lv_aload_n hx hb d_M_told_33 rfl (lv_at hl 0 rfl) ?_
          refine g_get C i_M hP hv_f10.1 rfl 0 (by decide) wd_506 rfl rfl d_M_told_34 ?_
          refine lv_if_eq (tgt := 42) hx hb d_M_told_37 (by decide) (fun c_37 => ?_) (fun c_37 => ?_)
          · exact absurd c_37 (by decide)
          · refine lv_lconst (v := 0) hx hb d_M_told_40 (by decide) ?_
            exact g_lret C hP hS (⟨1, b, bc, cp, ⟨MK, PL, AB, BE, AS, FP, PC, PF, PT, PU, RA, KC, PK, ST, DC, DY, DS, SU, hv_f10, hR⟩, Or.inr (Or.inr ⟨hB, rfl, rfl⟩)⟩) (Nat.le_of_ble_eq_true rfl) (Nat.le_of_ble_eq_true rfl) d_M_told_41
        · refine lv_iconst (v := 0) hx hb d_M_told_25 (by decide) ?_
          refine lv_goto (tgt := 30) hx hb d_M_told_26 (by decide) ?_
          have hI : I_told b p0 n0 w0 := ⟨bz_t hzP c_6, bz_t hzN c_13, by first | exact ⟨0, by decide, c_17⟩ | exact ⟨1, by decide, c_22⟩⟩
          have hN : True := trivial
          obtain ⟨⟨i, n, k, hi, rfl, hn, rfl, hk9, rfl, hr0⟩, eb⟩ := hK0 hI hN
          refine g_put C i_M t_M t_M_ok n_M hP hS hv.1 rfl 0 (by decide) wd_506 rfl rfl rfl (rfl) (Nat.le_of_ble_eq_true rfl) d_M_told_30 (fun H locs hP hS => ?_)
          obtain ⟨f11, ef11⟩ : ∃ z99, z99 = va_up f y (some (ob 4 [.int 0, .int (nI (bN b)), .ref (ca 0), .ref (ca 1), .ref (ca 2), .ref (ca 3), .int (nI (bRc b)), .ref (ca 4), .int (nI (bHc b)), .ref (ca 5), .ref (ca 6), .ref (ca 7), .ref (ca 8), .ref (ca 9), .ref (ca 10), .ref (ca 11), .ref (ca 12), .ref (ca 13), .ref (ca 14), .ref (ca 15), .ref (ca 16), .ref (ca 17), .long bc, .int cp])) := ⟨_, rfl⟩
          replace hP : hH G (hA f s.heap.size) f11 H := by rw [ef11]; exact hP
          have hv_f11 : mv G f11 y ca 0 (nI (bN b)) (nI (bRc b)) (nI (bHc b)) bc cp MK PL AB BE AS FP PC PF PT PU RA KC PK ST DC DY DS SU := by rw [ef11]; exact mv_y hv _ _ _ _ _ _
          refine lv_aload_n hx hb d_M_told_33 rfl (lv_at hl 0 rfl) ?_
          refine g_get C i_M hP hv_f11.1 rfl 0 (by decide) wd_506 rfl rfl d_M_told_34 ?_
          refine lv_if_eq (tgt := 42) hx hb d_M_told_37 (by decide) (fun c_37 => ?_) (fun c_37 => ?_)
          · refine lv_aload_n hx hb d_M_told_42 rfl (lv_at hl 0 rfl) ?_
            refine lv_iload_n hx hb d_M_told_43 rfl (lv_at hl 1 rfl) ?_
            refine lv_iload_n hx hb d_M_told_44 rfl (lv_at hl 2 rfl) ?_
            refine g_calli (g_runV C hl.1 (ct_M_hasValue f11 y ca b hok 0 bc cp ⟨MK, PL, AB, BE, AS, FP, PC, PF, PT, PU, RA, KC, PK, ST, DC, DY, DS, SU, hv_f11, hR⟩ i n hi hn _) (cx_V C 2 wd_620 wd_622 wp_15 wd_3 wd_623 rfl rfl (by decide +kernel) ⟨Nat.le_of_ble_eq_true rfl, Nat.le_of_ble_eq_true rfl⟩) hP hv_f11.1 rfl rfl rfl (Nat.le_of_ble_eq_true rfl) d_M_told_45 ⟨Nat.le_of_ble_eq_true rfl, Nat.le_of_ble_eq_true rfl⟩) hP hS hA0 (fun r13 f12 H locs hq hP hS => ?_)
            obtain ⟨hzV, hu⟩ := hq
            rw [hu] at hP
            refine lv_if_ne (tgt := 55) hx hb d_M_told_48 (by decide) (fun c_48 => ?_) (fun c_48 => ?_)
            · have q_1 : pVb (bD b i) n ≠ 0 := bz_t hzV c_48
              refine lv_iload_n hx hb d_M_told_55 rfl (lv_at hl 3 rfl) ?_
              refine lv_if_ne (tgt := 73) hx hb d_M_told_56 (by decide) (fun c_56 => ?_) (fun c_56 => ?_)
              · have q_2 : ¬ k = 0 := fun z9 => c_56 (by rw [z9]; rfl)
                refine lv_aload_n hx hb d_M_told_73 rfl (lv_at hl 0 rfl) ?_
                refine g_get C i_M hP hv_f11.1 rfl 5 (by decide) wd_511 rfl rfl d_M_told_74 ?_
                refine lv_bipush (v := 12) hx hb d_M_told_77 (by decide) ?_
                refine lv_iload_n hx hb d_M_told_79 rfl (lv_at hl 1 rfl) ?_
                refine lv_imul hx hb d_M_told_80 ?_
                refine g_eqi (y := nI (12 * i)) (pk_mul _ _) ?_
                refine lv_iload_n hx hb d_M_told_81 rfl (lv_at hl 2 rfl) ?_
                refine lv_iadd hx hb d_M_told_82 ?_
                refine g_eqi (y := nI (12 * i + n)) (nI_add _ _) ?_
                refine g_laldN C hP hv_f11.2.2.2.2.1 (j := (12 * i + n)) (by omega) (by decide) d_M_told_83 ?_
                refine g_eql (y := lN (pVb (bD b i) n)) (((hR.2.1 i hi).2 n hn).2 q_1) ?_
                exact g_lret C hP hS (⟨0, b, bc, cp, ⟨MK, PL, AB, BE, AS, FP, PC, PF, PT, PU, RA, KC, PK, ST, DC, DY, DS, SU, hv_f11, hR⟩, Or.inl ⟨hI, hN, rfl, eb.symm, by rw [hr0, if_neg q_1, if_neg q_2]⟩⟩) (Nat.le_of_ble_eq_true rfl) (Nat.le_of_ble_eq_true rfl) d_M_told_84
              · have q_2 : k = 0 := (nI_eq (b := 0) (by omega) (by omega)).mp c_56
                refine lv_aload_n hx hb d_M_told_59 rfl (lv_at hl 0 rfl) ?_
                refine g_get C i_M hP hv_f11.1 rfl 4 (by decide) wd_510 rfl rfl d_M_told_60 ?_
                refine lv_bipush (v := 12) hx hb d_M_told_63 (by decide) ?_
                refine lv_iload_n hx hb d_M_told_65 rfl (lv_at hl 1 rfl) ?_
                refine lv_imul hx hb d_M_told_66 ?_
                refine g_eqi (y := nI (12 * i)) (pk_mul _ _) ?_
                refine lv_iload_n hx hb d_M_told_67 rfl (lv_at hl 2 rfl) ?_
                refine lv_iadd hx hb d_M_told_68 ?_
                refine g_eqi (y := nI (12 * i + n)) (nI_add _ _) ?_
                refine g_laldN C hP hv_f11.2.2.2.1 (j := (12 * i + n)) (by omega) (by decide) d_M_told_69 ?_
                refine g_eql (y := lN (pVa (bD b i) n)) (((hR.2.1 i hi).2 n hn).1.trans (if_neg q_1)) ?_
                refine lv_goto (tgt := 84) hx hb d_M_told_70 (by decide) ?_
                exact g_lret C hP hS (⟨0, b, bc, cp, ⟨MK, PL, AB, BE, AS, FP, PC, PF, PT, PU, RA, KC, PK, ST, DC, DY, DS, SU, hv_f11, hR⟩, Or.inl ⟨hI, hN, rfl, eb.symm, by rw [hr0, if_neg q_1, if_pos q_2]⟩⟩) (Nat.le_of_ble_eq_true rfl) (Nat.le_of_ble_eq_true rfl) d_M_told_84
            · have q_1 : pVb (bD b i) n = 0 := Decidable.of_not_not (bz_f hzV c_48)
              refine lv_ldc2 hx hb hown (C.w wd_588) d_M_told_51 ?_
              exact g_lret C hP hS (⟨0, b, bc, cp, ⟨MK, PL, AB, BE, AS, FP, PC, PF, PT, PU, RA, KC, PK, ST, DC, DY, DS, SU, hv_f11, hR⟩, Or.inl ⟨hI, hN, rfl, eb.symm, by rw [hr0, if_pos q_1]⟩⟩) (Nat.le_of_ble_eq_true rfl) (Nat.le_of_ble_eq_true rfl) d_M_told_54
          · exact absurd c_37 (by decide)
set_option maxHeartbeats 4000000 in
set_option maxRecDepth 100000 in
theorem ct_M_derate {l : Launch} {G : hG} (f : hm) (y : Nat) (ca : Nat → Nat) (b : BD) (hok : bOK b) (th : Int32) (bc : Int64) (cp : Int32) (hm : mS G f y ca b th bc cp) (p0 : Int32) (n0 : Int32) (x0 : Int64) (y0 : Int64) (q0 : Int32) (r0 : Int32) (b1 : BD) (hK0 : I_pn b p0 n0 → N_derate x0 y0 q0 → K_derate b p0 n0 x0 y0 q0 r0 ∧ b1 = b) : ci_ l G y_M_derate w_M_derate { frames := 2, cells := 0, slots := 0, locals := 120 } [.ref y, .int p0, .int n0, .long x0, .long y0, .int q0] f (fun r u => ∃ th2 b2 bc2 cp2, mS G u y ca b2 th2 bc2 cp2 ∧ mp (I_pn b p0 n0) (N_derate x0 y0 q0) b b1 (r = r0) th2 b2) := by
  intro sz
  refine h_ofW (cc := c_M_derate) (maxL := 10) (ret := (some .int)) (by decide) rfl (Nat.le_of_ble_eq_true rfl) ?_
  intro p e s m below meth c ls C hin hsz hP hl
  obtain ⟨hx, hb, hml, hown, -, -, -, -⟩ := id C
  subst hsz
  have hA0 : ∀ q, s.heap.size ≤ q → hA f s.heap.size q := hA.new
  have hS : va_S (hA f s.heap.size) s.heap s.heap [] := va_S.rf
  replace hl : lv_has ls 10 [(0, .ref y), (1, .int p0), (2, .int n0), (3, .long x0), (5, .long y0), (7, .int q0)] := hl
  obtain ⟨MK, PL, AB, BE, AS, FP, PC, PF, PT, PU, RA, KC, PK, ST, DC, DY, DS, SU, hv, hR⟩ := hm
  have hNN : bN b ≤ 40 := hok.1.1
  have hRC : bRc b ≤ 10 := hok.1.2.1
  have hHC : bHc b ≤ 40 := hok.1.2.2
  refine lv_lload_n hx hb d_M_derate_0 rfl (lv_at hl 3 rfl) ?_
  refine g_calli (g_runS C hl.1 (ct_M_isAbove f x0 _) (cx_S C 1 wd_597 wd_598 wd_3 wd_599 rfl rfl (by decide +kernel) ⟨Nat.le_of_ble_eq_true rfl, Nat.le_of_ble_eq_true rfl⟩) hP rfl rfl (Nat.le_of_ble_eq_true rfl) d_M_derate_1 ⟨Nat.le_of_ble_eq_true rfl, Nat.le_of_ble_eq_true rfl⟩) hP hS hA0 (fun r2 f1 H locs hq hP hS => ?_)
  obtain ⟨hzA, hu⟩ := hq
  rw [hu] at hP
  refine lv_if_eq (tgt := 32) hx hb d_M_derate_4 (by decide) (fun c_4 => ?_) (fun c_4 => ?_)
  · refine lv_iconst (v := 0) hx hb d_M_derate_32 (by decide) ?_
    have hG : ¬ (N_derate x0 y0 q0) := fun z9 => by first | exact bz_f hzA c_4 z9.1.1 | exact bz_f hzB c_12 z9.1.2 | exact Int32.not_lt.mpr z9.2.1 c_18 | exact Int32.not_lt.mpr z9.2.2 c_25
    refine lv_istore (lv' := [(8, .int 0), (0, .ref y), (1, .int p0), (2, .int n0), (3, .long x0), (5, .long y0), (7, .int q0)]) hx hb d_M_derate_33 hl (by decide) rfl (fun ls hl => ?_)
    refine lv_aload_n hx hb d_M_derate_35 rfl (lv_at hl 1 rfl) ?_
    refine lv_aload_n hx hb d_M_derate_36 rfl (lv_at hl 1 rfl) ?_
    refine lv_iload_n hx hb d_M_derate_37 rfl (lv_at hl 2 rfl) ?_
    refine g_calli (g_runV C hl.1 (ct_M_isPart f y ca b hok th bc cp ⟨MK, PL, AB, BE, AS, FP, PC, PF, PT, PU, RA, KC, PK, ST, DC, DY, DS, SU, hv, hR⟩ p0 _) (cx_V C 1 wd_605 wd_607 wp_14 wd_3 wd_608 rfl rfl (by decide +kernel) ⟨Nat.le_of_ble_eq_true rfl, Nat.le_of_ble_eq_true rfl⟩) hP hv.1 rfl rfl rfl (Nat.le_of_ble_eq_true rfl) d_M_derate_38 ⟨Nat.le_of_ble_eq_true rfl, Nat.le_of_ble_eq_true rfl⟩) hP hS hA0 (fun r4 f3 H locs hq hP hS => ?_)
    obtain ⟨hzP, hu⟩ := hq
    rw [hu] at hP
    refine lv_if_eq (tgt := 51) hx hb d_M_derate_41 (by decide) (fun c_41 => ?_) (fun c_41 => ?_)
    · refine lv_iconst (v := 1) hx hb d_M_derate_51 (by decide) ?_
      refine lv_goto (tgt := 65) hx hb d_M_derate_52 (by decide) ?_
      have hB : ¬ (I_pn b p0 n0) := fun z9 => by first | exact bz_f hzP c_41 z9.1 | exact bz_f hzN c_48 z9.2
      refine g_put C i_M t_M t_M_ok n_M hP hS hv.1 rfl 0 (by decide) wd_506 rfl rfl rfl (rfl) (Nat.le_of_ble_eq_true rfl) d_M_derate_65 (fun H locs hP hS => ?_)
      obtain ⟨f5, ef5⟩ : ∃ z99, z99 = va_up f y (some (ob 4 [.int 1, .int (nI (bN b)), .ref (ca 0), .ref (ca 1), .ref (ca 2), .ref (ca 3), .int (nI (bRc b)), .ref (ca 4), .int (nI (bHc b)), .ref (ca 5), .ref (ca 6), .ref (ca 7), .ref (ca 8), .ref (ca 9), .ref (ca 10), .ref (ca 11), .ref (ca 12), .ref (ca 13), .ref (ca 14), .ref (ca 15), .ref (ca 16), .ref (ca 17), .long bc, .int cp])) := ⟨_, rfl⟩
      replace hP : hH G (hA f s.heap.size) f5 H := by rw [ef5]; exact hP
      have hv_f5 : mv G f5 y ca 1 (nI (bN b)) (nI (bRc b)) (nI (bHc b)) bc cp MK PL AB BE AS FP PC PF PT PU RA KC PK ST DC DY DS SU := by rw [ef5]; exact mv_y hv _ _ _ _ _ _
      refine lv_aload_n hx hb d_M_derate_68 rfl (lv_at hl 1 rfl) ?_
      refine g_get C i_M hP hv_f5.1 rfl 0 (by decide) wd_506 rfl rfl d_M_derate_69 ?_
      refine lv_if_eq (tgt := 77) hx hb d_M_derate_72 (by decide) (fun c_72 => ?_) (fun c_72 => ?_)
      · exact absurd c_72 (by decide)
      · refine lv_iconst (v := 0) hx hb d_M_derate_75 (by decide) ?_
        exact g_iret C hP hS (⟨1, b, bc, cp, ⟨MK, PL, AB, BE, AS, FP, PC, PF, PT, PU, RA, KC, PK, ST, DC, DY, DS, SU, hv_f5, hR⟩, Or.inr (Or.inr ⟨hB, rfl, rfl⟩)⟩) (Nat.le_of_ble_eq_true rfl) (Nat.le_of_ble_eq_true rfl) d_M_derate_76
    · refine lv_iload_n hx hb d_M_derate_44 rfl (lv_at hl 3 rfl) ?_
      refine g_calli (g_runS C hl.1 (ct_M_isName f n0 _) (cx_S C 1 wd_609 wd_610 wd_3 wd_611 rfl rfl (by decide +kernel) ⟨Nat.le_of_ble_eq_true rfl, Nat.le_of_ble_eq_true rfl⟩) hP rfl rfl (Nat.le_of_ble_eq_true rfl) d_M_derate_45 ⟨Nat.le_of_ble_eq_true rfl, Nat.le_of_ble_eq_true rfl⟩) hP hS hA0 (fun r7 f6 H locs hq hP hS => ?_)
      obtain ⟨hzN, hu⟩ := hq
      rw [hu] at hP
      refine lv_if_ne (tgt := 55) hx hb d_M_derate_48 (by decide) (fun c_48 => ?_) (fun c_48 => ?_)
      · refine lv_iload hx hb d_M_derate_55 (lv_at hl 0 rfl) ?_
        refine lv_if_eq (tgt := 64) hx hb d_M_derate_57 (by decide) (fun c_57 => ?_) (fun c_57 => ?_)
        · refine lv_iconst (v := 2) hx hb d_M_derate_64 (by decide) ?_
          have hI : I_pn b p0 n0 := ⟨bz_t hzP c_41, bz_t hzN c_48⟩
          have hB : ¬ (N_derate x0 y0 q0) := fun z9 => hG z9
          refine g_put C i_M t_M t_M_ok n_M hP hS hv.1 rfl 0 (by decide) wd_506 rfl rfl rfl (rfl) (Nat.le_of_ble_eq_true rfl) d_M_derate_65 (fun H locs hP hS => ?_)
          obtain ⟨f8, ef8⟩ : ∃ z99, z99 = va_up f y (some (ob 4 [.int 2, .int (nI (bN b)), .ref (ca 0), .ref (ca 1), .ref (ca 2), .ref (ca 3), .int (nI (bRc b)), .ref (ca 4), .int (nI (bHc b)), .ref (ca 5), .ref (ca 6), .ref (ca 7), .ref (ca 8), .ref (ca 9), .ref (ca 10), .ref (ca 11), .ref (ca 12), .ref (ca 13), .ref (ca 14), .ref (ca 15), .ref (ca 16), .ref (ca 17), .long bc, .int cp])) := ⟨_, rfl⟩
          replace hP : hH G (hA f s.heap.size) f8 H := by rw [ef8]; exact hP
          have hv_f8 : mv G f8 y ca 2 (nI (bN b)) (nI (bRc b)) (nI (bHc b)) bc cp MK PL AB BE AS FP PC PF PT PU RA KC PK ST DC DY DS SU := by rw [ef8]; exact mv_y hv _ _ _ _ _ _
          refine lv_aload_n hx hb d_M_derate_68 rfl (lv_at hl 1 rfl) ?_
          refine g_get C i_M hP hv_f8.1 rfl 0 (by decide) wd_506 rfl rfl d_M_derate_69 ?_
          refine lv_if_eq (tgt := 77) hx hb d_M_derate_72 (by decide) (fun c_72 => ?_) (fun c_72 => ?_)
          · exact absurd c_72 (by decide)
          · refine lv_iconst (v := 0) hx hb d_M_derate_75 (by decide) ?_
            exact g_iret C hP hS (⟨2, b, bc, cp, ⟨MK, PL, AB, BE, AS, FP, PC, PF, PT, PU, RA, KC, PK, ST, DC, DY, DS, SU, hv_f8, hR⟩, Or.inr (Or.inl ⟨hI, hB, rfl, rfl⟩)⟩) (Nat.le_of_ble_eq_true rfl) (Nat.le_of_ble_eq_true rfl) d_M_derate_76
        · exact absurd c_57 (by decide)
      · refine lv_iconst (v := 1) hx hb d_M_derate_51 (by decide) ?_
        refine lv_goto (tgt := 65) hx hb d_M_derate_52 (by decide) ?_
        have hB : ¬ (I_pn b p0 n0) := fun z9 => by first | exact bz_f hzP c_41 z9.1 | exact bz_f hzN c_48 z9.2
        refine g_put C i_M t_M t_M_ok n_M hP hS hv.1 rfl 0 (by decide) wd_506 rfl rfl rfl (rfl) (Nat.le_of_ble_eq_true rfl) d_M_derate_65 (fun H locs hP hS => ?_)
        obtain ⟨f9, ef9⟩ : ∃ z99, z99 = va_up f y (some (ob 4 [.int 1, .int (nI (bN b)), .ref (ca 0), .ref (ca 1), .ref (ca 2), .ref (ca 3), .int (nI (bRc b)), .ref (ca 4), .int (nI (bHc b)), .ref (ca 5), .ref (ca 6), .ref (ca 7), .ref (ca 8), .ref (ca 9), .ref (ca 10), .ref (ca 11), .ref (ca 12), .ref (ca 13), .ref (ca 14), .ref (ca 15), .ref (ca 16), .ref (ca 17), .long bc, .int cp])) := ⟨_, rfl⟩
        replace hP : hH G (hA f s.heap.size) f9 H := by rw [ef9]; exact hP
        have hv_f9 : mv G f9 y ca 1 (nI (bN b)) (nI (bRc b)) (nI (bHc b)) bc cp MK PL AB BE AS FP PC PF PT PU RA KC PK ST DC DY DS SU := by rw [ef9]; exact mv_y hv _ _ _ _ _ _
        refine lv_aload_n hx hb d_M_derate_68 rfl (lv_at hl 1 rfl) ?_
        refine g_get C i_M hP hv_f9.1 rfl 0 (by decide) wd_506 rfl rfl d_M_derate_69 ?_
        refine lv_if_eq (tgt := 77) hx hb d_M_derate_72 (by decide) (fun c_72 => ?_) (fun c_72 => ?_)
        · exact absurd c_72 (by decide)
        · refine lv_iconst (v := 0) hx hb d_M_derate_75 (by decide) ?_
          exact g_iret C hP hS (⟨1, b, bc, cp, ⟨MK, PL, AB, BE, AS, FP, PC, PF, PT, PU, RA, KC, PK, ST, DC, DY, DS, SU, hv_f9, hR⟩, Or.inr (Or.inr ⟨hB, rfl, rfl⟩)⟩) (Nat.le_of_ble_eq_true rfl) (Nat.le_of_ble_eq_true rfl) d_M_derate_76
  · refine lv_lload hx hb d_M_derate_7 (lv_at hl 4 rfl) ?_
    refine g_calli (g_runS C hl.1 (ct_M_isBelow f y0 _) (cx_S C 1 wd_601 wd_602 wd_3 wd_603 rfl rfl (by decide +kernel) ⟨Nat.le_of_ble_eq_true rfl, Nat.le_of_ble_eq_true rfl⟩) hP rfl rfl (Nat.le_of_ble_eq_true rfl) d_M_derate_9 ⟨Nat.le_of_ble_eq_true rfl, Nat.le_of_ble_eq_true rfl⟩) hP hS hA0 (fun r11 f10 H locs hq hP hS => ?_)
    obtain ⟨hzB, hu⟩ := hq
    rw [hu] at hP
    refine lv_if_eq (tgt := 32) hx hb d_M_derate_12 (by decide) (fun c_12 => ?_) (fun c_12 => ?_)
    · refine lv_iconst (v := 0) hx hb d_M_derate_32 (by decide) ?_
      have hG : ¬ (N_derate x0 y0 q0) := fun z9 => by first | exact bz_f hzA c_4 z9.1.1 | exact bz_f hzB c_12 z9.1.2 | exact Int32.not_lt.mpr z9.2.1 c_18 | exact Int32.not_lt.mpr z9.2.2 c_25
      refine lv_istore (lv' := [(8, .int 0), (0, .ref y), (1, .int p0), (2, .int n0), (3, .long x0), (5, .long y0), (7, .int q0)]) hx hb d_M_derate_33 hl (by decide) rfl (fun ls hl => ?_)
      refine lv_aload_n hx hb d_M_derate_35 rfl (lv_at hl 1 rfl) ?_
      refine lv_aload_n hx hb d_M_derate_36 rfl (lv_at hl 1 rfl) ?_
      refine lv_iload_n hx hb d_M_derate_37 rfl (lv_at hl 2 rfl) ?_
      refine g_calli (g_runV C hl.1 (ct_M_isPart f y ca b hok th bc cp ⟨MK, PL, AB, BE, AS, FP, PC, PF, PT, PU, RA, KC, PK, ST, DC, DY, DS, SU, hv, hR⟩ p0 _) (cx_V C 1 wd_605 wd_607 wp_14 wd_3 wd_608 rfl rfl (by decide +kernel) ⟨Nat.le_of_ble_eq_true rfl, Nat.le_of_ble_eq_true rfl⟩) hP hv.1 rfl rfl rfl (Nat.le_of_ble_eq_true rfl) d_M_derate_38 ⟨Nat.le_of_ble_eq_true rfl, Nat.le_of_ble_eq_true rfl⟩) hP hS hA0 (fun r13 f12 H locs hq hP hS => ?_)
      obtain ⟨hzP, hu⟩ := hq
      rw [hu] at hP
      refine lv_if_eq (tgt := 51) hx hb d_M_derate_41 (by decide) (fun c_41 => ?_) (fun c_41 => ?_)
      · refine lv_iconst (v := 1) hx hb d_M_derate_51 (by decide) ?_
        refine lv_goto (tgt := 65) hx hb d_M_derate_52 (by decide) ?_
        have hB : ¬ (I_pn b p0 n0) := fun z9 => by first | exact bz_f hzP c_41 z9.1 | exact bz_f hzN c_48 z9.2
        refine g_put C i_M t_M t_M_ok n_M hP hS hv.1 rfl 0 (by decide) wd_506 rfl rfl rfl (rfl) (Nat.le_of_ble_eq_true rfl) d_M_derate_65 (fun H locs hP hS => ?_)
        obtain ⟨f14, ef14⟩ : ∃ z99, z99 = va_up f y (some (ob 4 [.int 1, .int (nI (bN b)), .ref (ca 0), .ref (ca 1), .ref (ca 2), .ref (ca 3), .int (nI (bRc b)), .ref (ca 4), .int (nI (bHc b)), .ref (ca 5), .ref (ca 6), .ref (ca 7), .ref (ca 8), .ref (ca 9), .ref (ca 10), .ref (ca 11), .ref (ca 12), .ref (ca 13), .ref (ca 14), .ref (ca 15), .ref (ca 16), .ref (ca 17), .long bc, .int cp])) := ⟨_, rfl⟩
        replace hP : hH G (hA f s.heap.size) f14 H := by rw [ef14]; exact hP
        have hv_f14 : mv G f14 y ca 1 (nI (bN b)) (nI (bRc b)) (nI (bHc b)) bc cp MK PL AB BE AS FP PC PF PT PU RA KC PK ST DC DY DS SU := by rw [ef14]; exact mv_y hv _ _ _ _ _ _
        refine lv_aload_n hx hb d_M_derate_68 rfl (lv_at hl 1 rfl) ?_
        refine g_get C i_M hP hv_f14.1 rfl 0 (by decide) wd_506 rfl rfl d_M_derate_69 ?_
        refine lv_if_eq (tgt := 77) hx hb d_M_derate_72 (by decide) (fun c_72 => ?_) (fun c_72 => ?_)
        · exact absurd c_72 (by decide)
        · refine lv_iconst (v := 0) hx hb d_M_derate_75 (by decide) ?_
          exact g_iret C hP hS (⟨1, b, bc, cp, ⟨MK, PL, AB, BE, AS, FP, PC, PF, PT, PU, RA, KC, PK, ST, DC, DY, DS, SU, hv_f14, hR⟩, Or.inr (Or.inr ⟨hB, rfl, rfl⟩)⟩) (Nat.le_of_ble_eq_true rfl) (Nat.le_of_ble_eq_true rfl) d_M_derate_76
      · refine lv_iload_n hx hb d_M_derate_44 rfl (lv_at hl 3 rfl) ?_
        refine g_calli (g_runS C hl.1 (ct_M_isName f n0 _) (cx_S C 1 wd_609 wd_610 wd_3 wd_611 rfl rfl (by decide +kernel) ⟨Nat.le_of_ble_eq_true rfl, Nat.le_of_ble_eq_true rfl⟩) hP rfl rfl (Nat.le_of_ble_eq_true rfl) d_M_derate_45 ⟨Nat.le_of_ble_eq_true rfl, Nat.le_of_ble_eq_true rfl⟩) hP hS hA0 (fun r16 f15 H locs hq hP hS => ?_)
        obtain ⟨hzN, hu⟩ := hq
        rw [hu] at hP
        refine lv_if_ne (tgt := 55) hx hb d_M_derate_48 (by decide) (fun c_48 => ?_) (fun c_48 => ?_)
        · refine lv_iload hx hb d_M_derate_55 (lv_at hl 0 rfl) ?_
          refine lv_if_eq (tgt := 64) hx hb d_M_derate_57 (by decide) (fun c_57 => ?_) (fun c_57 => ?_)
          · refine lv_iconst (v := 2) hx hb d_M_derate_64 (by decide) ?_
            have hI : I_pn b p0 n0 := ⟨bz_t hzP c_41, bz_t hzN c_48⟩
            have hB : ¬ (N_derate x0 y0 q0) := fun z9 => hG z9
            refine g_put C i_M t_M t_M_ok n_M hP hS hv.1 rfl 0 (by decide) wd_506 rfl rfl rfl (rfl) (Nat.le_of_ble_eq_true rfl) d_M_derate_65 (fun H locs hP hS => ?_)
            obtain ⟨f17, ef17⟩ : ∃ z99, z99 = va_up f y (some (ob 4 [.int 2, .int (nI (bN b)), .ref (ca 0), .ref (ca 1), .ref (ca 2), .ref (ca 3), .int (nI (bRc b)), .ref (ca 4), .int (nI (bHc b)), .ref (ca 5), .ref (ca 6), .ref (ca 7), .ref (ca 8), .ref (ca 9), .ref (ca 10), .ref (ca 11), .ref (ca 12), .ref (ca 13), .ref (ca 14), .ref (ca 15), .ref (ca 16), .ref (ca 17), .long bc, .int cp])) := ⟨_, rfl⟩
            replace hP : hH G (hA f s.heap.size) f17 H := by rw [ef17]; exact hP
            have hv_f17 : mv G f17 y ca 2 (nI (bN b)) (nI (bRc b)) (nI (bHc b)) bc cp MK PL AB BE AS FP PC PF PT PU RA KC PK ST DC DY DS SU := by rw [ef17]; exact mv_y hv _ _ _ _ _ _
            refine lv_aload_n hx hb d_M_derate_68 rfl (lv_at hl 1 rfl) ?_
            refine g_get C i_M hP hv_f17.1 rfl 0 (by decide) wd_506 rfl rfl d_M_derate_69 ?_
            refine lv_if_eq (tgt := 77) hx hb d_M_derate_72 (by decide) (fun c_72 => ?_) (fun c_72 => ?_)
            · exact absurd c_72 (by decide)
            · refine lv_iconst (v := 0) hx hb d_M_derate_75 (by decide) ?_
              exact g_iret C hP hS (⟨2, b, bc, cp, ⟨MK, PL, AB, BE, AS, FP, PC, PF, PT, PU, RA, KC, PK, ST, DC, DY, DS, SU, hv_f17, hR⟩, Or.inr (Or.inl ⟨hI, hB, rfl, rfl⟩)⟩) (Nat.le_of_ble_eq_true rfl) (Nat.le_of_ble_eq_true rfl) d_M_derate_76
          · exact absurd c_57 (by decide)
        · refine lv_iconst (v := 1) hx hb d_M_derate_51 (by decide) ?_
          refine lv_goto (tgt := 65) hx hb d_M_derate_52 (by decide) ?_
          have hB : ¬ (I_pn b p0 n0) := fun z9 => by first | exact bz_f hzP c_41 z9.1 | exact bz_f hzN c_48 z9.2
          refine g_put C i_M t_M t_M_ok n_M hP hS hv.1 rfl 0 (by decide) wd_506 rfl rfl rfl (rfl) (Nat.le_of_ble_eq_true rfl) d_M_derate_65 (fun H locs hP hS => ?_)
          obtain ⟨f18, ef18⟩ : ∃ z99, z99 = va_up f y (some (ob 4 [.int 1, .int (nI (bN b)), .ref (ca 0), .ref (ca 1), .ref (ca 2), .ref (ca 3), .int (nI (bRc b)), .ref (ca 4), .int (nI (bHc b)), .ref (ca 5), .ref (ca 6), .ref (ca 7), .ref (ca 8), .ref (ca 9), .ref (ca 10), .ref (ca 11), .ref (ca 12), .ref (ca 13), .ref (ca 14), .ref (ca 15), .ref (ca 16), .ref (ca 17), .long bc, .int cp])) := ⟨_, rfl⟩
          replace hP : hH G (hA f s.heap.size) f18 H := by rw [ef18]; exact hP
          have hv_f18 : mv G f18 y ca 1 (nI (bN b)) (nI (bRc b)) (nI (bHc b)) bc cp MK PL AB BE AS FP PC PF PT PU RA KC PK ST DC DY DS SU := by rw [ef18]; exact mv_y hv _ _ _ _ _ _
          refine lv_aload_n hx hb d_M_derate_68 rfl (lv_at hl 1 rfl) ?_
          refine g_get C i_M hP hv_f18.1 rfl 0 (by decide) wd_506 rfl rfl d_M_derate_69 ?_
          refine lv_if_eq (tgt := 77) hx hb d_M_derate_72 (by decide) (fun c_72 => ?_) (fun c_72 => ?_)
          · exact absurd c_72 (by decide)
          · refine lv_iconst (v := 0) hx hb d_M_derate_75 (by decide) ?_
            exact g_iret C hP hS (⟨1, b, bc, cp, ⟨MK, PL, AB, BE, AS, FP, PC, PF, PT, PU, RA, KC, PK, ST, DC, DY, DS, SU, hv_f18, hR⟩, Or.inr (Or.inr ⟨hB, rfl, rfl⟩)⟩) (Nat.le_of_ble_eq_true rfl) (Nat.le_of_ble_eq_true rfl) d_M_derate_76
    · refine lv_iload hx hb d_M_derate_15 (lv_at hl 5 rfl) ?_
      refine lv_iconst (v := 1) hx hb d_M_derate_17 (by decide) ?_
      refine lv_icmp_lt (tgt := 32) hx hb d_M_derate_18 (by decide) (fun c_18 => ?_) (fun c_18 => ?_)
      · refine lv_iconst (v := 0) hx hb d_M_derate_32 (by decide) ?_
        have hG : ¬ (N_derate x0 y0 q0) := fun z9 => by first | exact bz_f hzA c_4 z9.1.1 | exact bz_f hzB c_12 z9.1.2 | exact Int32.not_lt.mpr z9.2.1 c_18 | exact Int32.not_lt.mpr z9.2.2 c_25
        refine lv_istore (lv' := [(8, .int 0), (0, .ref y), (1, .int p0), (2, .int n0), (3, .long x0), (5, .long y0), (7, .int q0)]) hx hb d_M_derate_33 hl (by decide) rfl (fun ls hl => ?_)
        refine lv_aload_n hx hb d_M_derate_35 rfl (lv_at hl 1 rfl) ?_
        refine lv_aload_n hx hb d_M_derate_36 rfl (lv_at hl 1 rfl) ?_
        refine lv_iload_n hx hb d_M_derate_37 rfl (lv_at hl 2 rfl) ?_
        refine g_calli (g_runV C hl.1 (ct_M_isPart f y ca b hok th bc cp ⟨MK, PL, AB, BE, AS, FP, PC, PF, PT, PU, RA, KC, PK, ST, DC, DY, DS, SU, hv, hR⟩ p0 _) (cx_V C 1 wd_605 wd_607 wp_14 wd_3 wd_608 rfl rfl (by decide +kernel) ⟨Nat.le_of_ble_eq_true rfl, Nat.le_of_ble_eq_true rfl⟩) hP hv.1 rfl rfl rfl (Nat.le_of_ble_eq_true rfl) d_M_derate_38 ⟨Nat.le_of_ble_eq_true rfl, Nat.le_of_ble_eq_true rfl⟩) hP hS hA0 (fun r20 f19 H locs hq hP hS => ?_)
        obtain ⟨hzP, hu⟩ := hq
        rw [hu] at hP
        refine lv_if_eq (tgt := 51) hx hb d_M_derate_41 (by decide) (fun c_41 => ?_) (fun c_41 => ?_)
        · refine lv_iconst (v := 1) hx hb d_M_derate_51 (by decide) ?_
          refine lv_goto (tgt := 65) hx hb d_M_derate_52 (by decide) ?_
          have hB : ¬ (I_pn b p0 n0) := fun z9 => by first | exact bz_f hzP c_41 z9.1 | exact bz_f hzN c_48 z9.2
          refine g_put C i_M t_M t_M_ok n_M hP hS hv.1 rfl 0 (by decide) wd_506 rfl rfl rfl (rfl) (Nat.le_of_ble_eq_true rfl) d_M_derate_65 (fun H locs hP hS => ?_)
          obtain ⟨f21, ef21⟩ : ∃ z99, z99 = va_up f y (some (ob 4 [.int 1, .int (nI (bN b)), .ref (ca 0), .ref (ca 1), .ref (ca 2), .ref (ca 3), .int (nI (bRc b)), .ref (ca 4), .int (nI (bHc b)), .ref (ca 5), .ref (ca 6), .ref (ca 7), .ref (ca 8), .ref (ca 9), .ref (ca 10), .ref (ca 11), .ref (ca 12), .ref (ca 13), .ref (ca 14), .ref (ca 15), .ref (ca 16), .ref (ca 17), .long bc, .int cp])) := ⟨_, rfl⟩
          replace hP : hH G (hA f s.heap.size) f21 H := by rw [ef21]; exact hP
          have hv_f21 : mv G f21 y ca 1 (nI (bN b)) (nI (bRc b)) (nI (bHc b)) bc cp MK PL AB BE AS FP PC PF PT PU RA KC PK ST DC DY DS SU := by rw [ef21]; exact mv_y hv _ _ _ _ _ _
          refine lv_aload_n hx hb d_M_derate_68 rfl (lv_at hl 1 rfl) ?_
          refine g_get C i_M hP hv_f21.1 rfl 0 (by decide) wd_506 rfl rfl d_M_derate_69 ?_
          refine lv_if_eq (tgt := 77) hx hb d_M_derate_72 (by decide) (fun c_72 => ?_) (fun c_72 => ?_)
          · exact absurd c_72 (by decide)
          · refine lv_iconst (v := 0) hx hb d_M_derate_75 (by decide) ?_
            exact g_iret C hP hS (⟨1, b, bc, cp, ⟨MK, PL, AB, BE, AS, FP, PC, PF, PT, PU, RA, KC, PK, ST, DC, DY, DS, SU, hv_f21, hR⟩, Or.inr (Or.inr ⟨hB, rfl, rfl⟩)⟩) (Nat.le_of_ble_eq_true rfl) (Nat.le_of_ble_eq_true rfl) d_M_derate_76
        · refine lv_iload_n hx hb d_M_derate_44 rfl (lv_at hl 3 rfl) ?_
          refine g_calli (g_runS C hl.1 (ct_M_isName f n0 _) (cx_S C 1 wd_609 wd_610 wd_3 wd_611 rfl rfl (by decide +kernel) ⟨Nat.le_of_ble_eq_true rfl, Nat.le_of_ble_eq_true rfl⟩) hP rfl rfl (Nat.le_of_ble_eq_true rfl) d_M_derate_45 ⟨Nat.le_of_ble_eq_true rfl, Nat.le_of_ble_eq_true rfl⟩) hP hS hA0 (fun r23 f22 H locs hq hP hS => ?_)
          obtain ⟨hzN, hu⟩ := hq
          rw [hu] at hP
          refine lv_if_ne (tgt := 55) hx hb d_M_derate_48 (by decide) (fun c_48 => ?_) (fun c_48 => ?_)
          · refine lv_iload hx hb d_M_derate_55 (lv_at hl 0 rfl) ?_
            refine lv_if_eq (tgt := 64) hx hb d_M_derate_57 (by decide) (fun c_57 => ?_) (fun c_57 => ?_)
            · refine lv_iconst (v := 2) hx hb d_M_derate_64 (by decide) ?_
              have hI : I_pn b p0 n0 := ⟨bz_t hzP c_41, bz_t hzN c_48⟩
              have hB : ¬ (N_derate x0 y0 q0) := fun z9 => hG z9
              refine g_put C i_M t_M t_M_ok n_M hP hS hv.1 rfl 0 (by decide) wd_506 rfl rfl rfl (rfl) (Nat.le_of_ble_eq_true rfl) d_M_derate_65 (fun H locs hP hS => ?_)
              obtain ⟨f24, ef24⟩ : ∃ z99, z99 = va_up f y (some (ob 4 [.int 2, .int (nI (bN b)), .ref (ca 0), .ref (ca 1), .ref (ca 2), .ref (ca 3), .int (nI (bRc b)), .ref (ca 4), .int (nI (bHc b)), .ref (ca 5), .ref (ca 6), .ref (ca 7), .ref (ca 8), .ref (ca 9), .ref (ca 10), .ref (ca 11), .ref (ca 12), .ref (ca 13), .ref (ca 14), .ref (ca 15), .ref (ca 16), .ref (ca 17), .long bc, .int cp])) := ⟨_, rfl⟩
              replace hP : hH G (hA f s.heap.size) f24 H := by rw [ef24]; exact hP
              have hv_f24 : mv G f24 y ca 2 (nI (bN b)) (nI (bRc b)) (nI (bHc b)) bc cp MK PL AB BE AS FP PC PF PT PU RA KC PK ST DC DY DS SU := by rw [ef24]; exact mv_y hv _ _ _ _ _ _
              refine lv_aload_n hx hb d_M_derate_68 rfl (lv_at hl 1 rfl) ?_
              refine g_get C i_M hP hv_f24.1 rfl 0 (by decide) wd_506 rfl rfl d_M_derate_69 ?_
              refine lv_if_eq (tgt := 77) hx hb d_M_derate_72 (by decide) (fun c_72 => ?_) (fun c_72 => ?_)
              · exact absurd c_72 (by decide)
              · refine lv_iconst (v := 0) hx hb d_M_derate_75 (by decide) ?_
                exact g_iret C hP hS (⟨2, b, bc, cp, ⟨MK, PL, AB, BE, AS, FP, PC, PF, PT, PU, RA, KC, PK, ST, DC, DY, DS, SU, hv_f24, hR⟩, Or.inr (Or.inl ⟨hI, hB, rfl, rfl⟩)⟩) (Nat.le_of_ble_eq_true rfl) (Nat.le_of_ble_eq_true rfl) d_M_derate_76
            · exact absurd c_57 (by decide)
          · refine lv_iconst (v := 1) hx hb d_M_derate_51 (by decide) ?_
            refine lv_goto (tgt := 65) hx hb d_M_derate_52 (by decide) ?_
            have hB : ¬ (I_pn b p0 n0) := fun z9 => by first | exact bz_f hzP c_41 z9.1 | exact bz_f hzN c_48 z9.2
            refine g_put C i_M t_M t_M_ok n_M hP hS hv.1 rfl 0 (by decide) wd_506 rfl rfl rfl (rfl) (Nat.le_of_ble_eq_true rfl) d_M_derate_65 (fun H locs hP hS => ?_)
            obtain ⟨f25, ef25⟩ : ∃ z99, z99 = va_up f y (some (ob 4 [.int 1, .int (nI (bN b)), .ref (ca 0), .ref (ca 1), .ref (ca 2), .ref (ca 3), .int (nI (bRc b)), .ref (ca 4), .int (nI (bHc b)), .ref (ca 5), .ref (ca 6), .ref (ca 7), .ref (ca 8), .ref (ca 9), .ref (ca 10), .ref (ca 11), .ref (ca 12), .ref (ca 13), .ref (ca 14), .ref (ca 15), .ref (ca 16), .ref (ca 17), .long bc, .int cp])) := ⟨_, rfl⟩
            replace hP : hH G (hA f s.heap.size) f25 H := by rw [ef25]; exact hP
            have hv_f25 : mv G f25 y ca 1 (nI (bN b)) (nI (bRc b)) (nI (bHc b)) bc cp MK PL AB BE AS FP PC PF PT PU RA KC PK ST DC DY DS SU := by rw [ef25]; exact mv_y hv _ _ _ _ _ _
            refine lv_aload_n hx hb d_M_derate_68 rfl (lv_at hl 1 rfl) ?_
            refine g_get C i_M hP hv_f25.1 rfl 0 (by decide) wd_506 rfl rfl d_M_derate_69 ?_
            refine lv_if_eq (tgt := 77) hx hb d_M_derate_72 (by decide) (fun c_72 => ?_) (fun c_72 => ?_)
            · exact absurd c_72 (by decide)
            · refine lv_iconst (v := 0) hx hb d_M_derate_75 (by decide) ?_
              exact g_iret C hP hS (⟨1, b, bc, cp, ⟨MK, PL, AB, BE, AS, FP, PC, PF, PT, PU, RA, KC, PK, ST, DC, DY, DS, SU, hv_f25, hR⟩, Or.inr (Or.inr ⟨hB, rfl, rfl⟩)⟩) (Nat.le_of_ble_eq_true rfl) (Nat.le_of_ble_eq_true rfl) d_M_derate_76
      · refine lv_iload hx hb d_M_derate_21 (lv_at hl 5 rfl) ?_
        refine lv_bipush (v := 100) hx hb d_M_derate_23 (by decide) ?_
        refine lv_icmp_gt (tgt := 32) hx hb d_M_derate_25 (by decide) (fun c_25 => ?_) (fun c_25 => ?_)
        · refine lv_iconst (v := 0) hx hb d_M_derate_32 (by decide) ?_
          have hG : ¬ (N_derate x0 y0 q0) := fun z9 => by first | exact bz_f hzA c_4 z9.1.1 | exact bz_f hzB c_12 z9.1.2 | exact Int32.not_lt.mpr z9.2.1 c_18 | exact Int32.not_lt.mpr z9.2.2 c_25
          refine lv_istore (lv' := [(8, .int 0), (0, .ref y), (1, .int p0), (2, .int n0), (3, .long x0), (5, .long y0), (7, .int q0)]) hx hb d_M_derate_33 hl (by decide) rfl (fun ls hl => ?_)
          refine lv_aload_n hx hb d_M_derate_35 rfl (lv_at hl 1 rfl) ?_
          refine lv_aload_n hx hb d_M_derate_36 rfl (lv_at hl 1 rfl) ?_
          refine lv_iload_n hx hb d_M_derate_37 rfl (lv_at hl 2 rfl) ?_
          refine g_calli (g_runV C hl.1 (ct_M_isPart f y ca b hok th bc cp ⟨MK, PL, AB, BE, AS, FP, PC, PF, PT, PU, RA, KC, PK, ST, DC, DY, DS, SU, hv, hR⟩ p0 _) (cx_V C 1 wd_605 wd_607 wp_14 wd_3 wd_608 rfl rfl (by decide +kernel) ⟨Nat.le_of_ble_eq_true rfl, Nat.le_of_ble_eq_true rfl⟩) hP hv.1 rfl rfl rfl (Nat.le_of_ble_eq_true rfl) d_M_derate_38 ⟨Nat.le_of_ble_eq_true rfl, Nat.le_of_ble_eq_true rfl⟩) hP hS hA0 (fun r27 f26 H locs hq hP hS => ?_)
          obtain ⟨hzP, hu⟩ := hq
          rw [hu] at hP
          refine lv_if_eq (tgt := 51) hx hb d_M_derate_41 (by decide) (fun c_41 => ?_) (fun c_41 => ?_)
          · refine lv_iconst (v := 1) hx hb d_M_derate_51 (by decide) ?_
            refine lv_goto (tgt := 65) hx hb d_M_derate_52 (by decide) ?_
            have hB : ¬ (I_pn b p0 n0) := fun z9 => by first | exact bz_f hzP c_41 z9.1 | exact bz_f hzN c_48 z9.2
            refine g_put C i_M t_M t_M_ok n_M hP hS hv.1 rfl 0 (by decide) wd_506 rfl rfl rfl (rfl) (Nat.le_of_ble_eq_true rfl) d_M_derate_65 (fun H locs hP hS => ?_)
            obtain ⟨f28, ef28⟩ : ∃ z99, z99 = va_up f y (some (ob 4 [.int 1, .int (nI (bN b)), .ref (ca 0), .ref (ca 1), .ref (ca 2), .ref (ca 3), .int (nI (bRc b)), .ref (ca 4), .int (nI (bHc b)), .ref (ca 5), .ref (ca 6), .ref (ca 7), .ref (ca 8), .ref (ca 9), .ref (ca 10), .ref (ca 11), .ref (ca 12), .ref (ca 13), .ref (ca 14), .ref (ca 15), .ref (ca 16), .ref (ca 17), .long bc, .int cp])) := ⟨_, rfl⟩
            replace hP : hH G (hA f s.heap.size) f28 H := by rw [ef28]; exact hP
            have hv_f28 : mv G f28 y ca 1 (nI (bN b)) (nI (bRc b)) (nI (bHc b)) bc cp MK PL AB BE AS FP PC PF PT PU RA KC PK ST DC DY DS SU := by rw [ef28]; exact mv_y hv _ _ _ _ _ _
            refine lv_aload_n hx hb d_M_derate_68 rfl (lv_at hl 1 rfl) ?_
            refine g_get C i_M hP hv_f28.1 rfl 0 (by decide) wd_506 rfl rfl d_M_derate_69 ?_
            refine lv_if_eq (tgt := 77) hx hb d_M_derate_72 (by decide) (fun c_72 => ?_) (fun c_72 => ?_)
            · exact absurd c_72 (by decide)
            · refine lv_iconst (v := 0) hx hb d_M_derate_75 (by decide) ?_
              exact g_iret C hP hS (⟨1, b, bc, cp, ⟨MK, PL, AB, BE, AS, FP, PC, PF, PT, PU, RA, KC, PK, ST, DC, DY, DS, SU, hv_f28, hR⟩, Or.inr (Or.inr ⟨hB, rfl, rfl⟩)⟩) (Nat.le_of_ble_eq_true rfl) (Nat.le_of_ble_eq_true rfl) d_M_derate_76
          · refine lv_iload_n hx hb d_M_derate_44 rfl (lv_at hl 3 rfl) ?_
            refine g_calli (g_runS C hl.1 (ct_M_isName f n0 _) (cx_S C 1 wd_609 wd_610 wd_3 wd_611 rfl rfl (by decide +kernel) ⟨Nat.le_of_ble_eq_true rfl, Nat.le_of_ble_eq_true rfl⟩) hP rfl rfl (Nat.le_of_ble_eq_true rfl) d_M_derate_45 ⟨Nat.le_of_ble_eq_true rfl, Nat.le_of_ble_eq_true rfl⟩) hP hS hA0 (fun r30 f29 H locs hq hP hS => ?_)
            obtain ⟨hzN, hu⟩ := hq
            rw [hu] at hP
            refine lv_if_ne (tgt := 55) hx hb d_M_derate_48 (by decide) (fun c_48 => ?_) (fun c_48 => ?_)
            · refine lv_iload hx hb d_M_derate_55 (lv_at hl 0 rfl) ?_
              refine lv_if_eq (tgt := 64) hx hb d_M_derate_57 (by decide) (fun c_57 => ?_) (fun c_57 => ?_)
              · refine lv_iconst (v := 2) hx hb d_M_derate_64 (by decide) ?_
                have hI : I_pn b p0 n0 := ⟨bz_t hzP c_41, bz_t hzN c_48⟩
                have hB : ¬ (N_derate x0 y0 q0) := fun z9 => hG z9
                refine g_put C i_M t_M t_M_ok n_M hP hS hv.1 rfl 0 (by decide) wd_506 rfl rfl rfl (rfl) (Nat.le_of_ble_eq_true rfl) d_M_derate_65 (fun H locs hP hS => ?_)
                obtain ⟨f31, ef31⟩ : ∃ z99, z99 = va_up f y (some (ob 4 [.int 2, .int (nI (bN b)), .ref (ca 0), .ref (ca 1), .ref (ca 2), .ref (ca 3), .int (nI (bRc b)), .ref (ca 4), .int (nI (bHc b)), .ref (ca 5), .ref (ca 6), .ref (ca 7), .ref (ca 8), .ref (ca 9), .ref (ca 10), .ref (ca 11), .ref (ca 12), .ref (ca 13), .ref (ca 14), .ref (ca 15), .ref (ca 16), .ref (ca 17), .long bc, .int cp])) := ⟨_, rfl⟩
                replace hP : hH G (hA f s.heap.size) f31 H := by rw [ef31]; exact hP
                have hv_f31 : mv G f31 y ca 2 (nI (bN b)) (nI (bRc b)) (nI (bHc b)) bc cp MK PL AB BE AS FP PC PF PT PU RA KC PK ST DC DY DS SU := by rw [ef31]; exact mv_y hv _ _ _ _ _ _
                refine lv_aload_n hx hb d_M_derate_68 rfl (lv_at hl 1 rfl) ?_
                refine g_get C i_M hP hv_f31.1 rfl 0 (by decide) wd_506 rfl rfl d_M_derate_69 ?_
                refine lv_if_eq (tgt := 77) hx hb d_M_derate_72 (by decide) (fun c_72 => ?_) (fun c_72 => ?_)
                · exact absurd c_72 (by decide)
                · refine lv_iconst (v := 0) hx hb d_M_derate_75 (by decide) ?_
                  exact g_iret C hP hS (⟨2, b, bc, cp, ⟨MK, PL, AB, BE, AS, FP, PC, PF, PT, PU, RA, KC, PK, ST, DC, DY, DS, SU, hv_f31, hR⟩, Or.inr (Or.inl ⟨hI, hB, rfl, rfl⟩)⟩) (Nat.le_of_ble_eq_true rfl) (Nat.le_of_ble_eq_true rfl) d_M_derate_76
              · exact absurd c_57 (by decide)
            · refine lv_iconst (v := 1) hx hb d_M_derate_51 (by decide) ?_
              refine lv_goto (tgt := 65) hx hb d_M_derate_52 (by decide) ?_
              have hB : ¬ (I_pn b p0 n0) := fun z9 => by first | exact bz_f hzP c_41 z9.1 | exact bz_f hzN c_48 z9.2
              refine g_put C i_M t_M t_M_ok n_M hP hS hv.1 rfl 0 (by decide) wd_506 rfl rfl rfl (rfl) (Nat.le_of_ble_eq_true rfl) d_M_derate_65 (fun H locs hP hS => ?_)
              obtain ⟨f32, ef32⟩ : ∃ z99, z99 = va_up f y (some (ob 4 [.int 1, .int (nI (bN b)), .ref (ca 0), .ref (ca 1), .ref (ca 2), .ref (ca 3), .int (nI (bRc b)), .ref (ca 4), .int (nI (bHc b)), .ref (ca 5), .ref (ca 6), .ref (ca 7), .ref (ca 8), .ref (ca 9), .ref (ca 10), .ref (ca 11), .ref (ca 12), .ref (ca 13), .ref (ca 14), .ref (ca 15), .ref (ca 16), .ref (ca 17), .long bc, .int cp])) := ⟨_, rfl⟩
              replace hP : hH G (hA f s.heap.size) f32 H := by rw [ef32]; exact hP
              have hv_f32 : mv G f32 y ca 1 (nI (bN b)) (nI (bRc b)) (nI (bHc b)) bc cp MK PL AB BE AS FP PC PF PT PU RA KC PK ST DC DY DS SU := by rw [ef32]; exact mv_y hv _ _ _ _ _ _
              refine lv_aload_n hx hb d_M_derate_68 rfl (lv_at hl 1 rfl) ?_
              refine g_get C i_M hP hv_f32.1 rfl 0 (by decide) wd_506 rfl rfl d_M_derate_69 ?_
              refine lv_if_eq (tgt := 77) hx hb d_M_derate_72 (by decide) (fun c_72 => ?_) (fun c_72 => ?_)
              · exact absurd c_72 (by decide)
              · refine lv_iconst (v := 0) hx hb d_M_derate_75 (by decide) ?_
                exact g_iret C hP hS (⟨1, b, bc, cp, ⟨MK, PL, AB, BE, AS, FP, PC, PF, PT, PU, RA, KC, PK, ST, DC, DY, DS, SU, hv_f32, hR⟩, Or.inr (Or.inr ⟨hB, rfl, rfl⟩)⟩) (Nat.le_of_ble_eq_true rfl) (Nat.le_of_ble_eq_true rfl) d_M_derate_76
        · refine lv_iconst (v := 1) hx hb d_M_derate_28 (by decide) ?_
          refine lv_goto (tgt := 33) hx hb d_M_derate_29 (by decide) ?_
          have hG : N_derate x0 y0 q0 := ⟨⟨bz_t hzA c_4, bz_t hzB c_12⟩, ⟨Int32.not_lt.mp c_18, Int32.not_lt.mp c_25⟩⟩
          refine lv_istore (lv' := [(8, .int 1), (0, .ref y), (1, .int p0), (2, .int n0), (3, .long x0), (5, .long y0), (7, .int q0)]) hx hb d_M_derate_33 hl (by decide) rfl (fun ls hl => ?_)
          refine lv_aload_n hx hb d_M_derate_35 rfl (lv_at hl 1 rfl) ?_
          refine lv_aload_n hx hb d_M_derate_36 rfl (lv_at hl 1 rfl) ?_
          refine lv_iload_n hx hb d_M_derate_37 rfl (lv_at hl 2 rfl) ?_
          refine g_calli (g_runV C hl.1 (ct_M_isPart f y ca b hok th bc cp ⟨MK, PL, AB, BE, AS, FP, PC, PF, PT, PU, RA, KC, PK, ST, DC, DY, DS, SU, hv, hR⟩ p0 _) (cx_V C 1 wd_605 wd_607 wp_14 wd_3 wd_608 rfl rfl (by decide +kernel) ⟨Nat.le_of_ble_eq_true rfl, Nat.le_of_ble_eq_true rfl⟩) hP hv.1 rfl rfl rfl (Nat.le_of_ble_eq_true rfl) d_M_derate_38 ⟨Nat.le_of_ble_eq_true rfl, Nat.le_of_ble_eq_true rfl⟩) hP hS hA0 (fun r34 f33 H locs hq hP hS => ?_)
          obtain ⟨hzP, hu⟩ := hq
          rw [hu] at hP
          refine lv_if_eq (tgt := 51) hx hb d_M_derate_41 (by decide) (fun c_41 => ?_) (fun c_41 => ?_)
          · refine lv_iconst (v := 1) hx hb d_M_derate_51 (by decide) ?_
            refine lv_goto (tgt := 65) hx hb d_M_derate_52 (by decide) ?_
            have hB : ¬ (I_pn b p0 n0) := fun z9 => by first | exact bz_f hzP c_41 z9.1 | exact bz_f hzN c_48 z9.2
            refine g_put C i_M t_M t_M_ok n_M hP hS hv.1 rfl 0 (by decide) wd_506 rfl rfl rfl (rfl) (Nat.le_of_ble_eq_true rfl) d_M_derate_65 (fun H locs hP hS => ?_)
            obtain ⟨f35, ef35⟩ : ∃ z99, z99 = va_up f y (some (ob 4 [.int 1, .int (nI (bN b)), .ref (ca 0), .ref (ca 1), .ref (ca 2), .ref (ca 3), .int (nI (bRc b)), .ref (ca 4), .int (nI (bHc b)), .ref (ca 5), .ref (ca 6), .ref (ca 7), .ref (ca 8), .ref (ca 9), .ref (ca 10), .ref (ca 11), .ref (ca 12), .ref (ca 13), .ref (ca 14), .ref (ca 15), .ref (ca 16), .ref (ca 17), .long bc, .int cp])) := ⟨_, rfl⟩
            replace hP : hH G (hA f s.heap.size) f35 H := by rw [ef35]; exact hP
            have hv_f35 : mv G f35 y ca 1 (nI (bN b)) (nI (bRc b)) (nI (bHc b)) bc cp MK PL AB BE AS FP PC PF PT PU RA KC PK ST DC DY DS SU := by rw [ef35]; exact mv_y hv _ _ _ _ _ _
            refine lv_aload_n hx hb d_M_derate_68 rfl (lv_at hl 1 rfl) ?_
            refine g_get C i_M hP hv_f35.1 rfl 0 (by decide) wd_506 rfl rfl d_M_derate_69 ?_
            refine lv_if_eq (tgt := 77) hx hb d_M_derate_72 (by decide) (fun c_72 => ?_) (fun c_72 => ?_)
            · exact absurd c_72 (by decide)
            · refine lv_iconst (v := 0) hx hb d_M_derate_75 (by decide) ?_
              exact g_iret C hP hS (⟨1, b, bc, cp, ⟨MK, PL, AB, BE, AS, FP, PC, PF, PT, PU, RA, KC, PK, ST, DC, DY, DS, SU, hv_f35, hR⟩, Or.inr (Or.inr ⟨hB, rfl, rfl⟩)⟩) (Nat.le_of_ble_eq_true rfl) (Nat.le_of_ble_eq_true rfl) d_M_derate_76
          · refine lv_iload_n hx hb d_M_derate_44 rfl (lv_at hl 3 rfl) ?_
            refine g_calli (g_runS C hl.1 (ct_M_isName f n0 _) (cx_S C 1 wd_609 wd_610 wd_3 wd_611 rfl rfl (by decide +kernel) ⟨Nat.le_of_ble_eq_true rfl, Nat.le_of_ble_eq_true rfl⟩) hP rfl rfl (Nat.le_of_ble_eq_true rfl) d_M_derate_45 ⟨Nat.le_of_ble_eq_true rfl, Nat.le_of_ble_eq_true rfl⟩) hP hS hA0 (fun r37 f36 H locs hq hP hS => ?_)
            obtain ⟨hzN, hu⟩ := hq
            rw [hu] at hP
            refine lv_if_ne (tgt := 55) hx hb d_M_derate_48 (by decide) (fun c_48 => ?_) (fun c_48 => ?_)
            · refine lv_iload hx hb d_M_derate_55 (lv_at hl 0 rfl) ?_
              refine lv_if_eq (tgt := 64) hx hb d_M_derate_57 (by decide) (fun c_57 => ?_) (fun c_57 => ?_)
              · exact absurd c_57 (by decide)
              · refine lv_iconst (v := 0) hx hb d_M_derate_60 (by decide) ?_
                refine lv_goto (tgt := 65) hx hb d_M_derate_61 (by decide) ?_
                have hI : I_pn b p0 n0 := ⟨bz_t hzP c_41, bz_t hzN c_48⟩
                have hN : N_derate x0 y0 q0 := hG
                obtain ⟨⟨i, n, a1, d1, w, hi, rfl, hn, rfl, ha, rfl, hd1, hd2, rfl, hw1, hw2, rfl, hr0⟩, eb⟩ := hK0 hI hN
                have hcw0 : 0 < d1 * w := Nat.mul_pos hd1 hw1
                have hcw : d1 * w ≤ 1000000 * 100 := Nat.mul_le_mul hd2 hw2
                have hDi := hok.2.1 i hi
                refine g_put C i_M t_M t_M_ok n_M hP hS hv.1 rfl 0 (by decide) wd_506 rfl rfl rfl (rfl) (Nat.le_of_ble_eq_true rfl) d_M_derate_65 (fun H locs hP hS => ?_)
                obtain ⟨f38, ef38⟩ : ∃ z99, z99 = va_up f y (some (ob 4 [.int 0, .int (nI (bN b)), .ref (ca 0), .ref (ca 1), .ref (ca 2), .ref (ca 3), .int (nI (bRc b)), .ref (ca 4), .int (nI (bHc b)), .ref (ca 5), .ref (ca 6), .ref (ca 7), .ref (ca 8), .ref (ca 9), .ref (ca 10), .ref (ca 11), .ref (ca 12), .ref (ca 13), .ref (ca 14), .ref (ca 15), .ref (ca 16), .ref (ca 17), .long bc, .int cp])) := ⟨_, rfl⟩
                replace hP : hH G (hA f s.heap.size) f38 H := by rw [ef38]; exact hP
                have hv_f38 : mv G f38 y ca 0 (nI (bN b)) (nI (bRc b)) (nI (bHc b)) bc cp MK PL AB BE AS FP PC PF PT PU RA KC PK ST DC DY DS SU := by rw [ef38]; exact mv_y hv _ _ _ _ _ _
                refine lv_aload_n hx hb d_M_derate_68 rfl (lv_at hl 1 rfl) ?_
                refine g_get C i_M hP hv_f38.1 rfl 0 (by decide) wd_506 rfl rfl d_M_derate_69 ?_
                refine lv_if_eq (tgt := 77) hx hb d_M_derate_72 (by decide) (fun c_72 => ?_) (fun c_72 => ?_)
                · refine lv_aload_n hx hb d_M_derate_77 rfl (lv_at hl 1 rfl) ?_
                  refine lv_iload_n hx hb d_M_derate_78 rfl (lv_at hl 2 rfl) ?_
                  refine lv_iload_n hx hb d_M_derate_79 rfl (lv_at hl 3 rfl) ?_
                  refine g_calli (g_runV C hl.1 (ct_M_hasValue f38 y ca b hok 0 bc cp ⟨MK, PL, AB, BE, AS, FP, PC, PF, PT, PU, RA, KC, PK, ST, DC, DY, DS, SU, hv_f38, hR⟩ i n hi hn _) (cx_V C 2 wd_620 wd_622 wp_15 wd_3 wd_623 rfl rfl (by decide +kernel) ⟨Nat.le_of_ble_eq_true rfl, Nat.le_of_ble_eq_true rfl⟩) hP hv_f38.1 rfl rfl rfl (Nat.le_of_ble_eq_true rfl) d_M_derate_80 ⟨Nat.le_of_ble_eq_true rfl, Nat.le_of_ble_eq_true rfl⟩) hP hS hA0 (fun r40 f39 H locs hq hP hS => ?_)
                  obtain ⟨hzV, hu⟩ := hq
                  rw [hu] at hP
                  refine lv_if_ne (tgt := 88) hx hb d_M_derate_83 (by decide) (fun c_83 => ?_) (fun c_83 => ?_)
                  · have q_1 : pVb (bD b i) n ≠ 0 := bz_t hzV c_83
                    refine lv_bipush (v := 12) hx hb d_M_derate_88 (by decide) ?_
                    refine lv_iload_n hx hb d_M_derate_90 rfl (lv_at hl 2 rfl) ?_
                    refine lv_imul hx hb d_M_derate_91 ?_
                    refine g_eqi (y := nI (12 * i)) (pk_mul _ _) ?_
                    refine lv_iload_n hx hb d_M_derate_92 rfl (lv_at hl 3 rfl) ?_
                    refine lv_iadd hx hb d_M_derate_93 ?_
                    refine g_eqi (y := nI (12 * i + n)) (nI_add _ _) ?_
                    refine lv_istore (lv' := [(9, .int (nI (12 * i + n))), (8, .int 1), (0, .ref y), (1, .int (nI i)), (2, .int (nI n)), (3, .long (lN a1)), (5, .long (lN d1)), (7, .int (nI w))]) hx hb d_M_derate_94 hl (by decide) rfl (fun ls hl => ?_)
                    refine lv_ldc2 hx hb hown (C.w wd_741) d_M_derate_96 ?_
                    refine lv_lload_n hx hb d_M_derate_99 rfl (lv_at hl 5 rfl) ?_
                    refine lv_lmul hx hb d_M_derate_100 ?_
                    refine g_eql (y := lN (100 * a1)) (lN_mul _ _) ?_
                    refine lv_lload hx hb d_M_derate_101 (lv_at hl 6 rfl) ?_
                    refine lv_iload hx hb d_M_derate_103 (lv_at hl 7 rfl) ?_
                    refine lv_i2l (v := (nI w).toInt64) hx hb d_M_derate_105 rfl ?_
                    refine g_eql (y := lN w) (nI_l (by omega)) ?_
                    refine lv_lmul hx hb d_M_derate_106 ?_
                    refine g_eql (y := lN (d1 * w)) (lN_mul _ _) ?_
                    refine lv_aload_n hx hb d_M_derate_107 rfl (lv_at hl 2 rfl) ?_
                    refine g_get C i_M hP hv_f38.1 rfl 4 (by decide) wd_510 rfl rfl d_M_derate_108 ?_
                    refine lv_iload hx hb d_M_derate_111 (lv_at hl 0 rfl) ?_
                    refine g_laldN C hP hv_f38.2.2.2.1 (j := (12 * i + n)) (by omega) (by decide) d_M_derate_113 ?_
                    refine g_eql (y := lN (pVa (bD b i) n)) (((hR.2.1 i hi).2 n hn).1.trans (if_neg q_1)) ?_
                    refine lv_aload_n hx hb d_M_derate_114 rfl (lv_at hl 2 rfl) ?_
                    refine g_get C i_M hP hv_f38.1 rfl 5 (by decide) wd_511 rfl rfl d_M_derate_115 ?_
                    refine lv_iload hx hb d_M_derate_118 (lv_at hl 0 rfl) ?_
                    refine g_laldN C hP hv_f38.2.2.2.2.1 (j := (12 * i + n)) (by omega) (by decide) d_M_derate_120 ?_
                    refine g_eql (y := lN (pVb (bD b i) n)) (((hR.2.1 i hi).2 n hn).2 q_1) ?_
                    refine g_calli (g_runS C hl.1 (ct_M_compare f38 (100 * a1) (d1 * w) (pVa (bD b i) n) (pVb (bD b i) n) (by omega) hcw0 (by omega) (hDi.2.1 n).1 (Nat.pos_of_ne_zero q_1) (Nat.lt_trans (hDi.2.1 n).2 (by decide)) _) (cx_S C 4 wd_648 wd_649 wd_3 wd_650 rfl rfl (by decide +kernel) ⟨Nat.le_of_ble_eq_true rfl, Nat.le_of_ble_eq_true rfl⟩) hP rfl rfl (Nat.le_of_ble_eq_true rfl) d_M_derate_121 ⟨Nat.le_of_ble_eq_true rfl, Nat.le_of_ble_eq_true rfl⟩) hP hS hA0 (fun r42 f41 H locs hq hP hS => ?_)
                    obtain ⟨rfl, hu⟩ := hq
                    rw [hu] at hP
                    refine lv_if_gt (tgt := 131) hx hb d_M_derate_124 (by decide) (fun c_124 => ?_) (fun c_124 => ?_)
                    · have q_2 : ¬ (a1 * 100) * pVb (bD b i) n ≤ pVa (bD b i) n * (d1 * w) := cq_gt c_124
                      refine lv_iconst (v := 0) hx hb d_M_derate_131 (by decide) ?_
                      exact g_iret C hP hS (⟨0, b, bc, cp, ⟨MK, PL, AB, BE, AS, FP, PC, PF, PT, PU, RA, KC, PK, ST, DC, DY, DS, SU, hv_f38, hR⟩, Or.inl ⟨hI, hN, rfl, eb.symm, by rw [hr0, if_neg q_1, if_neg q_2]⟩⟩) (Nat.le_of_ble_eq_true rfl) (Nat.le_of_ble_eq_true rfl) d_M_derate_132
                    · have q_2 : (a1 * 100) * pVb (bD b i) n ≤ pVa (bD b i) n * (d1 * w) := cq_le c_124
                      refine lv_iconst (v := 1) hx hb d_M_derate_127 (by decide) ?_
                      refine lv_goto (tgt := 132) hx hb d_M_derate_128 (by decide) ?_
                      exact g_iret C hP hS (⟨0, b, bc, cp, ⟨MK, PL, AB, BE, AS, FP, PC, PF, PT, PU, RA, KC, PK, ST, DC, DY, DS, SU, hv_f38, hR⟩, Or.inl ⟨hI, hN, rfl, eb.symm, by rw [hr0, if_neg q_1, if_pos q_2]⟩⟩) (Nat.le_of_ble_eq_true rfl) (Nat.le_of_ble_eq_true rfl) d_M_derate_132
                  · have q_1 : pVb (bD b i) n = 0 := Decidable.of_not_not (bz_f hzV c_83)
                    refine lv_iconst (v := (-1)) hx hb d_M_derate_86 (by decide) ?_
                    exact g_iret C hP hS (⟨0, b, bc, cp, ⟨MK, PL, AB, BE, AS, FP, PC, PF, PT, PU, RA, KC, PK, ST, DC, DY, DS, SU, hv_f38, hR⟩, Or.inl ⟨hI, hN, rfl, eb.symm, by rw [hr0, if_pos q_1]⟩⟩) (Nat.le_of_ble_eq_true rfl) (Nat.le_of_ble_eq_true rfl) d_M_derate_87
                · exact absurd c_72 (by decide)
            · refine lv_iconst (v := 1) hx hb d_M_derate_51 (by decide) ?_
              refine lv_goto (tgt := 65) hx hb d_M_derate_52 (by decide) ?_
              have hB : ¬ (I_pn b p0 n0) := fun z9 => by first | exact bz_f hzP c_41 z9.1 | exact bz_f hzN c_48 z9.2
              refine g_put C i_M t_M t_M_ok n_M hP hS hv.1 rfl 0 (by decide) wd_506 rfl rfl rfl (rfl) (Nat.le_of_ble_eq_true rfl) d_M_derate_65 (fun H locs hP hS => ?_)
              obtain ⟨f43, ef43⟩ : ∃ z99, z99 = va_up f y (some (ob 4 [.int 1, .int (nI (bN b)), .ref (ca 0), .ref (ca 1), .ref (ca 2), .ref (ca 3), .int (nI (bRc b)), .ref (ca 4), .int (nI (bHc b)), .ref (ca 5), .ref (ca 6), .ref (ca 7), .ref (ca 8), .ref (ca 9), .ref (ca 10), .ref (ca 11), .ref (ca 12), .ref (ca 13), .ref (ca 14), .ref (ca 15), .ref (ca 16), .ref (ca 17), .long bc, .int cp])) := ⟨_, rfl⟩
              replace hP : hH G (hA f s.heap.size) f43 H := by rw [ef43]; exact hP
              have hv_f43 : mv G f43 y ca 1 (nI (bN b)) (nI (bRc b)) (nI (bHc b)) bc cp MK PL AB BE AS FP PC PF PT PU RA KC PK ST DC DY DS SU := by rw [ef43]; exact mv_y hv _ _ _ _ _ _
              refine lv_aload_n hx hb d_M_derate_68 rfl (lv_at hl 1 rfl) ?_
              refine g_get C i_M hP hv_f43.1 rfl 0 (by decide) wd_506 rfl rfl d_M_derate_69 ?_
              refine lv_if_eq (tgt := 77) hx hb d_M_derate_72 (by decide) (fun c_72 => ?_) (fun c_72 => ?_)
              · exact absurd c_72 (by decide)
              · refine lv_iconst (v := 0) hx hb d_M_derate_75 (by decide) ?_
                exact g_iret C hP hS (⟨1, b, bc, cp, ⟨MK, PL, AB, BE, AS, FP, PC, PF, PT, PU, RA, KC, PK, ST, DC, DY, DS, SU, hv_f43, hR⟩, Or.inr (Or.inr ⟨hB, rfl, rfl⟩)⟩) (Nat.le_of_ble_eq_true rfl) (Nat.le_of_ble_eq_true rfl) d_M_derate_76
set_option maxHeartbeats 4000000 in
set_option maxRecDepth 100000 in
theorem ct_M_part {l : Launch} {G : hG} (f : hm) (y : Nat) (ca : Nat → Nat) (b : BD) (hok : bOK b) (th : Int32) (bc : Int64) (cp : Int32) (hm : mS G f y ca b th bc cp) (k0 : Int32) (r0 : Int32) (b1 : BD) (hK0 : N_part k0 → True → K_part b k0 r0 b1) : ci_ l G y_M_part w_M_part { frames := 2, cells := 0, slots := 0, locals := 120 } [.ref y, .int k0] f (fun r u => ∃ th2 b2 bc2 cp2, mS G u y ca b2 th2 bc2 cp2 ∧ mp (N_part k0) (True) b b1 (r = r0) th2 b2) := by
  intro sz
  refine h_ofW (cc := c_M_part) (maxL := 3) (ret := (some .int)) (by decide) rfl (Nat.le_of_ble_eq_true rfl) ?_
  intro p e s m below meth c ls C hin hsz hP hl
  obtain ⟨hx, hb, hml, hown, -, -, -, -⟩ := id C
  subst hsz
  have hA0 : ∀ q, s.heap.size ≤ q → hA f s.heap.size q := hA.new
  have hS : va_S (hA f s.heap.size) s.heap s.heap [] := va_S.rf
  replace hl : lv_has ls 3 [(0, .ref y), (1, .int k0)] := hl
  obtain ⟨MK, PL, AB, BE, AS, FP, PC, PF, PT, PU, RA, KC, PK, ST, DC, DY, DS, SU, hv, hR⟩ := hm
  have hNN : bN b ≤ 40 := hok.1.1
  have hRC : bRc b ≤ 10 := hok.1.2.1
  have hHC : bHc b ≤ 40 := hok.1.2.2
  refine lv_aload_n hx hb d_M_part_0 rfl (lv_at hl 0 rfl) ?_
  refine lv_iload_n hx hb d_M_part_1 rfl (lv_at hl 1 rfl) ?_
  refine lv_if_lt (tgt := 11) hx hb d_M_part_2 (by decide) (fun c_2 => ?_) (fun c_2 => ?_)
  · refine lv_iconst (v := 1) hx hb d_M_part_11 (by decide) ?_
    refine lv_goto (tgt := 16) hx hb d_M_part_12 (by decide) ?_
    have hB : ¬ (N_part k0) := fun z9 => by first | exact Int32.not_lt.mpr z9.1 c_2 | exact c_8 z9.2
    refine g_put C i_M t_M t_M_ok n_M hP hS hv.1 rfl 0 (by decide) wd_506 rfl rfl rfl (rfl) (Nat.le_of_ble_eq_true rfl) d_M_part_16 (fun H locs hP hS => ?_)
    obtain ⟨f1, ef1⟩ : ∃ z99, z99 = va_up f y (some (ob 4 [.int 1, .int (nI (bN b)), .ref (ca 0), .ref (ca 1), .ref (ca 2), .ref (ca 3), .int (nI (bRc b)), .ref (ca 4), .int (nI (bHc b)), .ref (ca 5), .ref (ca 6), .ref (ca 7), .ref (ca 8), .ref (ca 9), .ref (ca 10), .ref (ca 11), .ref (ca 12), .ref (ca 13), .ref (ca 14), .ref (ca 15), .ref (ca 16), .ref (ca 17), .long bc, .int cp])) := ⟨_, rfl⟩
    replace hP : hH G (hA f s.heap.size) f1 H := by rw [ef1]; exact hP
    have hv_f1 : mv G f1 y ca 1 (nI (bN b)) (nI (bRc b)) (nI (bHc b)) bc cp MK PL AB BE AS FP PC PF PT PU RA KC PK ST DC DY DS SU := by rw [ef1]; exact mv_y hv _ _ _ _ _ _
    refine lv_aload_n hx hb d_M_part_19 rfl (lv_at hl 0 rfl) ?_
    refine g_get C i_M hP hv_f1.1 rfl 0 (by decide) wd_506 rfl rfl d_M_part_20 ?_
    refine lv_if_eq (tgt := 28) hx hb d_M_part_23 (by decide) (fun c_23 => ?_) (fun c_23 => ?_)
    · exact absurd c_23 (by decide)
    · refine lv_iconst (v := 0) hx hb d_M_part_26 (by decide) ?_
      exact g_iret C hP hS (⟨1, b, bc, cp, ⟨MK, PL, AB, BE, AS, FP, PC, PF, PT, PU, RA, KC, PK, ST, DC, DY, DS, SU, hv_f1, hR⟩, Or.inr (Or.inr ⟨hB, rfl, rfl⟩)⟩) (Nat.le_of_ble_eq_true rfl) (Nat.le_of_ble_eq_true rfl) d_M_part_27
  · refine lv_iload_n hx hb d_M_part_5 rfl (lv_at hl 1 rfl) ?_
    refine lv_bipush (v := 15) hx hb d_M_part_6 (by decide) ?_
    refine lv_icmp_le (tgt := 15) hx hb d_M_part_8 (by decide) (fun c_8 => ?_) (fun c_8 => ?_)
    · refine lv_iconst (v := 0) hx hb d_M_part_15 (by decide) ?_
      have hI : N_part k0 := ⟨Int32.not_lt.mp c_2, c_8⟩
      have hN : True := trivial
      obtain ⟨mk, hmk, rfl, hr0⟩ := hK0 hI hN
      refine g_put C i_M t_M t_M_ok n_M hP hS hv.1 rfl 0 (by decide) wd_506 rfl rfl rfl (rfl) (Nat.le_of_ble_eq_true rfl) d_M_part_16 (fun H locs hP hS => ?_)
      obtain ⟨f2, ef2⟩ : ∃ z99, z99 = va_up f y (some (ob 4 [.int 0, .int (nI (bN b)), .ref (ca 0), .ref (ca 1), .ref (ca 2), .ref (ca 3), .int (nI (bRc b)), .ref (ca 4), .int (nI (bHc b)), .ref (ca 5), .ref (ca 6), .ref (ca 7), .ref (ca 8), .ref (ca 9), .ref (ca 10), .ref (ca 11), .ref (ca 12), .ref (ca 13), .ref (ca 14), .ref (ca 15), .ref (ca 16), .ref (ca 17), .long bc, .int cp])) := ⟨_, rfl⟩
      replace hP : hH G (hA f s.heap.size) f2 H := by rw [ef2]; exact hP
      have hv_f2 : mv G f2 y ca 0 (nI (bN b)) (nI (bRc b)) (nI (bHc b)) bc cp MK PL AB BE AS FP PC PF PT PU RA KC PK ST DC DY DS SU := by rw [ef2]; exact mv_y hv _ _ _ _ _ _
      refine lv_aload_n hx hb d_M_part_19 rfl (lv_at hl 0 rfl) ?_
      refine g_get C i_M hP hv_f2.1 rfl 0 (by decide) wd_506 rfl rfl d_M_part_20 ?_
      refine lv_if_eq (tgt := 28) hx hb d_M_part_23 (by decide) (fun c_23 => ?_) (fun c_23 => ?_)
      · refine lv_aload_n hx hb d_M_part_28 rfl (lv_at hl 0 rfl) ?_
        refine g_get C i_M hP hv_f2.1 rfl 1 (by decide) wd_507 rfl rfl d_M_part_29 ?_
        refine lv_bipush (v := 40) hx hb d_M_part_32 (by decide) ?_
        refine lv_icmp_ne (tgt := 39) hx hb d_M_part_34 (by decide) (fun c_34 => ?_) (fun c_34 => ?_)
        · have q_1 : bN b < 40 := by have : bN b ≠ 40 := fun z9 => c_34 (by rw [z9]; rfl); omega
          refine lv_aload_n hx hb d_M_part_39 rfl (lv_at hl 0 rfl) ?_
          refine g_get C i_M hP hv_f2.1 rfl 2 (by decide) wd_508 rfl rfl d_M_part_40 ?_
          refine lv_aload_n hx hb d_M_part_43 rfl (lv_at hl 0 rfl) ?_
          refine g_get C i_M hP hv_f2.1 rfl 1 (by decide) wd_507 rfl rfl d_M_part_44 ?_
          refine lv_iload_n hx hb d_M_part_47 rfl (lv_at hl 1 rfl) ?_
          refine g_iastN C hP hS hv_f2.2.1 (j := (bN b)) (by omega) (by decide) d_M_part_48 (fun H locs hP hS => ?_)
          obtain ⟨g4, eg4⟩ : ∃ z99, z99 = upd MK (bN b) (nI mk) := ⟨_, rfl⟩
          rw [← eg4] at hP
          obtain ⟨f3, ef3⟩ : ∃ z99, z99 = va_up f2 (ca 0) (some (aI G 40 g4)) := ⟨_, rfl⟩
          replace hP : hH G (hA f s.heap.size) f3 H := by rw [ef3]; exact hP
          have hv_f3 : mv G f3 y ca 0 (nI (bN b)) (nI (bRc b)) (nI (bHc b)) bc cp g4 PL AB BE AS FP PC PF PT PU RA KC PK ST DC DY DS SU := by rw [ef3]; exact mv_0 hv_f2 _
          refine lv_iconst (v := 0) hx hb d_M_part_49 (by decide) ?_
          refine lv_istore_n (lv' := [(2, .int 0), (0, .ref y), (1, .int (nI mk))]) hx hb d_M_part_50 rfl hl (by decide) rfl (fun ls hl => ?_)
          subst eg4
          have h40 : bN b < 40 := q_1
          obtain ⟨rfl, rfl⟩ : r0 = nI (bN b) ∧ b1 = bAdd b mk := by rcases hr0 with z | z; exact z.2; exact absurd q_1 z.1
          have loop : ∀ (d n : Nat) (fi : hm) (AB1 : Nat → Int64) (ls : Array Slot) (H : Heap) (locs : List Loc), 12 < n + d → n ≤ 12 → mv G fi y ca 0 (nI (bN b)) (nI (bRc b)) (nI (bHc b)) bc cp (upd MK (bN b) (nI mk)) PL AB1 BE AS FP PC PF PT PU RA KC PK ST DC DY DS SU → (∀ j, AB1 j = if 12 * bN b ≤ j ∧ j < 12 * bN b + n then -1 else AB j) → hH G (hA f s.heap.size) fi H → va_S (hA f s.heap.size) s.heap H locs → lv_has ls 3 [(2, .int (nI n)), (0, .ref y), (1, .int (nI mk))] → W p l e { frames := 2, cells := 0, slots := 0, locals := 120 } s m #[.ref y, .int (nI mk)] below meth c H locs 0 0 (MQ below (va_Qi (fun r u => ∃ th2 b2 bc2 cp2, mS G u y ca b2 th2 bc2 cp2 ∧ mp (N_part (nI mk)) (True) b (bAdd b mk) (r = (nI (bN b))) th2 b2) (hB G (hA f s.heap.size)) (hA f s.heap.size)) #[.ref y, .int (nI mk)] s 0 0 (hA f s.heap.size)) (F0 m 51 ls []) := by
            intro d
            induction d with
            | zero => intro n fi AB1 ls H locs h1 h2; exact absurd h1 (by omega)
            | succ d ih =>
              intro n fi AB1 ls H locs h1 h2 hvi hAB hP hS hl
              refine lv_iload_n hx hb d_M_part_51 rfl (lv_at hl 0 rfl) ?_
              refine lv_bipush (v := 12) hx hb d_M_part_52 (by decide) ?_
              refine lv_icmp_ge (tgt := 80) hx hb d_M_part_54 (by decide) (fun c_54 => ?_) (fun c_54 => ?_)
              · have q_1 : n = 12 := by have := (nI_leI (a := 12) (by omega) (by omega)).mp c_54; omega
                refine lv_aload_n hx hb d_M_part_80 rfl (lv_at hl 1 rfl) ?_
                refine lv_dup hx hb d_M_part_81 rfl ?_
                refine g_get C i_M hP hvi.1 rfl 1 (by decide) wd_507 rfl rfl d_M_part_82 ?_
                refine lv_iconst (v := 1) hx hb d_M_part_85 (by decide) ?_
                refine lv_iadd hx hb d_M_part_86 ?_
                refine g_eqi (y := nI (bN b + 1)) (nI_1 _) ?_
                refine g_put C i_M t_M t_M_ok n_M hP hS hvi.1 rfl 1 (by decide) wd_507 rfl rfl rfl (rfl) (Nat.le_of_ble_eq_true rfl) d_M_part_87 (fun H locs hP hS => ?_)
                obtain ⟨f1, ef1⟩ : ∃ z99, z99 = va_up fi y (some (ob 4 [.int 0, .int (nI (bN b + 1)), .ref (ca 0), .ref (ca 1), .ref (ca 2), .ref (ca 3), .int (nI (bRc b)), .ref (ca 4), .int (nI (bHc b)), .ref (ca 5), .ref (ca 6), .ref (ca 7), .ref (ca 8), .ref (ca 9), .ref (ca 10), .ref (ca 11), .ref (ca 12), .ref (ca 13), .ref (ca 14), .ref (ca 15), .ref (ca 16), .ref (ca 17), .long bc, .int cp])) := ⟨_, rfl⟩
                replace hP : hH G (hA f s.heap.size) f1 H := by rw [ef1]; exact hP
                have hv_f1 : mv G f1 y ca 0 (nI (bN b + 1)) (nI (bRc b)) (nI (bHc b)) bc cp (upd MK (bN b) (nI mk)) PL AB1 BE AS FP PC PF PT PU RA KC PK ST DC DY DS SU := by rw [ef1]; exact mv_y hvi _ _ _ _ _ _
                refine lv_aload_n hx hb d_M_part_90 rfl (lv_at hl 1 rfl) ?_
                refine g_get C i_M hP hv_f1.1 rfl 1 (by decide) wd_507 rfl rfl d_M_part_91 ?_
                refine lv_iconst (v := 1) hx hb d_M_part_94 (by decide) ?_
                refine lv_isub hx hb d_M_part_95 ?_
                have eAB : AB1 = fun j => if 12 * bN b ≤ j ∧ j < 12 * bN b + 12 then -1 else AB j := funext fun j => by rw [hAB j, q_1]
                subst eAB
                exact g_iret C hP hS (⟨0, bAdd b mk, bc, cp, ⟨(upd MK (bN b) (nI mk)), PL, _, BE, AS, FP, PC, PF, PT, PU, RA, KC, PK, ST, DC, DY, DS, SU, hv_f1, (mR_add hR mk h40)⟩, Or.inl ⟨hI, hN, rfl, rfl, nI_pred _⟩⟩) (Nat.le_of_ble_eq_true rfl) (Nat.le_of_ble_eq_true rfl) d_M_part_96
              · have q_1 : n < 12 := Nat.lt_of_not_le (fun z9 => c_54 ((nI_leI (a := 12) (by omega) (by omega)).mpr z9))
                refine lv_aload_n hx hb d_M_part_57 rfl (lv_at hl 1 rfl) ?_
                refine g_get C i_M hP hvi.1 rfl 4 (by decide) wd_510 rfl rfl d_M_part_58 ?_
                refine lv_bipush (v := 12) hx hb d_M_part_61 (by decide) ?_
                refine lv_aload_n hx hb d_M_part_63 rfl (lv_at hl 1 rfl) ?_
                refine g_get C i_M hP hvi.1 rfl 1 (by decide) wd_507 rfl rfl d_M_part_64 ?_
                refine lv_imul hx hb d_M_part_67 ?_
                refine g_eqi (y := nI (12 * bN b)) (pk_mul _ _) ?_
                refine lv_iload_n hx hb d_M_part_68 rfl (lv_at hl 0 rfl) ?_
                refine lv_iadd hx hb d_M_part_69 ?_
                refine g_eqi (y := nI (12 * bN b + n)) (nI_add _ _) ?_
                refine lv_ldc2 hx hb hown (C.w wd_588) d_M_part_70 ?_
                refine g_lastN C hP hS hvi.2.2.2.1 (j := (12 * bN b + n)) (by omega) (by decide) d_M_part_73 (fun H locs hP hS => ?_)
                obtain ⟨g3, eg3⟩ : ∃ z99, z99 = vp_updL AB1 (12 * bN b + n) (-1) := ⟨_, rfl⟩
                rw [← eg3] at hP
                obtain ⟨f2, ef2⟩ : ∃ z99, z99 = va_up fi (ca 2) (some (aL G 480 g3)) := ⟨_, rfl⟩
                replace hP : hH G (hA f s.heap.size) f2 H := by rw [ef2]; exact hP
                have hv_f2 : mv G f2 y ca 0 (nI (bN b)) (nI (bRc b)) (nI (bHc b)) bc cp (upd MK (bN b) (nI mk)) PL g3 BE AS FP PC PF PT PU RA KC PK ST DC DY DS SU := by rw [ef2]; exact mv_2 hvi _
                refine lv_iinc (v := nI (n + 1)) (lv' := [(2, .int (nI (n + 1))), (0, .ref y), (1, .int (nI mk))]) hx hb d_M_part_74 hl (k := 0) rfl (nI_1 n) (by decide) rfl (fun ls hl => ?_)
                refine lv_goto (tgt := 51) hx hb d_M_part_77 (by decide) ?_
                exact ih (n + 1) f2 g3 ls H locs (by omega) (by omega) hv_f2 (fun j => by rw [eg3]; unfold vp_updL; rw [hAB j]; by_cases z1 : j = 12 * bN b + n; rw [if_pos z1, if_pos (by omega)]; rw [if_neg z1]; by_cases z2 : 12 * bN b ≤ j ∧ j < 12 * bN b + n; rw [if_pos z2, if_pos (by omega)]; rw [if_neg z2, if_neg (by omega)]) hP hS (lv_sub hl [0, 1, 2] rfl)
          exact loop 13 0 _ AB ls H locs (by omega) (by omega) hv_f3 (fun j => by rw [if_neg (by omega)]) hP hS (lv_sub hl [0, 1, 2] rfl)
        · have q_1 : ¬ bN b < 40 := by have := (nI_eq (b := 40) (by omega) (by decide)).mp c_34; omega
          refine lv_iconst (v := (-1)) hx hb d_M_part_37 (by decide) ?_
          obtain ⟨e1, eb⟩ : r0 = -1 ∧ b1 = b := by rcases hr0 with z | z; exact absurd z.1 q_1; exact z.2
          exact g_iret C hP hS (⟨0, b, bc, cp, ⟨MK, PL, AB, BE, AS, FP, PC, PF, PT, PU, RA, KC, PK, ST, DC, DY, DS, SU, hv_f2, hR⟩, Or.inl ⟨hI, hN, rfl, eb.symm, e1.symm⟩⟩) (Nat.le_of_ble_eq_true rfl) (Nat.le_of_ble_eq_true rfl) d_M_part_38
      · exact absurd c_23 (by decide)
    · refine lv_iconst (v := 1) hx hb d_M_part_11 (by decide) ?_
      refine lv_goto (tgt := 16) hx hb d_M_part_12 (by decide) ?_
      have hB : ¬ (N_part k0) := fun z9 => by first | exact Int32.not_lt.mpr z9.1 c_2 | exact c_8 z9.2
      refine g_put C i_M t_M t_M_ok n_M hP hS hv.1 rfl 0 (by decide) wd_506 rfl rfl rfl (rfl) (Nat.le_of_ble_eq_true rfl) d_M_part_16 (fun H locs hP hS => ?_)
      obtain ⟨f5, ef5⟩ : ∃ z99, z99 = va_up f y (some (ob 4 [.int 1, .int (nI (bN b)), .ref (ca 0), .ref (ca 1), .ref (ca 2), .ref (ca 3), .int (nI (bRc b)), .ref (ca 4), .int (nI (bHc b)), .ref (ca 5), .ref (ca 6), .ref (ca 7), .ref (ca 8), .ref (ca 9), .ref (ca 10), .ref (ca 11), .ref (ca 12), .ref (ca 13), .ref (ca 14), .ref (ca 15), .ref (ca 16), .ref (ca 17), .long bc, .int cp])) := ⟨_, rfl⟩
      replace hP : hH G (hA f s.heap.size) f5 H := by rw [ef5]; exact hP
      have hv_f5 : mv G f5 y ca 1 (nI (bN b)) (nI (bRc b)) (nI (bHc b)) bc cp MK PL AB BE AS FP PC PF PT PU RA KC PK ST DC DY DS SU := by rw [ef5]; exact mv_y hv _ _ _ _ _ _
      refine lv_aload_n hx hb d_M_part_19 rfl (lv_at hl 0 rfl) ?_
      refine g_get C i_M hP hv_f5.1 rfl 0 (by decide) wd_506 rfl rfl d_M_part_20 ?_
      refine lv_if_eq (tgt := 28) hx hb d_M_part_23 (by decide) (fun c_23 => ?_) (fun c_23 => ?_)
      · exact absurd c_23 (by decide)
      · refine lv_iconst (v := 0) hx hb d_M_part_26 (by decide) ?_
        exact g_iret C hP hS (⟨1, b, bc, cp, ⟨MK, PL, AB, BE, AS, FP, PC, PF, PT, PU, RA, KC, PK, ST, DC, DY, DS, SU, hv_f5, hR⟩, Or.inr (Or.inr ⟨hB, rfl, rfl⟩)⟩) (Nat.le_of_ble_eq_true rfl) (Nat.le_of_ble_eq_true rfl) d_M_part_27
