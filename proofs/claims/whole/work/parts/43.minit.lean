/-! The reference's constructor. -/
set_option maxHeartbeats 4000000 in
set_option maxRecDepth 100000 in
theorem ct_M_init {l : Launch} {G : hG} (f : hm) (y : Nat) (o1 : f y = some (ob 4 [.int 0, .int 0, .null, .null, .null, .null, .int 0, .null, .int 0, .null, .null, .null, .null, .null, .null, .null, .null, .null, .null, .null, .null, .null, .long 0, .int 0])) : cv_ l G y_M_init w_M_init { frames := 1, cells := 18, slots := 23181, locals := 20 } [.ref y] f (fun u => ∃ ca, mS G u y ca b_0 0 0 0) := by
  intro sz
  refine h_ofW (cc := c_M_init) (maxL := 2) (ret := none) (by decide) rfl (Nat.le_of_ble_eq_true rfl) ?_
  intro p e s m below meth c ls C hin hsz hP hl
  obtain ⟨hx, hb, hml, hown, -, -, -, -⟩ := id C
  subst hsz
  have hA0 : ∀ q, s.heap.size ≤ q → hA f s.heap.size q := hA.new
  have hS : va_S (hA f s.heap.size) s.heap s.heap [] := va_S.rf
  replace hl : lv_has ls 2 [(0, .ref y)] := hl
  have loop2 : ∀ (d i : Nat) (fi : hm) (ca : Nat → Nat) (ls : Array Slot) (H : Heap) (locs : List Loc), 4 < i + d → i ≤ 4 → mv G fi y ca 0 0 0 0 0 0 (fun _ => 0) (fun j => nI (if j < 16 then 50 else 0)) (fun _ => 0) (fun _ => 0) (fun _ => 0) (fun _ => 0) (fun _ => 0) (fun _ => 0) (fun _ => 0) (fun _ => 0) (fun j => lN (if j < i then 1000 else 0)) (fun _ => 0) (fun _ => 0) (fun _ => 0) (fun _ => 0) (fun _ => 0) (fun _ => 0) (fun _ => 0) → hH G (hA f s.heap.size) fi H → va_S (hA f s.heap.size) s.heap H locs → lv_has ls 2 [(1, .int (nI i)), (0, .ref y)] → W p l e { frames := 1, cells := 18, slots := 23181, locals := 20 } s m #[.ref y] below meth c H locs 18 23181 (MQ below (va_Qv (fun u => ∃ ca, mS G u y ca b_0 0 0 0) (hB G (hA f s.heap.size)) (hA f s.heap.size)) #[.ref y] s 18 23181 (hA f s.heap.size)) (F0 m 180 ls []) := by
    intro d
    induction d with
    | zero => intro i fi ca ls H locs h1 h2; exact absurd h1 (by omega)
    | succ d ih =>
      intro i fi ca ls H locs h1 h2 hvi hP hS hl
      refine lv_iload_n hx hb d_M_init_180 rfl (lv_at hl 0 rfl) ?_
      refine lv_iconst (v := 4) hx hb d_M_init_181 (by decide) ?_
      refine lv_icmp_ge (tgt := 200) hx hb d_M_init_182 (by decide) (fun c_182 => ?_) (fun c_182 => ?_)
      · have q_1 : i = 4 := by have := (nI_leI (a := 4) (by omega) (by omega)).mp c_182; omega
        subst q_1
        exact g_vret C hP hS (⟨ca, ⟨(fun _ => 0), (fun j => nI (if j < 16 then 50 else 0)), (fun _ => 0), (fun _ => 0), (fun _ => 0), (fun _ => 0), (fun _ => 0), (fun _ => 0), (fun _ => 0), (fun _ => 0), (fun j => lN (if j < 4 then 1000 else 0)), (fun _ => 0), (fun _ => 0), (fun _ => 0), (fun _ => 0), (fun _ => 0), (fun _ => 0), (fun _ => 0), hvi, ⟨⟨rfl, rfl, rfl, fun k hk => by show (0 : Int32) = (if k < 120 then (-1 : Int32) else 0) + 1; rw [if_pos hk]; rfl, fun _ _ => rfl⟩, fun i hi => absurd hi (Nat.not_lt_zero _), fun _ _ => rfl, fun i _ => ⟨rfl, fun _ => 0, fun _ => 0, fun _ => 0, ⟨fun j hj => absurd hj (Nat.not_lt_zero _), fun j hj => absurd hj (Nat.not_lt_zero _), fun j _ hj => absurd hj (Nat.not_lt_zero _)⟩, fun j hj => absurd hj (Nat.not_lt_zero _)⟩, fun i _ => ⟨rfl, fun j hj => absurd hj (Nat.not_lt_zero _)⟩, fun i _ => ⟨rfl, fun _ => 0, ⟨fun j hj => absurd hj (Nat.not_lt_zero _), fun j hj => absurd hj (Nat.not_lt_zero _), fun j _ hj => absurd hj (Nat.not_lt_zero _)⟩, fun j hj => absurd hj (Nat.not_lt_zero _)⟩⟩⟩⟩) (Nat.le_of_ble_eq_true rfl) (Nat.le_of_ble_eq_true rfl) d_M_init_200
      · have hi : i < 4 := Nat.lt_of_not_le (fun z9 => c_182 ((nI_leI (a := 4) (by omega) (by omega)).mpr z9))
        refine lv_aload_n hx hb d_M_init_185 rfl (lv_at hl 1 rfl) ?_
        refine g_get C i_M hP hvi.1 rfl 14 (by decide) wd_520 rfl rfl d_M_init_186 ?_
        refine lv_iload_n hx hb d_M_init_189 rfl (lv_at hl 0 rfl) ?_
        refine lv_ldc2 hx hb hown (C.w wd_505) d_M_init_190 ?_
        refine g_lastN C hP hS hvi.2.2.2.2.2.2.2.2.2.2.2.1 (j := i) (by omega) (by decide) d_M_init_193 (fun H locs hP hS => ?_)
        obtain ⟨g2, eg2⟩ : ∃ z99, z99 = vp_updL (fun j => lN (if j < i then 1000 else 0)) i 1000 := ⟨_, rfl⟩
        rw [← eg2] at hP
        obtain ⟨f1, ef1⟩ : ∃ z99, z99 = va_up fi (ca 10) (some (aL G 4 g2)) := ⟨_, rfl⟩
        replace hP : hH G (hA f s.heap.size) f1 H := by rw [ef1]; exact hP
        have hv_f1 : mv G f1 y ca 0 0 0 0 0 0 (fun _ => 0) (fun j => nI (if j < 16 then 50 else 0)) (fun _ => 0) (fun _ => 0) (fun _ => 0) (fun _ => 0) (fun _ => 0) (fun _ => 0) (fun _ => 0) (fun _ => 0) g2 (fun _ => 0) (fun _ => 0) (fun _ => 0) (fun _ => 0) (fun _ => 0) (fun _ => 0) (fun _ => 0) := by rw [ef1]; exact mv_10 hvi _
        refine lv_iinc (v := nI (i + 1)) (lv' := [(1, .int (nI (i + 1))), (0, .ref y)]) hx hb d_M_init_194 hl (k := 0) rfl (nI_1 i) (by decide) rfl (fun ls hl => ?_)
        refine lv_goto (tgt := 180) hx hb d_M_init_197 (by decide) ?_
        have e9 : g2 = (fun j => lN (if j < i + 1 then 1000 else 0)) := by rw [eg2]; funext j; unfold vp_updL; by_cases hj : j = i; rw [if_pos hj, if_pos (by omega)]; rfl; rw [if_neg hj]; show lN (if j < i then 1000 else 0) = _; by_cases h9 : j < i; rw [if_pos h9, if_pos (by omega)]; rw [if_neg h9, if_neg (by omega)]
        rw [e9] at hv_f1
        exact ih (i + 1) f1 ca ls H locs (by omega) (by omega) hv_f1 hP hS (lv_sub hl [0, 1] rfl)
  have loop1 : ∀ (d i : Nat) (fi : hm) (ca : Nat → Nat) (ls : Array Slot) (H : Heap) (locs : List Loc), 16 < i + d → i ≤ 16 → mv G fi y ca 0 0 0 0 0 0 (fun _ => 0) (fun j => nI (if j < i then 50 else 0)) (fun _ => 0) (fun _ => 0) (fun _ => 0) (fun _ => 0) (fun _ => 0) (fun _ => 0) (fun _ => 0) (fun _ => 0) (fun _ => 0) (fun _ => 0) (fun _ => 0) (fun _ => 0) (fun _ => 0) (fun _ => 0) (fun _ => 0) (fun _ => 0) → hH G (hA f s.heap.size) fi H → va_S (hA f s.heap.size) s.heap H locs → lv_has ls 2 [(1, .int (nI i)), (0, .ref y)] → W p l e { frames := 1, cells := 18, slots := 23181, locals := 20 } s m #[.ref y] below meth c H locs 18 23181 (MQ below (va_Qv (fun u => ∃ ca, mS G u y ca b_0 0 0 0) (hB G (hA f s.heap.size)) (hA f s.heap.size)) #[.ref y] s 18 23181 (hA f s.heap.size)) (F0 m 158 ls []) := by
    intro d
    induction d with
    | zero => intro i fi ca ls H locs h1 h2; exact absurd h1 (by omega)
    | succ d ih =>
      intro i fi ca ls H locs h1 h2 hvi hP hS hl
      refine lv_iload_n hx hb d_M_init_158 rfl (lv_at hl 0 rfl) ?_
      refine lv_bipush (v := 16) hx hb d_M_init_159 (by decide) ?_
      refine lv_icmp_ge (tgt := 178) hx hb d_M_init_161 (by decide) (fun c_161 => ?_) (fun c_161 => ?_)
      · have q_1 : i = 16 := by have := (nI_leI (a := 16) (by omega) (by omega)).mp c_161; omega
        subst q_1
        refine lv_iconst (v := 0) hx hb d_M_init_178 (by decide) ?_
        refine lv_istore_n (lv' := [(1, .int 0), (0, .ref y)]) hx hb d_M_init_179 rfl hl (by decide) rfl (fun ls hl => ?_)
        exact loop2 5 0 fi ca ls H locs (by omega) (by omega) hvi hP hS (lv_sub hl [0, 1] rfl)
      · have hi : i < 16 := Nat.lt_of_not_le (fun z9 => c_161 ((nI_leI (a := 16) (by omega) (by omega)).mpr z9))
        refine lv_aload_n hx hb d_M_init_164 rfl (lv_at hl 1 rfl) ?_
        refine g_get C i_M hP hvi.1 rfl 3 (by decide) wd_509 rfl rfl d_M_init_165 ?_
        refine lv_iload_n hx hb d_M_init_168 rfl (lv_at hl 0 rfl) ?_
        refine lv_bipush (v := 50) hx hb d_M_init_169 (by decide) ?_
        refine g_iastN C hP hS hvi.2.2.1 (j := i) (by omega) (by decide) d_M_init_171 (fun H locs hP hS => ?_)
        obtain ⟨g2, eg2⟩ : ∃ z99, z99 = upd (fun j => nI (if j < i then 50 else 0)) i 50 := ⟨_, rfl⟩
        rw [← eg2] at hP
        obtain ⟨f1, ef1⟩ : ∃ z99, z99 = va_up fi (ca 1) (some (aI G 16 g2)) := ⟨_, rfl⟩
        replace hP : hH G (hA f s.heap.size) f1 H := by rw [ef1]; exact hP
        have hv_f1 : mv G f1 y ca 0 0 0 0 0 0 (fun _ => 0) g2 (fun _ => 0) (fun _ => 0) (fun _ => 0) (fun _ => 0) (fun _ => 0) (fun _ => 0) (fun _ => 0) (fun _ => 0) (fun _ => 0) (fun _ => 0) (fun _ => 0) (fun _ => 0) (fun _ => 0) (fun _ => 0) (fun _ => 0) (fun _ => 0) := by rw [ef1]; exact mv_1 hvi _
        refine lv_iinc (v := nI (i + 1)) (lv' := [(1, .int (nI (i + 1))), (0, .ref y)]) hx hb d_M_init_172 hl (k := 0) rfl (nI_1 i) (by decide) rfl (fun ls hl => ?_)
        refine lv_goto (tgt := 158) hx hb d_M_init_175 (by decide) ?_
        have e9 : g2 = (fun j => nI (if j < i + 1 then 50 else 0)) := by rw [eg2]; funext j; unfold upd; by_cases hj : j = i; rw [if_pos hj, if_pos (by omega)]; rfl; rw [if_neg hj]; show nI (if j < i then 50 else 0) = _; by_cases h9 : j < i; rw [if_pos h9, if_pos (by omega)]; rw [if_neg h9, if_neg (by omega)]
        rw [e9] at hv_f1
        exact ih (i + 1) f1 ca ls H locs (by omega) (by omega) hv_f1 hP hS (lv_sub hl [0, 1] rfl)
  refine lv_aload_n hx hb d_M_init_0 rfl (lv_at hl 0 rfl) ?_
  refine g_objI C hl.1 wd_504 wd_20 wd_21 d_M_init_1 (Nat.le_of_ble_eq_true rfl) (Nat.le_of_ble_eq_true rfl) ?_
  refine lv_aload_n hx hb d_M_init_4 rfl (lv_at hl 0 rfl) ?_
  refine lv_bipush (v := 40) hx hb d_M_init_5 (by decide) ?_
  refine g_newI C wd_56 hP hS hA0 40 (by decide) (by decide) (by decide) (Nat.le_of_ble_eq_true rfl) (Nat.le_of_ble_eq_true rfl) d_M_init_7 (fun q1 H hnq1 hP hS => ?_)
  obtain ⟨f2, ef2⟩ : ∃ z99, z99 = va_up f q1 (some (aI G 40 (fun _ => 0))) := ⟨_, rfl⟩
  replace hP : hH G (hA f s.heap.size) f2 H := by rw [ef2]; exact hP
  have o1_f2 := (hm_up (v := some (aI G 40 (fun _ => 0))) ef2 (hm_nn o1 hnq1)).trans o1
  have o_q1_f2 : f2 q1 = some (aI G 40 (fun _ => 0)) := by rw [ef2]; exact va_up_self _ _ _
  refine g_putF C i_M t_M t_M_ok n_M hP hS o1_f2 rfl 2 (by decide) wd_508 rfl rfl hin rfl rfl (rfl) (Nat.le_of_ble_eq_true rfl) d_M_init_9 (fun H locs hP hS => ?_)
  obtain ⟨f3, ef3⟩ : ∃ z99, z99 = va_up f2 y (some (ob 4 [.int 0, .int 0, .ref q1, .null, .null, .null, .int 0, .null, .int 0, .null, .null, .null, .null, .null, .null, .null, .null, .null, .null, .null, .null, .null, .long 0, .int 0])) := ⟨_, rfl⟩
  replace hP : hH G (hA f s.heap.size) f3 H := by rw [ef3]; exact hP
  have o1_f3 : f3 y = some (ob 4 [.int 0, .int 0, .ref q1, .null, .null, .null, .int 0, .null, .int 0, .null, .null, .null, .null, .null, .null, .null, .null, .null, .null, .null, .null, .null, .long 0, .int 0]) := by rw [ef3]; exact va_up_self _ _ _
  have o_q1_f3 := (hm_up (v := some (ob 4 [.int 0, .int 0, .ref q1, .null, .null, .null, .int 0, .null, .int 0, .null, .null, .null, .null, .null, .null, .null, .null, .null, .null, .null, .null, .null, .long 0, .int 0])) ef3 (hm_ne o_q1_f2 o1_f2 (by simp))).trans o_q1_f2
  refine lv_aload_n hx hb d_M_init_12 rfl (lv_at hl 0 rfl) ?_
  refine lv_bipush (v := 16) hx hb d_M_init_13 (by decide) ?_
  refine g_newI C wd_56 hP hS hA0 16 (by decide) (by decide) (by decide) (Nat.le_of_ble_eq_true rfl) (Nat.le_of_ble_eq_true rfl) d_M_init_15 (fun q4 H hnq4 hP hS => ?_)
  obtain ⟨f5, ef5⟩ : ∃ z99, z99 = va_up f3 q4 (some (aI G 16 (fun _ => 0))) := ⟨_, rfl⟩
  replace hP : hH G (hA f s.heap.size) f5 H := by rw [ef5]; exact hP
  have o1_f5 := (hm_up (v := some (aI G 16 (fun _ => 0))) ef5 (hm_nn o1_f3 hnq4)).trans o1_f3
  have o_q1_f5 := (hm_up (v := some (aI G 16 (fun _ => 0))) ef5 (hm_nn o_q1_f3 hnq4)).trans o_q1_f3
  have o_q4_f5 : f5 q4 = some (aI G 16 (fun _ => 0)) := by rw [ef5]; exact va_up_self _ _ _
  refine g_putF C i_M t_M t_M_ok n_M hP hS o1_f5 rfl 3 (by decide) wd_509 rfl rfl hin rfl rfl (rfl) (Nat.le_of_ble_eq_true rfl) d_M_init_17 (fun H locs hP hS => ?_)
  obtain ⟨f6, ef6⟩ : ∃ z99, z99 = va_up f5 y (some (ob 4 [.int 0, .int 0, .ref q1, .ref q4, .null, .null, .int 0, .null, .int 0, .null, .null, .null, .null, .null, .null, .null, .null, .null, .null, .null, .null, .null, .long 0, .int 0])) := ⟨_, rfl⟩
  replace hP : hH G (hA f s.heap.size) f6 H := by rw [ef6]; exact hP
  have o1_f6 : f6 y = some (ob 4 [.int 0, .int 0, .ref q1, .ref q4, .null, .null, .int 0, .null, .int 0, .null, .null, .null, .null, .null, .null, .null, .null, .null, .null, .null, .null, .null, .long 0, .int 0]) := by rw [ef6]; exact va_up_self _ _ _
  have o_q1_f6 := (hm_up (v := some (ob 4 [.int 0, .int 0, .ref q1, .ref q4, .null, .null, .int 0, .null, .int 0, .null, .null, .null, .null, .null, .null, .null, .null, .null, .null, .null, .null, .null, .long 0, .int 0])) ef6 (hm_ne o_q1_f5 o1_f5 (by simp))).trans o_q1_f5
  have o_q4_f6 := (hm_up (v := some (ob 4 [.int 0, .int 0, .ref q1, .ref q4, .null, .null, .int 0, .null, .int 0, .null, .null, .null, .null, .null, .null, .null, .null, .null, .null, .null, .null, .null, .long 0, .int 0])) ef6 (hm_ne o_q4_f5 o1_f5 (by simp))).trans o_q4_f5
  refine lv_aload_n hx hb d_M_init_20 rfl (lv_at hl 0 rfl) ?_
  refine lv_sipush (v := 480) hx hb d_M_init_21 (by decide) ?_
  refine g_newL C wd_57 hP hS hA0 480 (by decide) (by decide) (by decide) (Nat.le_of_ble_eq_true rfl) (Nat.le_of_ble_eq_true rfl) d_M_init_24 (fun q7 H hnq7 hP hS => ?_)
  obtain ⟨f8, ef8⟩ : ∃ z99, z99 = va_up f6 q7 (some (aL G 480 (fun _ => 0))) := ⟨_, rfl⟩
  replace hP : hH G (hA f s.heap.size) f8 H := by rw [ef8]; exact hP
  have o1_f8 := (hm_up (v := some (aL G 480 (fun _ => 0))) ef8 (hm_nn o1_f6 hnq7)).trans o1_f6
  have o_q1_f8 := (hm_up (v := some (aL G 480 (fun _ => 0))) ef8 (hm_nn o_q1_f6 hnq7)).trans o_q1_f6
  have o_q4_f8 := (hm_up (v := some (aL G 480 (fun _ => 0))) ef8 (hm_nn o_q4_f6 hnq7)).trans o_q4_f6
  have o_q7_f8 : f8 q7 = some (aL G 480 (fun _ => 0)) := by rw [ef8]; exact va_up_self _ _ _
  refine g_putF C i_M t_M t_M_ok n_M hP hS o1_f8 rfl 4 (by decide) wd_510 rfl rfl hin rfl rfl (rfl) (Nat.le_of_ble_eq_true rfl) d_M_init_26 (fun H locs hP hS => ?_)
  obtain ⟨f9, ef9⟩ : ∃ z99, z99 = va_up f8 y (some (ob 4 [.int 0, .int 0, .ref q1, .ref q4, .ref q7, .null, .int 0, .null, .int 0, .null, .null, .null, .null, .null, .null, .null, .null, .null, .null, .null, .null, .null, .long 0, .int 0])) := ⟨_, rfl⟩
  replace hP : hH G (hA f s.heap.size) f9 H := by rw [ef9]; exact hP
  have o1_f9 : f9 y = some (ob 4 [.int 0, .int 0, .ref q1, .ref q4, .ref q7, .null, .int 0, .null, .int 0, .null, .null, .null, .null, .null, .null, .null, .null, .null, .null, .null, .null, .null, .long 0, .int 0]) := by rw [ef9]; exact va_up_self _ _ _
  have o_q1_f9 := (hm_up (v := some (ob 4 [.int 0, .int 0, .ref q1, .ref q4, .ref q7, .null, .int 0, .null, .int 0, .null, .null, .null, .null, .null, .null, .null, .null, .null, .null, .null, .null, .null, .long 0, .int 0])) ef9 (hm_ne o_q1_f8 o1_f8 (by simp))).trans o_q1_f8
  have o_q4_f9 := (hm_up (v := some (ob 4 [.int 0, .int 0, .ref q1, .ref q4, .ref q7, .null, .int 0, .null, .int 0, .null, .null, .null, .null, .null, .null, .null, .null, .null, .null, .null, .null, .null, .long 0, .int 0])) ef9 (hm_ne o_q4_f8 o1_f8 (by simp))).trans o_q4_f8
  have o_q7_f9 := (hm_up (v := some (ob 4 [.int 0, .int 0, .ref q1, .ref q4, .ref q7, .null, .int 0, .null, .int 0, .null, .null, .null, .null, .null, .null, .null, .null, .null, .null, .null, .null, .null, .long 0, .int 0])) ef9 (hm_ne o_q7_f8 o1_f8 (by simp))).trans o_q7_f8
  refine lv_aload_n hx hb d_M_init_29 rfl (lv_at hl 0 rfl) ?_
  refine lv_sipush (v := 480) hx hb d_M_init_30 (by decide) ?_
  refine g_newL C wd_57 hP hS hA0 480 (by decide) (by decide) (by decide) (Nat.le_of_ble_eq_true rfl) (Nat.le_of_ble_eq_true rfl) d_M_init_33 (fun q10 H hnq10 hP hS => ?_)
  obtain ⟨f11, ef11⟩ : ∃ z99, z99 = va_up f9 q10 (some (aL G 480 (fun _ => 0))) := ⟨_, rfl⟩
  replace hP : hH G (hA f s.heap.size) f11 H := by rw [ef11]; exact hP
  have o1_f11 := (hm_up (v := some (aL G 480 (fun _ => 0))) ef11 (hm_nn o1_f9 hnq10)).trans o1_f9
  have o_q1_f11 := (hm_up (v := some (aL G 480 (fun _ => 0))) ef11 (hm_nn o_q1_f9 hnq10)).trans o_q1_f9
  have o_q4_f11 := (hm_up (v := some (aL G 480 (fun _ => 0))) ef11 (hm_nn o_q4_f9 hnq10)).trans o_q4_f9
  have o_q7_f11 := (hm_up (v := some (aL G 480 (fun _ => 0))) ef11 (hm_nn o_q7_f9 hnq10)).trans o_q7_f9
  have o_q10_f11 : f11 q10 = some (aL G 480 (fun _ => 0)) := by rw [ef11]; exact va_up_self _ _ _
  refine g_putF C i_M t_M t_M_ok n_M hP hS o1_f11 rfl 5 (by decide) wd_511 rfl rfl hin rfl rfl (rfl) (Nat.le_of_ble_eq_true rfl) d_M_init_35 (fun H locs hP hS => ?_)
  obtain ⟨f12, ef12⟩ : ∃ z99, z99 = va_up f11 y (some (ob 4 [.int 0, .int 0, .ref q1, .ref q4, .ref q7, .ref q10, .int 0, .null, .int 0, .null, .null, .null, .null, .null, .null, .null, .null, .null, .null, .null, .null, .null, .long 0, .int 0])) := ⟨_, rfl⟩
  replace hP : hH G (hA f s.heap.size) f12 H := by rw [ef12]; exact hP
  have o1_f12 : f12 y = some (ob 4 [.int 0, .int 0, .ref q1, .ref q4, .ref q7, .ref q10, .int 0, .null, .int 0, .null, .null, .null, .null, .null, .null, .null, .null, .null, .null, .null, .null, .null, .long 0, .int 0]) := by rw [ef12]; exact va_up_self _ _ _
  have o_q1_f12 := (hm_up (v := some (ob 4 [.int 0, .int 0, .ref q1, .ref q4, .ref q7, .ref q10, .int 0, .null, .int 0, .null, .null, .null, .null, .null, .null, .null, .null, .null, .null, .null, .null, .null, .long 0, .int 0])) ef12 (hm_ne o_q1_f11 o1_f11 (by simp))).trans o_q1_f11
  have o_q4_f12 := (hm_up (v := some (ob 4 [.int 0, .int 0, .ref q1, .ref q4, .ref q7, .ref q10, .int 0, .null, .int 0, .null, .null, .null, .null, .null, .null, .null, .null, .null, .null, .null, .null, .null, .long 0, .int 0])) ef12 (hm_ne o_q4_f11 o1_f11 (by simp))).trans o_q4_f11
  have o_q7_f12 := (hm_up (v := some (ob 4 [.int 0, .int 0, .ref q1, .ref q4, .ref q7, .ref q10, .int 0, .null, .int 0, .null, .null, .null, .null, .null, .null, .null, .null, .null, .null, .null, .null, .null, .long 0, .int 0])) ef12 (hm_ne o_q7_f11 o1_f11 (by simp))).trans o_q7_f11
  have o_q10_f12 := (hm_up (v := some (ob 4 [.int 0, .int 0, .ref q1, .ref q4, .ref q7, .ref q10, .int 0, .null, .int 0, .null, .null, .null, .null, .null, .null, .null, .null, .null, .null, .null, .null, .null, .long 0, .int 0])) ef12 (hm_ne o_q10_f11 o1_f11 (by simp))).trans o_q10_f11
  refine lv_aload_n hx hb d_M_init_38 rfl (lv_at hl 0 rfl) ?_
  refine lv_bipush (v := 120) hx hb d_M_init_39 (by decide) ?_
  refine g_newI C wd_56 hP hS hA0 120 (by decide) (by decide) (by decide) (Nat.le_of_ble_eq_true rfl) (Nat.le_of_ble_eq_true rfl) d_M_init_41 (fun q13 H hnq13 hP hS => ?_)
  obtain ⟨f14, ef14⟩ : ∃ z99, z99 = va_up f12 q13 (some (aI G 120 (fun _ => 0))) := ⟨_, rfl⟩
  replace hP : hH G (hA f s.heap.size) f14 H := by rw [ef14]; exact hP
  have o1_f14 := (hm_up (v := some (aI G 120 (fun _ => 0))) ef14 (hm_nn o1_f12 hnq13)).trans o1_f12
  have o_q1_f14 := (hm_up (v := some (aI G 120 (fun _ => 0))) ef14 (hm_nn o_q1_f12 hnq13)).trans o_q1_f12
  have o_q4_f14 := (hm_up (v := some (aI G 120 (fun _ => 0))) ef14 (hm_nn o_q4_f12 hnq13)).trans o_q4_f12
  have o_q7_f14 := (hm_up (v := some (aI G 120 (fun _ => 0))) ef14 (hm_nn o_q7_f12 hnq13)).trans o_q7_f12
  have o_q10_f14 := (hm_up (v := some (aI G 120 (fun _ => 0))) ef14 (hm_nn o_q10_f12 hnq13)).trans o_q10_f12
  have o_q13_f14 : f14 q13 = some (aI G 120 (fun _ => 0)) := by rw [ef14]; exact va_up_self _ _ _
  refine g_putF C i_M t_M t_M_ok n_M hP hS o1_f14 rfl 7 (by decide) wd_513 rfl rfl hin rfl rfl (rfl) (Nat.le_of_ble_eq_true rfl) d_M_init_43 (fun H locs hP hS => ?_)
  obtain ⟨f15, ef15⟩ : ∃ z99, z99 = va_up f14 y (some (ob 4 [.int 0, .int 0, .ref q1, .ref q4, .ref q7, .ref q10, .int 0, .ref q13, .int 0, .null, .null, .null, .null, .null, .null, .null, .null, .null, .null, .null, .null, .null, .long 0, .int 0])) := ⟨_, rfl⟩
  replace hP : hH G (hA f s.heap.size) f15 H := by rw [ef15]; exact hP
  have o1_f15 : f15 y = some (ob 4 [.int 0, .int 0, .ref q1, .ref q4, .ref q7, .ref q10, .int 0, .ref q13, .int 0, .null, .null, .null, .null, .null, .null, .null, .null, .null, .null, .null, .null, .null, .long 0, .int 0]) := by rw [ef15]; exact va_up_self _ _ _
  have o_q1_f15 := (hm_up (v := some (ob 4 [.int 0, .int 0, .ref q1, .ref q4, .ref q7, .ref q10, .int 0, .ref q13, .int 0, .null, .null, .null, .null, .null, .null, .null, .null, .null, .null, .null, .null, .null, .long 0, .int 0])) ef15 (hm_ne o_q1_f14 o1_f14 (by simp))).trans o_q1_f14
  have o_q4_f15 := (hm_up (v := some (ob 4 [.int 0, .int 0, .ref q1, .ref q4, .ref q7, .ref q10, .int 0, .ref q13, .int 0, .null, .null, .null, .null, .null, .null, .null, .null, .null, .null, .null, .null, .null, .long 0, .int 0])) ef15 (hm_ne o_q4_f14 o1_f14 (by simp))).trans o_q4_f14
  have o_q7_f15 := (hm_up (v := some (ob 4 [.int 0, .int 0, .ref q1, .ref q4, .ref q7, .ref q10, .int 0, .ref q13, .int 0, .null, .null, .null, .null, .null, .null, .null, .null, .null, .null, .null, .null, .null, .long 0, .int 0])) ef15 (hm_ne o_q7_f14 o1_f14 (by simp))).trans o_q7_f14
  have o_q10_f15 := (hm_up (v := some (ob 4 [.int 0, .int 0, .ref q1, .ref q4, .ref q7, .ref q10, .int 0, .ref q13, .int 0, .null, .null, .null, .null, .null, .null, .null, .null, .null, .null, .null, .null, .null, .long 0, .int 0])) ef15 (hm_ne o_q10_f14 o1_f14 (by simp))).trans o_q10_f14
  have o_q13_f15 := (hm_up (v := some (ob 4 [.int 0, .int 0, .ref q1, .ref q4, .ref q7, .ref q10, .int 0, .ref q13, .int 0, .null, .null, .null, .null, .null, .null, .null, .null, .null, .null, .null, .null, .null, .long 0, .int 0])) ef15 (hm_ne o_q13_f14 o1_f14 (by simp))).trans o_q13_f14
  refine lv_aload_n hx hb d_M_init_46 rfl (lv_at hl 0 rfl) ?_
  refine lv_bipush (v := 40) hx hb d_M_init_47 (by decide) ?_
  refine g_newI C wd_56 hP hS hA0 40 (by decide) (by decide) (by decide) (Nat.le_of_ble_eq_true rfl) (Nat.le_of_ble_eq_true rfl) d_M_init_49 (fun q16 H hnq16 hP hS => ?_)
  obtain ⟨f17, ef17⟩ : ∃ z99, z99 = va_up f15 q16 (some (aI G 40 (fun _ => 0))) := ⟨_, rfl⟩
  replace hP : hH G (hA f s.heap.size) f17 H := by rw [ef17]; exact hP
  have o1_f17 := (hm_up (v := some (aI G 40 (fun _ => 0))) ef17 (hm_nn o1_f15 hnq16)).trans o1_f15
  have o_q1_f17 := (hm_up (v := some (aI G 40 (fun _ => 0))) ef17 (hm_nn o_q1_f15 hnq16)).trans o_q1_f15
  have o_q4_f17 := (hm_up (v := some (aI G 40 (fun _ => 0))) ef17 (hm_nn o_q4_f15 hnq16)).trans o_q4_f15
  have o_q7_f17 := (hm_up (v := some (aI G 40 (fun _ => 0))) ef17 (hm_nn o_q7_f15 hnq16)).trans o_q7_f15
  have o_q10_f17 := (hm_up (v := some (aI G 40 (fun _ => 0))) ef17 (hm_nn o_q10_f15 hnq16)).trans o_q10_f15
  have o_q13_f17 := (hm_up (v := some (aI G 40 (fun _ => 0))) ef17 (hm_nn o_q13_f15 hnq16)).trans o_q13_f15
  have o_q16_f17 : f17 q16 = some (aI G 40 (fun _ => 0)) := by rw [ef17]; exact va_up_self _ _ _
  refine g_putF C i_M t_M t_M_ok n_M hP hS o1_f17 rfl 9 (by decide) wd_515 rfl rfl hin rfl rfl (rfl) (Nat.le_of_ble_eq_true rfl) d_M_init_51 (fun H locs hP hS => ?_)
  obtain ⟨f18, ef18⟩ : ∃ z99, z99 = va_up f17 y (some (ob 4 [.int 0, .int 0, .ref q1, .ref q4, .ref q7, .ref q10, .int 0, .ref q13, .int 0, .ref q16, .null, .null, .null, .null, .null, .null, .null, .null, .null, .null, .null, .null, .long 0, .int 0])) := ⟨_, rfl⟩
  replace hP : hH G (hA f s.heap.size) f18 H := by rw [ef18]; exact hP
  have o1_f18 : f18 y = some (ob 4 [.int 0, .int 0, .ref q1, .ref q4, .ref q7, .ref q10, .int 0, .ref q13, .int 0, .ref q16, .null, .null, .null, .null, .null, .null, .null, .null, .null, .null, .null, .null, .long 0, .int 0]) := by rw [ef18]; exact va_up_self _ _ _
  have o_q1_f18 := (hm_up (v := some (ob 4 [.int 0, .int 0, .ref q1, .ref q4, .ref q7, .ref q10, .int 0, .ref q13, .int 0, .ref q16, .null, .null, .null, .null, .null, .null, .null, .null, .null, .null, .null, .null, .long 0, .int 0])) ef18 (hm_ne o_q1_f17 o1_f17 (by simp))).trans o_q1_f17
  have o_q4_f18 := (hm_up (v := some (ob 4 [.int 0, .int 0, .ref q1, .ref q4, .ref q7, .ref q10, .int 0, .ref q13, .int 0, .ref q16, .null, .null, .null, .null, .null, .null, .null, .null, .null, .null, .null, .null, .long 0, .int 0])) ef18 (hm_ne o_q4_f17 o1_f17 (by simp))).trans o_q4_f17
  have o_q7_f18 := (hm_up (v := some (ob 4 [.int 0, .int 0, .ref q1, .ref q4, .ref q7, .ref q10, .int 0, .ref q13, .int 0, .ref q16, .null, .null, .null, .null, .null, .null, .null, .null, .null, .null, .null, .null, .long 0, .int 0])) ef18 (hm_ne o_q7_f17 o1_f17 (by simp))).trans o_q7_f17
  have o_q10_f18 := (hm_up (v := some (ob 4 [.int 0, .int 0, .ref q1, .ref q4, .ref q7, .ref q10, .int 0, .ref q13, .int 0, .ref q16, .null, .null, .null, .null, .null, .null, .null, .null, .null, .null, .null, .null, .long 0, .int 0])) ef18 (hm_ne o_q10_f17 o1_f17 (by simp))).trans o_q10_f17
  have o_q13_f18 := (hm_up (v := some (ob 4 [.int 0, .int 0, .ref q1, .ref q4, .ref q7, .ref q10, .int 0, .ref q13, .int 0, .ref q16, .null, .null, .null, .null, .null, .null, .null, .null, .null, .null, .null, .null, .long 0, .int 0])) ef18 (hm_ne o_q13_f17 o1_f17 (by simp))).trans o_q13_f17
  have o_q16_f18 := (hm_up (v := some (ob 4 [.int 0, .int 0, .ref q1, .ref q4, .ref q7, .ref q10, .int 0, .ref q13, .int 0, .ref q16, .null, .null, .null, .null, .null, .null, .null, .null, .null, .null, .null, .null, .long 0, .int 0])) ef18 (hm_ne o_q16_f17 o1_f17 (by simp))).trans o_q16_f17
  refine lv_aload_n hx hb d_M_init_54 rfl (lv_at hl 0 rfl) ?_
  refine lv_bipush (v := 40) hx hb d_M_init_55 (by decide) ?_
  refine g_newI C wd_56 hP hS hA0 40 (by decide) (by decide) (by decide) (Nat.le_of_ble_eq_true rfl) (Nat.le_of_ble_eq_true rfl) d_M_init_57 (fun q19 H hnq19 hP hS => ?_)
  obtain ⟨f20, ef20⟩ : ∃ z99, z99 = va_up f18 q19 (some (aI G 40 (fun _ => 0))) := ⟨_, rfl⟩
  replace hP : hH G (hA f s.heap.size) f20 H := by rw [ef20]; exact hP
  have o1_f20 := (hm_up (v := some (aI G 40 (fun _ => 0))) ef20 (hm_nn o1_f18 hnq19)).trans o1_f18
  have o_q1_f20 := (hm_up (v := some (aI G 40 (fun _ => 0))) ef20 (hm_nn o_q1_f18 hnq19)).trans o_q1_f18
  have o_q4_f20 := (hm_up (v := some (aI G 40 (fun _ => 0))) ef20 (hm_nn o_q4_f18 hnq19)).trans o_q4_f18
  have o_q7_f20 := (hm_up (v := some (aI G 40 (fun _ => 0))) ef20 (hm_nn o_q7_f18 hnq19)).trans o_q7_f18
  have o_q10_f20 := (hm_up (v := some (aI G 40 (fun _ => 0))) ef20 (hm_nn o_q10_f18 hnq19)).trans o_q10_f18
  have o_q13_f20 := (hm_up (v := some (aI G 40 (fun _ => 0))) ef20 (hm_nn o_q13_f18 hnq19)).trans o_q13_f18
  have o_q16_f20 := (hm_up (v := some (aI G 40 (fun _ => 0))) ef20 (hm_nn o_q16_f18 hnq19)).trans o_q16_f18
  have o_q19_f20 : f20 q19 = some (aI G 40 (fun _ => 0)) := by rw [ef20]; exact va_up_self _ _ _
  refine g_putF C i_M t_M t_M_ok n_M hP hS o1_f20 rfl 10 (by decide) wd_516 rfl rfl hin rfl rfl (rfl) (Nat.le_of_ble_eq_true rfl) d_M_init_59 (fun H locs hP hS => ?_)
  obtain ⟨f21, ef21⟩ : ∃ z99, z99 = va_up f20 y (some (ob 4 [.int 0, .int 0, .ref q1, .ref q4, .ref q7, .ref q10, .int 0, .ref q13, .int 0, .ref q16, .ref q19, .null, .null, .null, .null, .null, .null, .null, .null, .null, .null, .null, .long 0, .int 0])) := ⟨_, rfl⟩
  replace hP : hH G (hA f s.heap.size) f21 H := by rw [ef21]; exact hP
  have o1_f21 : f21 y = some (ob 4 [.int 0, .int 0, .ref q1, .ref q4, .ref q7, .ref q10, .int 0, .ref q13, .int 0, .ref q16, .ref q19, .null, .null, .null, .null, .null, .null, .null, .null, .null, .null, .null, .long 0, .int 0]) := by rw [ef21]; exact va_up_self _ _ _
  have o_q1_f21 := (hm_up (v := some (ob 4 [.int 0, .int 0, .ref q1, .ref q4, .ref q7, .ref q10, .int 0, .ref q13, .int 0, .ref q16, .ref q19, .null, .null, .null, .null, .null, .null, .null, .null, .null, .null, .null, .long 0, .int 0])) ef21 (hm_ne o_q1_f20 o1_f20 (by simp))).trans o_q1_f20
  have o_q4_f21 := (hm_up (v := some (ob 4 [.int 0, .int 0, .ref q1, .ref q4, .ref q7, .ref q10, .int 0, .ref q13, .int 0, .ref q16, .ref q19, .null, .null, .null, .null, .null, .null, .null, .null, .null, .null, .null, .long 0, .int 0])) ef21 (hm_ne o_q4_f20 o1_f20 (by simp))).trans o_q4_f20
  have o_q7_f21 := (hm_up (v := some (ob 4 [.int 0, .int 0, .ref q1, .ref q4, .ref q7, .ref q10, .int 0, .ref q13, .int 0, .ref q16, .ref q19, .null, .null, .null, .null, .null, .null, .null, .null, .null, .null, .null, .long 0, .int 0])) ef21 (hm_ne o_q7_f20 o1_f20 (by simp))).trans o_q7_f20
  have o_q10_f21 := (hm_up (v := some (ob 4 [.int 0, .int 0, .ref q1, .ref q4, .ref q7, .ref q10, .int 0, .ref q13, .int 0, .ref q16, .ref q19, .null, .null, .null, .null, .null, .null, .null, .null, .null, .null, .null, .long 0, .int 0])) ef21 (hm_ne o_q10_f20 o1_f20 (by simp))).trans o_q10_f20
  have o_q13_f21 := (hm_up (v := some (ob 4 [.int 0, .int 0, .ref q1, .ref q4, .ref q7, .ref q10, .int 0, .ref q13, .int 0, .ref q16, .ref q19, .null, .null, .null, .null, .null, .null, .null, .null, .null, .null, .null, .long 0, .int 0])) ef21 (hm_ne o_q13_f20 o1_f20 (by simp))).trans o_q13_f20
  have o_q16_f21 := (hm_up (v := some (ob 4 [.int 0, .int 0, .ref q1, .ref q4, .ref q7, .ref q10, .int 0, .ref q13, .int 0, .ref q16, .ref q19, .null, .null, .null, .null, .null, .null, .null, .null, .null, .null, .null, .long 0, .int 0])) ef21 (hm_ne o_q16_f20 o1_f20 (by simp))).trans o_q16_f20
  have o_q19_f21 := (hm_up (v := some (ob 4 [.int 0, .int 0, .ref q1, .ref q4, .ref q7, .ref q10, .int 0, .ref q13, .int 0, .ref q16, .ref q19, .null, .null, .null, .null, .null, .null, .null, .null, .null, .null, .null, .long 0, .int 0])) ef21 (hm_ne o_q19_f20 o1_f20 (by simp))).trans o_q19_f20
  refine lv_aload_n hx hb d_M_init_62 rfl (lv_at hl 0 rfl) ?_
  refine lv_sipush (v := 320) hx hb d_M_init_63 (by decide) ?_
  refine g_newI C wd_56 hP hS hA0 320 (by decide) (by decide) (by decide) (Nat.le_of_ble_eq_true rfl) (Nat.le_of_ble_eq_true rfl) d_M_init_66 (fun q22 H hnq22 hP hS => ?_)
  obtain ⟨f23, ef23⟩ : ∃ z99, z99 = va_up f21 q22 (some (aI G 320 (fun _ => 0))) := ⟨_, rfl⟩
  replace hP : hH G (hA f s.heap.size) f23 H := by rw [ef23]; exact hP
  have o1_f23 := (hm_up (v := some (aI G 320 (fun _ => 0))) ef23 (hm_nn o1_f21 hnq22)).trans o1_f21
  have o_q1_f23 := (hm_up (v := some (aI G 320 (fun _ => 0))) ef23 (hm_nn o_q1_f21 hnq22)).trans o_q1_f21
  have o_q4_f23 := (hm_up (v := some (aI G 320 (fun _ => 0))) ef23 (hm_nn o_q4_f21 hnq22)).trans o_q4_f21
  have o_q7_f23 := (hm_up (v := some (aI G 320 (fun _ => 0))) ef23 (hm_nn o_q7_f21 hnq22)).trans o_q7_f21
  have o_q10_f23 := (hm_up (v := some (aI G 320 (fun _ => 0))) ef23 (hm_nn o_q10_f21 hnq22)).trans o_q10_f21
  have o_q13_f23 := (hm_up (v := some (aI G 320 (fun _ => 0))) ef23 (hm_nn o_q13_f21 hnq22)).trans o_q13_f21
  have o_q16_f23 := (hm_up (v := some (aI G 320 (fun _ => 0))) ef23 (hm_nn o_q16_f21 hnq22)).trans o_q16_f21
  have o_q19_f23 := (hm_up (v := some (aI G 320 (fun _ => 0))) ef23 (hm_nn o_q19_f21 hnq22)).trans o_q19_f21
  have o_q22_f23 : f23 q22 = some (aI G 320 (fun _ => 0)) := by rw [ef23]; exact va_up_self _ _ _
  refine g_putF C i_M t_M t_M_ok n_M hP hS o1_f23 rfl 11 (by decide) wd_517 rfl rfl hin rfl rfl (rfl) (Nat.le_of_ble_eq_true rfl) d_M_init_68 (fun H locs hP hS => ?_)
  obtain ⟨f24, ef24⟩ : ∃ z99, z99 = va_up f23 y (some (ob 4 [.int 0, .int 0, .ref q1, .ref q4, .ref q7, .ref q10, .int 0, .ref q13, .int 0, .ref q16, .ref q19, .ref q22, .null, .null, .null, .null, .null, .null, .null, .null, .null, .null, .long 0, .int 0])) := ⟨_, rfl⟩
  replace hP : hH G (hA f s.heap.size) f24 H := by rw [ef24]; exact hP
  have o1_f24 : f24 y = some (ob 4 [.int 0, .int 0, .ref q1, .ref q4, .ref q7, .ref q10, .int 0, .ref q13, .int 0, .ref q16, .ref q19, .ref q22, .null, .null, .null, .null, .null, .null, .null, .null, .null, .null, .long 0, .int 0]) := by rw [ef24]; exact va_up_self _ _ _
  have o_q1_f24 := (hm_up (v := some (ob 4 [.int 0, .int 0, .ref q1, .ref q4, .ref q7, .ref q10, .int 0, .ref q13, .int 0, .ref q16, .ref q19, .ref q22, .null, .null, .null, .null, .null, .null, .null, .null, .null, .null, .long 0, .int 0])) ef24 (hm_ne o_q1_f23 o1_f23 (by simp))).trans o_q1_f23
  have o_q4_f24 := (hm_up (v := some (ob 4 [.int 0, .int 0, .ref q1, .ref q4, .ref q7, .ref q10, .int 0, .ref q13, .int 0, .ref q16, .ref q19, .ref q22, .null, .null, .null, .null, .null, .null, .null, .null, .null, .null, .long 0, .int 0])) ef24 (hm_ne o_q4_f23 o1_f23 (by simp))).trans o_q4_f23
  have o_q7_f24 := (hm_up (v := some (ob 4 [.int 0, .int 0, .ref q1, .ref q4, .ref q7, .ref q10, .int 0, .ref q13, .int 0, .ref q16, .ref q19, .ref q22, .null, .null, .null, .null, .null, .null, .null, .null, .null, .null, .long 0, .int 0])) ef24 (hm_ne o_q7_f23 o1_f23 (by simp))).trans o_q7_f23
  have o_q10_f24 := (hm_up (v := some (ob 4 [.int 0, .int 0, .ref q1, .ref q4, .ref q7, .ref q10, .int 0, .ref q13, .int 0, .ref q16, .ref q19, .ref q22, .null, .null, .null, .null, .null, .null, .null, .null, .null, .null, .long 0, .int 0])) ef24 (hm_ne o_q10_f23 o1_f23 (by simp))).trans o_q10_f23
  have o_q13_f24 := (hm_up (v := some (ob 4 [.int 0, .int 0, .ref q1, .ref q4, .ref q7, .ref q10, .int 0, .ref q13, .int 0, .ref q16, .ref q19, .ref q22, .null, .null, .null, .null, .null, .null, .null, .null, .null, .null, .long 0, .int 0])) ef24 (hm_ne o_q13_f23 o1_f23 (by simp))).trans o_q13_f23
  have o_q16_f24 := (hm_up (v := some (ob 4 [.int 0, .int 0, .ref q1, .ref q4, .ref q7, .ref q10, .int 0, .ref q13, .int 0, .ref q16, .ref q19, .ref q22, .null, .null, .null, .null, .null, .null, .null, .null, .null, .null, .long 0, .int 0])) ef24 (hm_ne o_q16_f23 o1_f23 (by simp))).trans o_q16_f23
  have o_q19_f24 := (hm_up (v := some (ob 4 [.int 0, .int 0, .ref q1, .ref q4, .ref q7, .ref q10, .int 0, .ref q13, .int 0, .ref q16, .ref q19, .ref q22, .null, .null, .null, .null, .null, .null, .null, .null, .null, .null, .long 0, .int 0])) ef24 (hm_ne o_q19_f23 o1_f23 (by simp))).trans o_q19_f23
  have o_q22_f24 := (hm_up (v := some (ob 4 [.int 0, .int 0, .ref q1, .ref q4, .ref q7, .ref q10, .int 0, .ref q13, .int 0, .ref q16, .ref q19, .ref q22, .null, .null, .null, .null, .null, .null, .null, .null, .null, .null, .long 0, .int 0])) ef24 (hm_ne o_q22_f23 o1_f23 (by simp))).trans o_q22_f23
  refine lv_aload_n hx hb d_M_init_71 rfl (lv_at hl 0 rfl) ?_
  refine lv_sipush (v := 320) hx hb d_M_init_72 (by decide) ?_
  refine g_newL C wd_57 hP hS hA0 320 (by decide) (by decide) (by decide) (Nat.le_of_ble_eq_true rfl) (Nat.le_of_ble_eq_true rfl) d_M_init_75 (fun q25 H hnq25 hP hS => ?_)
  obtain ⟨f26, ef26⟩ : ∃ z99, z99 = va_up f24 q25 (some (aL G 320 (fun _ => 0))) := ⟨_, rfl⟩
  replace hP : hH G (hA f s.heap.size) f26 H := by rw [ef26]; exact hP
  have o1_f26 := (hm_up (v := some (aL G 320 (fun _ => 0))) ef26 (hm_nn o1_f24 hnq25)).trans o1_f24
  have o_q1_f26 := (hm_up (v := some (aL G 320 (fun _ => 0))) ef26 (hm_nn o_q1_f24 hnq25)).trans o_q1_f24
  have o_q4_f26 := (hm_up (v := some (aL G 320 (fun _ => 0))) ef26 (hm_nn o_q4_f24 hnq25)).trans o_q4_f24
  have o_q7_f26 := (hm_up (v := some (aL G 320 (fun _ => 0))) ef26 (hm_nn o_q7_f24 hnq25)).trans o_q7_f24
  have o_q10_f26 := (hm_up (v := some (aL G 320 (fun _ => 0))) ef26 (hm_nn o_q10_f24 hnq25)).trans o_q10_f24
  have o_q13_f26 := (hm_up (v := some (aL G 320 (fun _ => 0))) ef26 (hm_nn o_q13_f24 hnq25)).trans o_q13_f24
  have o_q16_f26 := (hm_up (v := some (aL G 320 (fun _ => 0))) ef26 (hm_nn o_q16_f24 hnq25)).trans o_q16_f24
  have o_q19_f26 := (hm_up (v := some (aL G 320 (fun _ => 0))) ef26 (hm_nn o_q19_f24 hnq25)).trans o_q19_f24
  have o_q22_f26 := (hm_up (v := some (aL G 320 (fun _ => 0))) ef26 (hm_nn o_q22_f24 hnq25)).trans o_q22_f24
  have o_q25_f26 : f26 q25 = some (aL G 320 (fun _ => 0)) := by rw [ef26]; exact va_up_self _ _ _
  refine g_putF C i_M t_M t_M_ok n_M hP hS o1_f26 rfl 12 (by decide) wd_518 rfl rfl hin rfl rfl (rfl) (Nat.le_of_ble_eq_true rfl) d_M_init_77 (fun H locs hP hS => ?_)
  obtain ⟨f27, ef27⟩ : ∃ z99, z99 = va_up f26 y (some (ob 4 [.int 0, .int 0, .ref q1, .ref q4, .ref q7, .ref q10, .int 0, .ref q13, .int 0, .ref q16, .ref q19, .ref q22, .ref q25, .null, .null, .null, .null, .null, .null, .null, .null, .null, .long 0, .int 0])) := ⟨_, rfl⟩
  replace hP : hH G (hA f s.heap.size) f27 H := by rw [ef27]; exact hP
  have o1_f27 : f27 y = some (ob 4 [.int 0, .int 0, .ref q1, .ref q4, .ref q7, .ref q10, .int 0, .ref q13, .int 0, .ref q16, .ref q19, .ref q22, .ref q25, .null, .null, .null, .null, .null, .null, .null, .null, .null, .long 0, .int 0]) := by rw [ef27]; exact va_up_self _ _ _
  have o_q1_f27 := (hm_up (v := some (ob 4 [.int 0, .int 0, .ref q1, .ref q4, .ref q7, .ref q10, .int 0, .ref q13, .int 0, .ref q16, .ref q19, .ref q22, .ref q25, .null, .null, .null, .null, .null, .null, .null, .null, .null, .long 0, .int 0])) ef27 (hm_ne o_q1_f26 o1_f26 (by simp))).trans o_q1_f26
  have o_q4_f27 := (hm_up (v := some (ob 4 [.int 0, .int 0, .ref q1, .ref q4, .ref q7, .ref q10, .int 0, .ref q13, .int 0, .ref q16, .ref q19, .ref q22, .ref q25, .null, .null, .null, .null, .null, .null, .null, .null, .null, .long 0, .int 0])) ef27 (hm_ne o_q4_f26 o1_f26 (by simp))).trans o_q4_f26
  have o_q7_f27 := (hm_up (v := some (ob 4 [.int 0, .int 0, .ref q1, .ref q4, .ref q7, .ref q10, .int 0, .ref q13, .int 0, .ref q16, .ref q19, .ref q22, .ref q25, .null, .null, .null, .null, .null, .null, .null, .null, .null, .long 0, .int 0])) ef27 (hm_ne o_q7_f26 o1_f26 (by simp))).trans o_q7_f26
  have o_q10_f27 := (hm_up (v := some (ob 4 [.int 0, .int 0, .ref q1, .ref q4, .ref q7, .ref q10, .int 0, .ref q13, .int 0, .ref q16, .ref q19, .ref q22, .ref q25, .null, .null, .null, .null, .null, .null, .null, .null, .null, .long 0, .int 0])) ef27 (hm_ne o_q10_f26 o1_f26 (by simp))).trans o_q10_f26
  have o_q13_f27 := (hm_up (v := some (ob 4 [.int 0, .int 0, .ref q1, .ref q4, .ref q7, .ref q10, .int 0, .ref q13, .int 0, .ref q16, .ref q19, .ref q22, .ref q25, .null, .null, .null, .null, .null, .null, .null, .null, .null, .long 0, .int 0])) ef27 (hm_ne o_q13_f26 o1_f26 (by simp))).trans o_q13_f26
  have o_q16_f27 := (hm_up (v := some (ob 4 [.int 0, .int 0, .ref q1, .ref q4, .ref q7, .ref q10, .int 0, .ref q13, .int 0, .ref q16, .ref q19, .ref q22, .ref q25, .null, .null, .null, .null, .null, .null, .null, .null, .null, .long 0, .int 0])) ef27 (hm_ne o_q16_f26 o1_f26 (by simp))).trans o_q16_f26
  have o_q19_f27 := (hm_up (v := some (ob 4 [.int 0, .int 0, .ref q1, .ref q4, .ref q7, .ref q10, .int 0, .ref q13, .int 0, .ref q16, .ref q19, .ref q22, .ref q25, .null, .null, .null, .null, .null, .null, .null, .null, .null, .long 0, .int 0])) ef27 (hm_ne o_q19_f26 o1_f26 (by simp))).trans o_q19_f26
  have o_q22_f27 := (hm_up (v := some (ob 4 [.int 0, .int 0, .ref q1, .ref q4, .ref q7, .ref q10, .int 0, .ref q13, .int 0, .ref q16, .ref q19, .ref q22, .ref q25, .null, .null, .null, .null, .null, .null, .null, .null, .null, .long 0, .int 0])) ef27 (hm_ne o_q22_f26 o1_f26 (by simp))).trans o_q22_f26
  have o_q25_f27 := (hm_up (v := some (ob 4 [.int 0, .int 0, .ref q1, .ref q4, .ref q7, .ref q10, .int 0, .ref q13, .int 0, .ref q16, .ref q19, .ref q22, .ref q25, .null, .null, .null, .null, .null, .null, .null, .null, .null, .long 0, .int 0])) ef27 (hm_ne o_q25_f26 o1_f26 (by simp))).trans o_q25_f26
  refine lv_aload_n hx hb d_M_init_80 rfl (lv_at hl 0 rfl) ?_
  refine lv_sipush (v := 320) hx hb d_M_init_81 (by decide) ?_
  refine g_newI C wd_56 hP hS hA0 320 (by decide) (by decide) (by decide) (Nat.le_of_ble_eq_true rfl) (Nat.le_of_ble_eq_true rfl) d_M_init_84 (fun q28 H hnq28 hP hS => ?_)
  obtain ⟨f29, ef29⟩ : ∃ z99, z99 = va_up f27 q28 (some (aI G 320 (fun _ => 0))) := ⟨_, rfl⟩
  replace hP : hH G (hA f s.heap.size) f29 H := by rw [ef29]; exact hP
  have o1_f29 := (hm_up (v := some (aI G 320 (fun _ => 0))) ef29 (hm_nn o1_f27 hnq28)).trans o1_f27
  have o_q1_f29 := (hm_up (v := some (aI G 320 (fun _ => 0))) ef29 (hm_nn o_q1_f27 hnq28)).trans o_q1_f27
  have o_q4_f29 := (hm_up (v := some (aI G 320 (fun _ => 0))) ef29 (hm_nn o_q4_f27 hnq28)).trans o_q4_f27
  have o_q7_f29 := (hm_up (v := some (aI G 320 (fun _ => 0))) ef29 (hm_nn o_q7_f27 hnq28)).trans o_q7_f27
  have o_q10_f29 := (hm_up (v := some (aI G 320 (fun _ => 0))) ef29 (hm_nn o_q10_f27 hnq28)).trans o_q10_f27
  have o_q13_f29 := (hm_up (v := some (aI G 320 (fun _ => 0))) ef29 (hm_nn o_q13_f27 hnq28)).trans o_q13_f27
  have o_q16_f29 := (hm_up (v := some (aI G 320 (fun _ => 0))) ef29 (hm_nn o_q16_f27 hnq28)).trans o_q16_f27
  have o_q19_f29 := (hm_up (v := some (aI G 320 (fun _ => 0))) ef29 (hm_nn o_q19_f27 hnq28)).trans o_q19_f27
  have o_q22_f29 := (hm_up (v := some (aI G 320 (fun _ => 0))) ef29 (hm_nn o_q22_f27 hnq28)).trans o_q22_f27
  have o_q25_f29 := (hm_up (v := some (aI G 320 (fun _ => 0))) ef29 (hm_nn o_q25_f27 hnq28)).trans o_q25_f27
  have o_q28_f29 : f29 q28 = some (aI G 320 (fun _ => 0)) := by rw [ef29]; exact va_up_self _ _ _
  refine g_putF C i_M t_M t_M_ok n_M hP hS o1_f29 rfl 13 (by decide) wd_519 rfl rfl hin rfl rfl (rfl) (Nat.le_of_ble_eq_true rfl) d_M_init_86 (fun H locs hP hS => ?_)
  obtain ⟨f30, ef30⟩ : ∃ z99, z99 = va_up f29 y (some (ob 4 [.int 0, .int 0, .ref q1, .ref q4, .ref q7, .ref q10, .int 0, .ref q13, .int 0, .ref q16, .ref q19, .ref q22, .ref q25, .ref q28, .null, .null, .null, .null, .null, .null, .null, .null, .long 0, .int 0])) := ⟨_, rfl⟩
  replace hP : hH G (hA f s.heap.size) f30 H := by rw [ef30]; exact hP
  have o1_f30 : f30 y = some (ob 4 [.int 0, .int 0, .ref q1, .ref q4, .ref q7, .ref q10, .int 0, .ref q13, .int 0, .ref q16, .ref q19, .ref q22, .ref q25, .ref q28, .null, .null, .null, .null, .null, .null, .null, .null, .long 0, .int 0]) := by rw [ef30]; exact va_up_self _ _ _
  have o_q1_f30 := (hm_up (v := some (ob 4 [.int 0, .int 0, .ref q1, .ref q4, .ref q7, .ref q10, .int 0, .ref q13, .int 0, .ref q16, .ref q19, .ref q22, .ref q25, .ref q28, .null, .null, .null, .null, .null, .null, .null, .null, .long 0, .int 0])) ef30 (hm_ne o_q1_f29 o1_f29 (by simp))).trans o_q1_f29
  have o_q4_f30 := (hm_up (v := some (ob 4 [.int 0, .int 0, .ref q1, .ref q4, .ref q7, .ref q10, .int 0, .ref q13, .int 0, .ref q16, .ref q19, .ref q22, .ref q25, .ref q28, .null, .null, .null, .null, .null, .null, .null, .null, .long 0, .int 0])) ef30 (hm_ne o_q4_f29 o1_f29 (by simp))).trans o_q4_f29
  have o_q7_f30 := (hm_up (v := some (ob 4 [.int 0, .int 0, .ref q1, .ref q4, .ref q7, .ref q10, .int 0, .ref q13, .int 0, .ref q16, .ref q19, .ref q22, .ref q25, .ref q28, .null, .null, .null, .null, .null, .null, .null, .null, .long 0, .int 0])) ef30 (hm_ne o_q7_f29 o1_f29 (by simp))).trans o_q7_f29
  have o_q10_f30 := (hm_up (v := some (ob 4 [.int 0, .int 0, .ref q1, .ref q4, .ref q7, .ref q10, .int 0, .ref q13, .int 0, .ref q16, .ref q19, .ref q22, .ref q25, .ref q28, .null, .null, .null, .null, .null, .null, .null, .null, .long 0, .int 0])) ef30 (hm_ne o_q10_f29 o1_f29 (by simp))).trans o_q10_f29
  have o_q13_f30 := (hm_up (v := some (ob 4 [.int 0, .int 0, .ref q1, .ref q4, .ref q7, .ref q10, .int 0, .ref q13, .int 0, .ref q16, .ref q19, .ref q22, .ref q25, .ref q28, .null, .null, .null, .null, .null, .null, .null, .null, .long 0, .int 0])) ef30 (hm_ne o_q13_f29 o1_f29 (by simp))).trans o_q13_f29
  have o_q16_f30 := (hm_up (v := some (ob 4 [.int 0, .int 0, .ref q1, .ref q4, .ref q7, .ref q10, .int 0, .ref q13, .int 0, .ref q16, .ref q19, .ref q22, .ref q25, .ref q28, .null, .null, .null, .null, .null, .null, .null, .null, .long 0, .int 0])) ef30 (hm_ne o_q16_f29 o1_f29 (by simp))).trans o_q16_f29
  have o_q19_f30 := (hm_up (v := some (ob 4 [.int 0, .int 0, .ref q1, .ref q4, .ref q7, .ref q10, .int 0, .ref q13, .int 0, .ref q16, .ref q19, .ref q22, .ref q25, .ref q28, .null, .null, .null, .null, .null, .null, .null, .null, .long 0, .int 0])) ef30 (hm_ne o_q19_f29 o1_f29 (by simp))).trans o_q19_f29
  have o_q22_f30 := (hm_up (v := some (ob 4 [.int 0, .int 0, .ref q1, .ref q4, .ref q7, .ref q10, .int 0, .ref q13, .int 0, .ref q16, .ref q19, .ref q22, .ref q25, .ref q28, .null, .null, .null, .null, .null, .null, .null, .null, .long 0, .int 0])) ef30 (hm_ne o_q22_f29 o1_f29 (by simp))).trans o_q22_f29
  have o_q25_f30 := (hm_up (v := some (ob 4 [.int 0, .int 0, .ref q1, .ref q4, .ref q7, .ref q10, .int 0, .ref q13, .int 0, .ref q16, .ref q19, .ref q22, .ref q25, .ref q28, .null, .null, .null, .null, .null, .null, .null, .null, .long 0, .int 0])) ef30 (hm_ne o_q25_f29 o1_f29 (by simp))).trans o_q25_f29
  have o_q28_f30 := (hm_up (v := some (ob 4 [.int 0, .int 0, .ref q1, .ref q4, .ref q7, .ref q10, .int 0, .ref q13, .int 0, .ref q16, .ref q19, .ref q22, .ref q25, .ref q28, .null, .null, .null, .null, .null, .null, .null, .null, .long 0, .int 0])) ef30 (hm_ne o_q28_f29 o1_f29 (by simp))).trans o_q28_f29
  refine lv_aload_n hx hb d_M_init_89 rfl (lv_at hl 0 rfl) ?_
  refine lv_iconst (v := 4) hx hb d_M_init_90 (by decide) ?_
  refine g_newL C wd_57 hP hS hA0 4 (by decide) (by decide) (by decide) (Nat.le_of_ble_eq_true rfl) (Nat.le_of_ble_eq_true rfl) d_M_init_91 (fun q31 H hnq31 hP hS => ?_)
  obtain ⟨f32, ef32⟩ : ∃ z99, z99 = va_up f30 q31 (some (aL G 4 (fun _ => 0))) := ⟨_, rfl⟩
  replace hP : hH G (hA f s.heap.size) f32 H := by rw [ef32]; exact hP
  have o1_f32 := (hm_up (v := some (aL G 4 (fun _ => 0))) ef32 (hm_nn o1_f30 hnq31)).trans o1_f30
  have o_q1_f32 := (hm_up (v := some (aL G 4 (fun _ => 0))) ef32 (hm_nn o_q1_f30 hnq31)).trans o_q1_f30
  have o_q4_f32 := (hm_up (v := some (aL G 4 (fun _ => 0))) ef32 (hm_nn o_q4_f30 hnq31)).trans o_q4_f30
  have o_q7_f32 := (hm_up (v := some (aL G 4 (fun _ => 0))) ef32 (hm_nn o_q7_f30 hnq31)).trans o_q7_f30
  have o_q10_f32 := (hm_up (v := some (aL G 4 (fun _ => 0))) ef32 (hm_nn o_q10_f30 hnq31)).trans o_q10_f30
  have o_q13_f32 := (hm_up (v := some (aL G 4 (fun _ => 0))) ef32 (hm_nn o_q13_f30 hnq31)).trans o_q13_f30
  have o_q16_f32 := (hm_up (v := some (aL G 4 (fun _ => 0))) ef32 (hm_nn o_q16_f30 hnq31)).trans o_q16_f30
  have o_q19_f32 := (hm_up (v := some (aL G 4 (fun _ => 0))) ef32 (hm_nn o_q19_f30 hnq31)).trans o_q19_f30
  have o_q22_f32 := (hm_up (v := some (aL G 4 (fun _ => 0))) ef32 (hm_nn o_q22_f30 hnq31)).trans o_q22_f30
  have o_q25_f32 := (hm_up (v := some (aL G 4 (fun _ => 0))) ef32 (hm_nn o_q25_f30 hnq31)).trans o_q25_f30
  have o_q28_f32 := (hm_up (v := some (aL G 4 (fun _ => 0))) ef32 (hm_nn o_q28_f30 hnq31)).trans o_q28_f30
  have o_q31_f32 : f32 q31 = some (aL G 4 (fun _ => 0)) := by rw [ef32]; exact va_up_self _ _ _
  refine g_putF C i_M t_M t_M_ok n_M hP hS o1_f32 rfl 14 (by decide) wd_520 rfl rfl hin rfl rfl (rfl) (Nat.le_of_ble_eq_true rfl) d_M_init_93 (fun H locs hP hS => ?_)
  obtain ⟨f33, ef33⟩ : ∃ z99, z99 = va_up f32 y (some (ob 4 [.int 0, .int 0, .ref q1, .ref q4, .ref q7, .ref q10, .int 0, .ref q13, .int 0, .ref q16, .ref q19, .ref q22, .ref q25, .ref q28, .ref q31, .null, .null, .null, .null, .null, .null, .null, .long 0, .int 0])) := ⟨_, rfl⟩
  replace hP : hH G (hA f s.heap.size) f33 H := by rw [ef33]; exact hP
  have o1_f33 : f33 y = some (ob 4 [.int 0, .int 0, .ref q1, .ref q4, .ref q7, .ref q10, .int 0, .ref q13, .int 0, .ref q16, .ref q19, .ref q22, .ref q25, .ref q28, .ref q31, .null, .null, .null, .null, .null, .null, .null, .long 0, .int 0]) := by rw [ef33]; exact va_up_self _ _ _
  have o_q1_f33 := (hm_up (v := some (ob 4 [.int 0, .int 0, .ref q1, .ref q4, .ref q7, .ref q10, .int 0, .ref q13, .int 0, .ref q16, .ref q19, .ref q22, .ref q25, .ref q28, .ref q31, .null, .null, .null, .null, .null, .null, .null, .long 0, .int 0])) ef33 (hm_ne o_q1_f32 o1_f32 (by simp))).trans o_q1_f32
  have o_q4_f33 := (hm_up (v := some (ob 4 [.int 0, .int 0, .ref q1, .ref q4, .ref q7, .ref q10, .int 0, .ref q13, .int 0, .ref q16, .ref q19, .ref q22, .ref q25, .ref q28, .ref q31, .null, .null, .null, .null, .null, .null, .null, .long 0, .int 0])) ef33 (hm_ne o_q4_f32 o1_f32 (by simp))).trans o_q4_f32
  have o_q7_f33 := (hm_up (v := some (ob 4 [.int 0, .int 0, .ref q1, .ref q4, .ref q7, .ref q10, .int 0, .ref q13, .int 0, .ref q16, .ref q19, .ref q22, .ref q25, .ref q28, .ref q31, .null, .null, .null, .null, .null, .null, .null, .long 0, .int 0])) ef33 (hm_ne o_q7_f32 o1_f32 (by simp))).trans o_q7_f32
  have o_q10_f33 := (hm_up (v := some (ob 4 [.int 0, .int 0, .ref q1, .ref q4, .ref q7, .ref q10, .int 0, .ref q13, .int 0, .ref q16, .ref q19, .ref q22, .ref q25, .ref q28, .ref q31, .null, .null, .null, .null, .null, .null, .null, .long 0, .int 0])) ef33 (hm_ne o_q10_f32 o1_f32 (by simp))).trans o_q10_f32
  have o_q13_f33 := (hm_up (v := some (ob 4 [.int 0, .int 0, .ref q1, .ref q4, .ref q7, .ref q10, .int 0, .ref q13, .int 0, .ref q16, .ref q19, .ref q22, .ref q25, .ref q28, .ref q31, .null, .null, .null, .null, .null, .null, .null, .long 0, .int 0])) ef33 (hm_ne o_q13_f32 o1_f32 (by simp))).trans o_q13_f32
  have o_q16_f33 := (hm_up (v := some (ob 4 [.int 0, .int 0, .ref q1, .ref q4, .ref q7, .ref q10, .int 0, .ref q13, .int 0, .ref q16, .ref q19, .ref q22, .ref q25, .ref q28, .ref q31, .null, .null, .null, .null, .null, .null, .null, .long 0, .int 0])) ef33 (hm_ne o_q16_f32 o1_f32 (by simp))).trans o_q16_f32
  have o_q19_f33 := (hm_up (v := some (ob 4 [.int 0, .int 0, .ref q1, .ref q4, .ref q7, .ref q10, .int 0, .ref q13, .int 0, .ref q16, .ref q19, .ref q22, .ref q25, .ref q28, .ref q31, .null, .null, .null, .null, .null, .null, .null, .long 0, .int 0])) ef33 (hm_ne o_q19_f32 o1_f32 (by simp))).trans o_q19_f32
  have o_q22_f33 := (hm_up (v := some (ob 4 [.int 0, .int 0, .ref q1, .ref q4, .ref q7, .ref q10, .int 0, .ref q13, .int 0, .ref q16, .ref q19, .ref q22, .ref q25, .ref q28, .ref q31, .null, .null, .null, .null, .null, .null, .null, .long 0, .int 0])) ef33 (hm_ne o_q22_f32 o1_f32 (by simp))).trans o_q22_f32
  have o_q25_f33 := (hm_up (v := some (ob 4 [.int 0, .int 0, .ref q1, .ref q4, .ref q7, .ref q10, .int 0, .ref q13, .int 0, .ref q16, .ref q19, .ref q22, .ref q25, .ref q28, .ref q31, .null, .null, .null, .null, .null, .null, .null, .long 0, .int 0])) ef33 (hm_ne o_q25_f32 o1_f32 (by simp))).trans o_q25_f32
  have o_q28_f33 := (hm_up (v := some (ob 4 [.int 0, .int 0, .ref q1, .ref q4, .ref q7, .ref q10, .int 0, .ref q13, .int 0, .ref q16, .ref q19, .ref q22, .ref q25, .ref q28, .ref q31, .null, .null, .null, .null, .null, .null, .null, .long 0, .int 0])) ef33 (hm_ne o_q28_f32 o1_f32 (by simp))).trans o_q28_f32
  have o_q31_f33 := (hm_up (v := some (ob 4 [.int 0, .int 0, .ref q1, .ref q4, .ref q7, .ref q10, .int 0, .ref q13, .int 0, .ref q16, .ref q19, .ref q22, .ref q25, .ref q28, .ref q31, .null, .null, .null, .null, .null, .null, .null, .long 0, .int 0])) ef33 (hm_ne o_q31_f32 o1_f32 (by simp))).trans o_q31_f32
  refine lv_aload_n hx hb d_M_init_96 rfl (lv_at hl 0 rfl) ?_
  refine lv_bipush (v := 40) hx hb d_M_init_97 (by decide) ?_
  refine g_newI C wd_56 hP hS hA0 40 (by decide) (by decide) (by decide) (Nat.le_of_ble_eq_true rfl) (Nat.le_of_ble_eq_true rfl) d_M_init_99 (fun q34 H hnq34 hP hS => ?_)
  obtain ⟨f35, ef35⟩ : ∃ z99, z99 = va_up f33 q34 (some (aI G 40 (fun _ => 0))) := ⟨_, rfl⟩
  replace hP : hH G (hA f s.heap.size) f35 H := by rw [ef35]; exact hP
  have o1_f35 := (hm_up (v := some (aI G 40 (fun _ => 0))) ef35 (hm_nn o1_f33 hnq34)).trans o1_f33
  have o_q1_f35 := (hm_up (v := some (aI G 40 (fun _ => 0))) ef35 (hm_nn o_q1_f33 hnq34)).trans o_q1_f33
  have o_q4_f35 := (hm_up (v := some (aI G 40 (fun _ => 0))) ef35 (hm_nn o_q4_f33 hnq34)).trans o_q4_f33
  have o_q7_f35 := (hm_up (v := some (aI G 40 (fun _ => 0))) ef35 (hm_nn o_q7_f33 hnq34)).trans o_q7_f33
  have o_q10_f35 := (hm_up (v := some (aI G 40 (fun _ => 0))) ef35 (hm_nn o_q10_f33 hnq34)).trans o_q10_f33
  have o_q13_f35 := (hm_up (v := some (aI G 40 (fun _ => 0))) ef35 (hm_nn o_q13_f33 hnq34)).trans o_q13_f33
  have o_q16_f35 := (hm_up (v := some (aI G 40 (fun _ => 0))) ef35 (hm_nn o_q16_f33 hnq34)).trans o_q16_f33
  have o_q19_f35 := (hm_up (v := some (aI G 40 (fun _ => 0))) ef35 (hm_nn o_q19_f33 hnq34)).trans o_q19_f33
  have o_q22_f35 := (hm_up (v := some (aI G 40 (fun _ => 0))) ef35 (hm_nn o_q22_f33 hnq34)).trans o_q22_f33
  have o_q25_f35 := (hm_up (v := some (aI G 40 (fun _ => 0))) ef35 (hm_nn o_q25_f33 hnq34)).trans o_q25_f33
  have o_q28_f35 := (hm_up (v := some (aI G 40 (fun _ => 0))) ef35 (hm_nn o_q28_f33 hnq34)).trans o_q28_f33
  have o_q31_f35 := (hm_up (v := some (aI G 40 (fun _ => 0))) ef35 (hm_nn o_q31_f33 hnq34)).trans o_q31_f33
  have o_q34_f35 : f35 q34 = some (aI G 40 (fun _ => 0)) := by rw [ef35]; exact va_up_self _ _ _
  refine g_putF C i_M t_M t_M_ok n_M hP hS o1_f35 rfl 15 (by decide) wd_521 rfl rfl hin rfl rfl (rfl) (Nat.le_of_ble_eq_true rfl) d_M_init_101 (fun H locs hP hS => ?_)
  obtain ⟨f36, ef36⟩ : ∃ z99, z99 = va_up f35 y (some (ob 4 [.int 0, .int 0, .ref q1, .ref q4, .ref q7, .ref q10, .int 0, .ref q13, .int 0, .ref q16, .ref q19, .ref q22, .ref q25, .ref q28, .ref q31, .ref q34, .null, .null, .null, .null, .null, .null, .long 0, .int 0])) := ⟨_, rfl⟩
  replace hP : hH G (hA f s.heap.size) f36 H := by rw [ef36]; exact hP
  have o1_f36 : f36 y = some (ob 4 [.int 0, .int 0, .ref q1, .ref q4, .ref q7, .ref q10, .int 0, .ref q13, .int 0, .ref q16, .ref q19, .ref q22, .ref q25, .ref q28, .ref q31, .ref q34, .null, .null, .null, .null, .null, .null, .long 0, .int 0]) := by rw [ef36]; exact va_up_self _ _ _
  have o_q1_f36 := (hm_up (v := some (ob 4 [.int 0, .int 0, .ref q1, .ref q4, .ref q7, .ref q10, .int 0, .ref q13, .int 0, .ref q16, .ref q19, .ref q22, .ref q25, .ref q28, .ref q31, .ref q34, .null, .null, .null, .null, .null, .null, .long 0, .int 0])) ef36 (hm_ne o_q1_f35 o1_f35 (by simp))).trans o_q1_f35
  have o_q4_f36 := (hm_up (v := some (ob 4 [.int 0, .int 0, .ref q1, .ref q4, .ref q7, .ref q10, .int 0, .ref q13, .int 0, .ref q16, .ref q19, .ref q22, .ref q25, .ref q28, .ref q31, .ref q34, .null, .null, .null, .null, .null, .null, .long 0, .int 0])) ef36 (hm_ne o_q4_f35 o1_f35 (by simp))).trans o_q4_f35
  have o_q7_f36 := (hm_up (v := some (ob 4 [.int 0, .int 0, .ref q1, .ref q4, .ref q7, .ref q10, .int 0, .ref q13, .int 0, .ref q16, .ref q19, .ref q22, .ref q25, .ref q28, .ref q31, .ref q34, .null, .null, .null, .null, .null, .null, .long 0, .int 0])) ef36 (hm_ne o_q7_f35 o1_f35 (by simp))).trans o_q7_f35
  have o_q10_f36 := (hm_up (v := some (ob 4 [.int 0, .int 0, .ref q1, .ref q4, .ref q7, .ref q10, .int 0, .ref q13, .int 0, .ref q16, .ref q19, .ref q22, .ref q25, .ref q28, .ref q31, .ref q34, .null, .null, .null, .null, .null, .null, .long 0, .int 0])) ef36 (hm_ne o_q10_f35 o1_f35 (by simp))).trans o_q10_f35
  have o_q13_f36 := (hm_up (v := some (ob 4 [.int 0, .int 0, .ref q1, .ref q4, .ref q7, .ref q10, .int 0, .ref q13, .int 0, .ref q16, .ref q19, .ref q22, .ref q25, .ref q28, .ref q31, .ref q34, .null, .null, .null, .null, .null, .null, .long 0, .int 0])) ef36 (hm_ne o_q13_f35 o1_f35 (by simp))).trans o_q13_f35
  have o_q16_f36 := (hm_up (v := some (ob 4 [.int 0, .int 0, .ref q1, .ref q4, .ref q7, .ref q10, .int 0, .ref q13, .int 0, .ref q16, .ref q19, .ref q22, .ref q25, .ref q28, .ref q31, .ref q34, .null, .null, .null, .null, .null, .null, .long 0, .int 0])) ef36 (hm_ne o_q16_f35 o1_f35 (by simp))).trans o_q16_f35
  have o_q19_f36 := (hm_up (v := some (ob 4 [.int 0, .int 0, .ref q1, .ref q4, .ref q7, .ref q10, .int 0, .ref q13, .int 0, .ref q16, .ref q19, .ref q22, .ref q25, .ref q28, .ref q31, .ref q34, .null, .null, .null, .null, .null, .null, .long 0, .int 0])) ef36 (hm_ne o_q19_f35 o1_f35 (by simp))).trans o_q19_f35
  have o_q22_f36 := (hm_up (v := some (ob 4 [.int 0, .int 0, .ref q1, .ref q4, .ref q7, .ref q10, .int 0, .ref q13, .int 0, .ref q16, .ref q19, .ref q22, .ref q25, .ref q28, .ref q31, .ref q34, .null, .null, .null, .null, .null, .null, .long 0, .int 0])) ef36 (hm_ne o_q22_f35 o1_f35 (by simp))).trans o_q22_f35
  have o_q25_f36 := (hm_up (v := some (ob 4 [.int 0, .int 0, .ref q1, .ref q4, .ref q7, .ref q10, .int 0, .ref q13, .int 0, .ref q16, .ref q19, .ref q22, .ref q25, .ref q28, .ref q31, .ref q34, .null, .null, .null, .null, .null, .null, .long 0, .int 0])) ef36 (hm_ne o_q25_f35 o1_f35 (by simp))).trans o_q25_f35
  have o_q28_f36 := (hm_up (v := some (ob 4 [.int 0, .int 0, .ref q1, .ref q4, .ref q7, .ref q10, .int 0, .ref q13, .int 0, .ref q16, .ref q19, .ref q22, .ref q25, .ref q28, .ref q31, .ref q34, .null, .null, .null, .null, .null, .null, .long 0, .int 0])) ef36 (hm_ne o_q28_f35 o1_f35 (by simp))).trans o_q28_f35
  have o_q31_f36 := (hm_up (v := some (ob 4 [.int 0, .int 0, .ref q1, .ref q4, .ref q7, .ref q10, .int 0, .ref q13, .int 0, .ref q16, .ref q19, .ref q22, .ref q25, .ref q28, .ref q31, .ref q34, .null, .null, .null, .null, .null, .null, .long 0, .int 0])) ef36 (hm_ne o_q31_f35 o1_f35 (by simp))).trans o_q31_f35
  have o_q34_f36 := (hm_up (v := some (ob 4 [.int 0, .int 0, .ref q1, .ref q4, .ref q7, .ref q10, .int 0, .ref q13, .int 0, .ref q16, .ref q19, .ref q22, .ref q25, .ref q28, .ref q31, .ref q34, .null, .null, .null, .null, .null, .null, .long 0, .int 0])) ef36 (hm_ne o_q34_f35 o1_f35 (by simp))).trans o_q34_f35
  refine lv_aload_n hx hb d_M_init_104 rfl (lv_at hl 0 rfl) ?_
  refine lv_sipush (v := 240) hx hb d_M_init_105 (by decide) ?_
  refine g_newI C wd_56 hP hS hA0 240 (by decide) (by decide) (by decide) (Nat.le_of_ble_eq_true rfl) (Nat.le_of_ble_eq_true rfl) d_M_init_108 (fun q37 H hnq37 hP hS => ?_)
  obtain ⟨f38, ef38⟩ : ∃ z99, z99 = va_up f36 q37 (some (aI G 240 (fun _ => 0))) := ⟨_, rfl⟩
  replace hP : hH G (hA f s.heap.size) f38 H := by rw [ef38]; exact hP
  have o1_f38 := (hm_up (v := some (aI G 240 (fun _ => 0))) ef38 (hm_nn o1_f36 hnq37)).trans o1_f36
  have o_q1_f38 := (hm_up (v := some (aI G 240 (fun _ => 0))) ef38 (hm_nn o_q1_f36 hnq37)).trans o_q1_f36
  have o_q4_f38 := (hm_up (v := some (aI G 240 (fun _ => 0))) ef38 (hm_nn o_q4_f36 hnq37)).trans o_q4_f36
  have o_q7_f38 := (hm_up (v := some (aI G 240 (fun _ => 0))) ef38 (hm_nn o_q7_f36 hnq37)).trans o_q7_f36
  have o_q10_f38 := (hm_up (v := some (aI G 240 (fun _ => 0))) ef38 (hm_nn o_q10_f36 hnq37)).trans o_q10_f36
  have o_q13_f38 := (hm_up (v := some (aI G 240 (fun _ => 0))) ef38 (hm_nn o_q13_f36 hnq37)).trans o_q13_f36
  have o_q16_f38 := (hm_up (v := some (aI G 240 (fun _ => 0))) ef38 (hm_nn o_q16_f36 hnq37)).trans o_q16_f36
  have o_q19_f38 := (hm_up (v := some (aI G 240 (fun _ => 0))) ef38 (hm_nn o_q19_f36 hnq37)).trans o_q19_f36
  have o_q22_f38 := (hm_up (v := some (aI G 240 (fun _ => 0))) ef38 (hm_nn o_q22_f36 hnq37)).trans o_q22_f36
  have o_q25_f38 := (hm_up (v := some (aI G 240 (fun _ => 0))) ef38 (hm_nn o_q25_f36 hnq37)).trans o_q25_f36
  have o_q28_f38 := (hm_up (v := some (aI G 240 (fun _ => 0))) ef38 (hm_nn o_q28_f36 hnq37)).trans o_q28_f36
  have o_q31_f38 := (hm_up (v := some (aI G 240 (fun _ => 0))) ef38 (hm_nn o_q31_f36 hnq37)).trans o_q31_f36
  have o_q34_f38 := (hm_up (v := some (aI G 240 (fun _ => 0))) ef38 (hm_nn o_q34_f36 hnq37)).trans o_q34_f36
  have o_q37_f38 : f38 q37 = some (aI G 240 (fun _ => 0)) := by rw [ef38]; exact va_up_self _ _ _
  refine g_putF C i_M t_M t_M_ok n_M hP hS o1_f38 rfl 16 (by decide) wd_522 rfl rfl hin rfl rfl (rfl) (Nat.le_of_ble_eq_true rfl) d_M_init_110 (fun H locs hP hS => ?_)
  obtain ⟨f39, ef39⟩ : ∃ z99, z99 = va_up f38 y (some (ob 4 [.int 0, .int 0, .ref q1, .ref q4, .ref q7, .ref q10, .int 0, .ref q13, .int 0, .ref q16, .ref q19, .ref q22, .ref q25, .ref q28, .ref q31, .ref q34, .ref q37, .null, .null, .null, .null, .null, .long 0, .int 0])) := ⟨_, rfl⟩
  replace hP : hH G (hA f s.heap.size) f39 H := by rw [ef39]; exact hP
  have o1_f39 : f39 y = some (ob 4 [.int 0, .int 0, .ref q1, .ref q4, .ref q7, .ref q10, .int 0, .ref q13, .int 0, .ref q16, .ref q19, .ref q22, .ref q25, .ref q28, .ref q31, .ref q34, .ref q37, .null, .null, .null, .null, .null, .long 0, .int 0]) := by rw [ef39]; exact va_up_self _ _ _
  have o_q1_f39 := (hm_up (v := some (ob 4 [.int 0, .int 0, .ref q1, .ref q4, .ref q7, .ref q10, .int 0, .ref q13, .int 0, .ref q16, .ref q19, .ref q22, .ref q25, .ref q28, .ref q31, .ref q34, .ref q37, .null, .null, .null, .null, .null, .long 0, .int 0])) ef39 (hm_ne o_q1_f38 o1_f38 (by simp))).trans o_q1_f38
  have o_q4_f39 := (hm_up (v := some (ob 4 [.int 0, .int 0, .ref q1, .ref q4, .ref q7, .ref q10, .int 0, .ref q13, .int 0, .ref q16, .ref q19, .ref q22, .ref q25, .ref q28, .ref q31, .ref q34, .ref q37, .null, .null, .null, .null, .null, .long 0, .int 0])) ef39 (hm_ne o_q4_f38 o1_f38 (by simp))).trans o_q4_f38
  have o_q7_f39 := (hm_up (v := some (ob 4 [.int 0, .int 0, .ref q1, .ref q4, .ref q7, .ref q10, .int 0, .ref q13, .int 0, .ref q16, .ref q19, .ref q22, .ref q25, .ref q28, .ref q31, .ref q34, .ref q37, .null, .null, .null, .null, .null, .long 0, .int 0])) ef39 (hm_ne o_q7_f38 o1_f38 (by simp))).trans o_q7_f38
  have o_q10_f39 := (hm_up (v := some (ob 4 [.int 0, .int 0, .ref q1, .ref q4, .ref q7, .ref q10, .int 0, .ref q13, .int 0, .ref q16, .ref q19, .ref q22, .ref q25, .ref q28, .ref q31, .ref q34, .ref q37, .null, .null, .null, .null, .null, .long 0, .int 0])) ef39 (hm_ne o_q10_f38 o1_f38 (by simp))).trans o_q10_f38
  have o_q13_f39 := (hm_up (v := some (ob 4 [.int 0, .int 0, .ref q1, .ref q4, .ref q7, .ref q10, .int 0, .ref q13, .int 0, .ref q16, .ref q19, .ref q22, .ref q25, .ref q28, .ref q31, .ref q34, .ref q37, .null, .null, .null, .null, .null, .long 0, .int 0])) ef39 (hm_ne o_q13_f38 o1_f38 (by simp))).trans o_q13_f38
  have o_q16_f39 := (hm_up (v := some (ob 4 [.int 0, .int 0, .ref q1, .ref q4, .ref q7, .ref q10, .int 0, .ref q13, .int 0, .ref q16, .ref q19, .ref q22, .ref q25, .ref q28, .ref q31, .ref q34, .ref q37, .null, .null, .null, .null, .null, .long 0, .int 0])) ef39 (hm_ne o_q16_f38 o1_f38 (by simp))).trans o_q16_f38
  have o_q19_f39 := (hm_up (v := some (ob 4 [.int 0, .int 0, .ref q1, .ref q4, .ref q7, .ref q10, .int 0, .ref q13, .int 0, .ref q16, .ref q19, .ref q22, .ref q25, .ref q28, .ref q31, .ref q34, .ref q37, .null, .null, .null, .null, .null, .long 0, .int 0])) ef39 (hm_ne o_q19_f38 o1_f38 (by simp))).trans o_q19_f38
  have o_q22_f39 := (hm_up (v := some (ob 4 [.int 0, .int 0, .ref q1, .ref q4, .ref q7, .ref q10, .int 0, .ref q13, .int 0, .ref q16, .ref q19, .ref q22, .ref q25, .ref q28, .ref q31, .ref q34, .ref q37, .null, .null, .null, .null, .null, .long 0, .int 0])) ef39 (hm_ne o_q22_f38 o1_f38 (by simp))).trans o_q22_f38
  have o_q25_f39 := (hm_up (v := some (ob 4 [.int 0, .int 0, .ref q1, .ref q4, .ref q7, .ref q10, .int 0, .ref q13, .int 0, .ref q16, .ref q19, .ref q22, .ref q25, .ref q28, .ref q31, .ref q34, .ref q37, .null, .null, .null, .null, .null, .long 0, .int 0])) ef39 (hm_ne o_q25_f38 o1_f38 (by simp))).trans o_q25_f38
  have o_q28_f39 := (hm_up (v := some (ob 4 [.int 0, .int 0, .ref q1, .ref q4, .ref q7, .ref q10, .int 0, .ref q13, .int 0, .ref q16, .ref q19, .ref q22, .ref q25, .ref q28, .ref q31, .ref q34, .ref q37, .null, .null, .null, .null, .null, .long 0, .int 0])) ef39 (hm_ne o_q28_f38 o1_f38 (by simp))).trans o_q28_f38
  have o_q31_f39 := (hm_up (v := some (ob 4 [.int 0, .int 0, .ref q1, .ref q4, .ref q7, .ref q10, .int 0, .ref q13, .int 0, .ref q16, .ref q19, .ref q22, .ref q25, .ref q28, .ref q31, .ref q34, .ref q37, .null, .null, .null, .null, .null, .long 0, .int 0])) ef39 (hm_ne o_q31_f38 o1_f38 (by simp))).trans o_q31_f38
  have o_q34_f39 := (hm_up (v := some (ob 4 [.int 0, .int 0, .ref q1, .ref q4, .ref q7, .ref q10, .int 0, .ref q13, .int 0, .ref q16, .ref q19, .ref q22, .ref q25, .ref q28, .ref q31, .ref q34, .ref q37, .null, .null, .null, .null, .null, .long 0, .int 0])) ef39 (hm_ne o_q34_f38 o1_f38 (by simp))).trans o_q34_f38
  have o_q37_f39 := (hm_up (v := some (ob 4 [.int 0, .int 0, .ref q1, .ref q4, .ref q7, .ref q10, .int 0, .ref q13, .int 0, .ref q16, .ref q19, .ref q22, .ref q25, .ref q28, .ref q31, .ref q34, .ref q37, .null, .null, .null, .null, .null, .long 0, .int 0])) ef39 (hm_ne o_q37_f38 o1_f38 (by simp))).trans o_q37_f38
  refine lv_aload_n hx hb d_M_init_113 rfl (lv_at hl 0 rfl) ?_
  refine lv_bipush (v := 40) hx hb d_M_init_114 (by decide) ?_
  refine g_newI C wd_56 hP hS hA0 40 (by decide) (by decide) (by decide) (Nat.le_of_ble_eq_true rfl) (Nat.le_of_ble_eq_true rfl) d_M_init_116 (fun q40 H hnq40 hP hS => ?_)
  obtain ⟨f41, ef41⟩ : ∃ z99, z99 = va_up f39 q40 (some (aI G 40 (fun _ => 0))) := ⟨_, rfl⟩
  replace hP : hH G (hA f s.heap.size) f41 H := by rw [ef41]; exact hP
  have o1_f41 := (hm_up (v := some (aI G 40 (fun _ => 0))) ef41 (hm_nn o1_f39 hnq40)).trans o1_f39
  have o_q1_f41 := (hm_up (v := some (aI G 40 (fun _ => 0))) ef41 (hm_nn o_q1_f39 hnq40)).trans o_q1_f39
  have o_q4_f41 := (hm_up (v := some (aI G 40 (fun _ => 0))) ef41 (hm_nn o_q4_f39 hnq40)).trans o_q4_f39
  have o_q7_f41 := (hm_up (v := some (aI G 40 (fun _ => 0))) ef41 (hm_nn o_q7_f39 hnq40)).trans o_q7_f39
  have o_q10_f41 := (hm_up (v := some (aI G 40 (fun _ => 0))) ef41 (hm_nn o_q10_f39 hnq40)).trans o_q10_f39
  have o_q13_f41 := (hm_up (v := some (aI G 40 (fun _ => 0))) ef41 (hm_nn o_q13_f39 hnq40)).trans o_q13_f39
  have o_q16_f41 := (hm_up (v := some (aI G 40 (fun _ => 0))) ef41 (hm_nn o_q16_f39 hnq40)).trans o_q16_f39
  have o_q19_f41 := (hm_up (v := some (aI G 40 (fun _ => 0))) ef41 (hm_nn o_q19_f39 hnq40)).trans o_q19_f39
  have o_q22_f41 := (hm_up (v := some (aI G 40 (fun _ => 0))) ef41 (hm_nn o_q22_f39 hnq40)).trans o_q22_f39
  have o_q25_f41 := (hm_up (v := some (aI G 40 (fun _ => 0))) ef41 (hm_nn o_q25_f39 hnq40)).trans o_q25_f39
  have o_q28_f41 := (hm_up (v := some (aI G 40 (fun _ => 0))) ef41 (hm_nn o_q28_f39 hnq40)).trans o_q28_f39
  have o_q31_f41 := (hm_up (v := some (aI G 40 (fun _ => 0))) ef41 (hm_nn o_q31_f39 hnq40)).trans o_q31_f39
  have o_q34_f41 := (hm_up (v := some (aI G 40 (fun _ => 0))) ef41 (hm_nn o_q34_f39 hnq40)).trans o_q34_f39
  have o_q37_f41 := (hm_up (v := some (aI G 40 (fun _ => 0))) ef41 (hm_nn o_q37_f39 hnq40)).trans o_q37_f39
  have o_q40_f41 : f41 q40 = some (aI G 40 (fun _ => 0)) := by rw [ef41]; exact va_up_self _ _ _
  refine g_putF C i_M t_M t_M_ok n_M hP hS o1_f41 rfl 17 (by decide) wd_523 rfl rfl hin rfl rfl (rfl) (Nat.le_of_ble_eq_true rfl) d_M_init_118 (fun H locs hP hS => ?_)
  obtain ⟨f42, ef42⟩ : ∃ z99, z99 = va_up f41 y (some (ob 4 [.int 0, .int 0, .ref q1, .ref q4, .ref q7, .ref q10, .int 0, .ref q13, .int 0, .ref q16, .ref q19, .ref q22, .ref q25, .ref q28, .ref q31, .ref q34, .ref q37, .ref q40, .null, .null, .null, .null, .long 0, .int 0])) := ⟨_, rfl⟩
  replace hP : hH G (hA f s.heap.size) f42 H := by rw [ef42]; exact hP
  have o1_f42 : f42 y = some (ob 4 [.int 0, .int 0, .ref q1, .ref q4, .ref q7, .ref q10, .int 0, .ref q13, .int 0, .ref q16, .ref q19, .ref q22, .ref q25, .ref q28, .ref q31, .ref q34, .ref q37, .ref q40, .null, .null, .null, .null, .long 0, .int 0]) := by rw [ef42]; exact va_up_self _ _ _
  have o_q1_f42 := (hm_up (v := some (ob 4 [.int 0, .int 0, .ref q1, .ref q4, .ref q7, .ref q10, .int 0, .ref q13, .int 0, .ref q16, .ref q19, .ref q22, .ref q25, .ref q28, .ref q31, .ref q34, .ref q37, .ref q40, .null, .null, .null, .null, .long 0, .int 0])) ef42 (hm_ne o_q1_f41 o1_f41 (by simp))).trans o_q1_f41
  have o_q4_f42 := (hm_up (v := some (ob 4 [.int 0, .int 0, .ref q1, .ref q4, .ref q7, .ref q10, .int 0, .ref q13, .int 0, .ref q16, .ref q19, .ref q22, .ref q25, .ref q28, .ref q31, .ref q34, .ref q37, .ref q40, .null, .null, .null, .null, .long 0, .int 0])) ef42 (hm_ne o_q4_f41 o1_f41 (by simp))).trans o_q4_f41
  have o_q7_f42 := (hm_up (v := some (ob 4 [.int 0, .int 0, .ref q1, .ref q4, .ref q7, .ref q10, .int 0, .ref q13, .int 0, .ref q16, .ref q19, .ref q22, .ref q25, .ref q28, .ref q31, .ref q34, .ref q37, .ref q40, .null, .null, .null, .null, .long 0, .int 0])) ef42 (hm_ne o_q7_f41 o1_f41 (by simp))).trans o_q7_f41
  have o_q10_f42 := (hm_up (v := some (ob 4 [.int 0, .int 0, .ref q1, .ref q4, .ref q7, .ref q10, .int 0, .ref q13, .int 0, .ref q16, .ref q19, .ref q22, .ref q25, .ref q28, .ref q31, .ref q34, .ref q37, .ref q40, .null, .null, .null, .null, .long 0, .int 0])) ef42 (hm_ne o_q10_f41 o1_f41 (by simp))).trans o_q10_f41
  have o_q13_f42 := (hm_up (v := some (ob 4 [.int 0, .int 0, .ref q1, .ref q4, .ref q7, .ref q10, .int 0, .ref q13, .int 0, .ref q16, .ref q19, .ref q22, .ref q25, .ref q28, .ref q31, .ref q34, .ref q37, .ref q40, .null, .null, .null, .null, .long 0, .int 0])) ef42 (hm_ne o_q13_f41 o1_f41 (by simp))).trans o_q13_f41
  have o_q16_f42 := (hm_up (v := some (ob 4 [.int 0, .int 0, .ref q1, .ref q4, .ref q7, .ref q10, .int 0, .ref q13, .int 0, .ref q16, .ref q19, .ref q22, .ref q25, .ref q28, .ref q31, .ref q34, .ref q37, .ref q40, .null, .null, .null, .null, .long 0, .int 0])) ef42 (hm_ne o_q16_f41 o1_f41 (by simp))).trans o_q16_f41
  have o_q19_f42 := (hm_up (v := some (ob 4 [.int 0, .int 0, .ref q1, .ref q4, .ref q7, .ref q10, .int 0, .ref q13, .int 0, .ref q16, .ref q19, .ref q22, .ref q25, .ref q28, .ref q31, .ref q34, .ref q37, .ref q40, .null, .null, .null, .null, .long 0, .int 0])) ef42 (hm_ne o_q19_f41 o1_f41 (by simp))).trans o_q19_f41
  have o_q22_f42 := (hm_up (v := some (ob 4 [.int 0, .int 0, .ref q1, .ref q4, .ref q7, .ref q10, .int 0, .ref q13, .int 0, .ref q16, .ref q19, .ref q22, .ref q25, .ref q28, .ref q31, .ref q34, .ref q37, .ref q40, .null, .null, .null, .null, .long 0, .int 0])) ef42 (hm_ne o_q22_f41 o1_f41 (by simp))).trans o_q22_f41
  have o_q25_f42 := (hm_up (v := some (ob 4 [.int 0, .int 0, .ref q1, .ref q4, .ref q7, .ref q10, .int 0, .ref q13, .int 0, .ref q16, .ref q19, .ref q22, .ref q25, .ref q28, .ref q31, .ref q34, .ref q37, .ref q40, .null, .null, .null, .null, .long 0, .int 0])) ef42 (hm_ne o_q25_f41 o1_f41 (by simp))).trans o_q25_f41
  have o_q28_f42 := (hm_up (v := some (ob 4 [.int 0, .int 0, .ref q1, .ref q4, .ref q7, .ref q10, .int 0, .ref q13, .int 0, .ref q16, .ref q19, .ref q22, .ref q25, .ref q28, .ref q31, .ref q34, .ref q37, .ref q40, .null, .null, .null, .null, .long 0, .int 0])) ef42 (hm_ne o_q28_f41 o1_f41 (by simp))).trans o_q28_f41
  have o_q31_f42 := (hm_up (v := some (ob 4 [.int 0, .int 0, .ref q1, .ref q4, .ref q7, .ref q10, .int 0, .ref q13, .int 0, .ref q16, .ref q19, .ref q22, .ref q25, .ref q28, .ref q31, .ref q34, .ref q37, .ref q40, .null, .null, .null, .null, .long 0, .int 0])) ef42 (hm_ne o_q31_f41 o1_f41 (by simp))).trans o_q31_f41
  have o_q34_f42 := (hm_up (v := some (ob 4 [.int 0, .int 0, .ref q1, .ref q4, .ref q7, .ref q10, .int 0, .ref q13, .int 0, .ref q16, .ref q19, .ref q22, .ref q25, .ref q28, .ref q31, .ref q34, .ref q37, .ref q40, .null, .null, .null, .null, .long 0, .int 0])) ef42 (hm_ne o_q34_f41 o1_f41 (by simp))).trans o_q34_f41
  have o_q37_f42 := (hm_up (v := some (ob 4 [.int 0, .int 0, .ref q1, .ref q4, .ref q7, .ref q10, .int 0, .ref q13, .int 0, .ref q16, .ref q19, .ref q22, .ref q25, .ref q28, .ref q31, .ref q34, .ref q37, .ref q40, .null, .null, .null, .null, .long 0, .int 0])) ef42 (hm_ne o_q37_f41 o1_f41 (by simp))).trans o_q37_f41
  have o_q40_f42 := (hm_up (v := some (ob 4 [.int 0, .int 0, .ref q1, .ref q4, .ref q7, .ref q10, .int 0, .ref q13, .int 0, .ref q16, .ref q19, .ref q22, .ref q25, .ref q28, .ref q31, .ref q34, .ref q37, .ref q40, .null, .null, .null, .null, .long 0, .int 0])) ef42 (hm_ne o_q40_f41 o1_f41 (by simp))).trans o_q40_f41
  refine lv_aload_n hx hb d_M_init_121 rfl (lv_at hl 0 rfl) ?_
  refine lv_bipush (v := 40) hx hb d_M_init_122 (by decide) ?_
  refine g_newI C wd_56 hP hS hA0 40 (by decide) (by decide) (by decide) (Nat.le_of_ble_eq_true rfl) (Nat.le_of_ble_eq_true rfl) d_M_init_124 (fun q43 H hnq43 hP hS => ?_)
  obtain ⟨f44, ef44⟩ : ∃ z99, z99 = va_up f42 q43 (some (aI G 40 (fun _ => 0))) := ⟨_, rfl⟩
  replace hP : hH G (hA f s.heap.size) f44 H := by rw [ef44]; exact hP
  have o1_f44 := (hm_up (v := some (aI G 40 (fun _ => 0))) ef44 (hm_nn o1_f42 hnq43)).trans o1_f42
  have o_q1_f44 := (hm_up (v := some (aI G 40 (fun _ => 0))) ef44 (hm_nn o_q1_f42 hnq43)).trans o_q1_f42
  have o_q4_f44 := (hm_up (v := some (aI G 40 (fun _ => 0))) ef44 (hm_nn o_q4_f42 hnq43)).trans o_q4_f42
  have o_q7_f44 := (hm_up (v := some (aI G 40 (fun _ => 0))) ef44 (hm_nn o_q7_f42 hnq43)).trans o_q7_f42
  have o_q10_f44 := (hm_up (v := some (aI G 40 (fun _ => 0))) ef44 (hm_nn o_q10_f42 hnq43)).trans o_q10_f42
  have o_q13_f44 := (hm_up (v := some (aI G 40 (fun _ => 0))) ef44 (hm_nn o_q13_f42 hnq43)).trans o_q13_f42
  have o_q16_f44 := (hm_up (v := some (aI G 40 (fun _ => 0))) ef44 (hm_nn o_q16_f42 hnq43)).trans o_q16_f42
  have o_q19_f44 := (hm_up (v := some (aI G 40 (fun _ => 0))) ef44 (hm_nn o_q19_f42 hnq43)).trans o_q19_f42
  have o_q22_f44 := (hm_up (v := some (aI G 40 (fun _ => 0))) ef44 (hm_nn o_q22_f42 hnq43)).trans o_q22_f42
  have o_q25_f44 := (hm_up (v := some (aI G 40 (fun _ => 0))) ef44 (hm_nn o_q25_f42 hnq43)).trans o_q25_f42
  have o_q28_f44 := (hm_up (v := some (aI G 40 (fun _ => 0))) ef44 (hm_nn o_q28_f42 hnq43)).trans o_q28_f42
  have o_q31_f44 := (hm_up (v := some (aI G 40 (fun _ => 0))) ef44 (hm_nn o_q31_f42 hnq43)).trans o_q31_f42
  have o_q34_f44 := (hm_up (v := some (aI G 40 (fun _ => 0))) ef44 (hm_nn o_q34_f42 hnq43)).trans o_q34_f42
  have o_q37_f44 := (hm_up (v := some (aI G 40 (fun _ => 0))) ef44 (hm_nn o_q37_f42 hnq43)).trans o_q37_f42
  have o_q40_f44 := (hm_up (v := some (aI G 40 (fun _ => 0))) ef44 (hm_nn o_q40_f42 hnq43)).trans o_q40_f42
  have o_q43_f44 : f44 q43 = some (aI G 40 (fun _ => 0)) := by rw [ef44]; exact va_up_self _ _ _
  refine g_putF C i_M t_M t_M_ok n_M hP hS o1_f44 rfl 18 (by decide) wd_524 rfl rfl hin rfl rfl (rfl) (Nat.le_of_ble_eq_true rfl) d_M_init_126 (fun H locs hP hS => ?_)
  obtain ⟨f45, ef45⟩ : ∃ z99, z99 = va_up f44 y (some (ob 4 [.int 0, .int 0, .ref q1, .ref q4, .ref q7, .ref q10, .int 0, .ref q13, .int 0, .ref q16, .ref q19, .ref q22, .ref q25, .ref q28, .ref q31, .ref q34, .ref q37, .ref q40, .ref q43, .null, .null, .null, .long 0, .int 0])) := ⟨_, rfl⟩
  replace hP : hH G (hA f s.heap.size) f45 H := by rw [ef45]; exact hP
  have o1_f45 : f45 y = some (ob 4 [.int 0, .int 0, .ref q1, .ref q4, .ref q7, .ref q10, .int 0, .ref q13, .int 0, .ref q16, .ref q19, .ref q22, .ref q25, .ref q28, .ref q31, .ref q34, .ref q37, .ref q40, .ref q43, .null, .null, .null, .long 0, .int 0]) := by rw [ef45]; exact va_up_self _ _ _
  have o_q1_f45 := (hm_up (v := some (ob 4 [.int 0, .int 0, .ref q1, .ref q4, .ref q7, .ref q10, .int 0, .ref q13, .int 0, .ref q16, .ref q19, .ref q22, .ref q25, .ref q28, .ref q31, .ref q34, .ref q37, .ref q40, .ref q43, .null, .null, .null, .long 0, .int 0])) ef45 (hm_ne o_q1_f44 o1_f44 (by simp))).trans o_q1_f44
  have o_q4_f45 := (hm_up (v := some (ob 4 [.int 0, .int 0, .ref q1, .ref q4, .ref q7, .ref q10, .int 0, .ref q13, .int 0, .ref q16, .ref q19, .ref q22, .ref q25, .ref q28, .ref q31, .ref q34, .ref q37, .ref q40, .ref q43, .null, .null, .null, .long 0, .int 0])) ef45 (hm_ne o_q4_f44 o1_f44 (by simp))).trans o_q4_f44
  have o_q7_f45 := (hm_up (v := some (ob 4 [.int 0, .int 0, .ref q1, .ref q4, .ref q7, .ref q10, .int 0, .ref q13, .int 0, .ref q16, .ref q19, .ref q22, .ref q25, .ref q28, .ref q31, .ref q34, .ref q37, .ref q40, .ref q43, .null, .null, .null, .long 0, .int 0])) ef45 (hm_ne o_q7_f44 o1_f44 (by simp))).trans o_q7_f44
  have o_q10_f45 := (hm_up (v := some (ob 4 [.int 0, .int 0, .ref q1, .ref q4, .ref q7, .ref q10, .int 0, .ref q13, .int 0, .ref q16, .ref q19, .ref q22, .ref q25, .ref q28, .ref q31, .ref q34, .ref q37, .ref q40, .ref q43, .null, .null, .null, .long 0, .int 0])) ef45 (hm_ne o_q10_f44 o1_f44 (by simp))).trans o_q10_f44
  have o_q13_f45 := (hm_up (v := some (ob 4 [.int 0, .int 0, .ref q1, .ref q4, .ref q7, .ref q10, .int 0, .ref q13, .int 0, .ref q16, .ref q19, .ref q22, .ref q25, .ref q28, .ref q31, .ref q34, .ref q37, .ref q40, .ref q43, .null, .null, .null, .long 0, .int 0])) ef45 (hm_ne o_q13_f44 o1_f44 (by simp))).trans o_q13_f44
  have o_q16_f45 := (hm_up (v := some (ob 4 [.int 0, .int 0, .ref q1, .ref q4, .ref q7, .ref q10, .int 0, .ref q13, .int 0, .ref q16, .ref q19, .ref q22, .ref q25, .ref q28, .ref q31, .ref q34, .ref q37, .ref q40, .ref q43, .null, .null, .null, .long 0, .int 0])) ef45 (hm_ne o_q16_f44 o1_f44 (by simp))).trans o_q16_f44
  have o_q19_f45 := (hm_up (v := some (ob 4 [.int 0, .int 0, .ref q1, .ref q4, .ref q7, .ref q10, .int 0, .ref q13, .int 0, .ref q16, .ref q19, .ref q22, .ref q25, .ref q28, .ref q31, .ref q34, .ref q37, .ref q40, .ref q43, .null, .null, .null, .long 0, .int 0])) ef45 (hm_ne o_q19_f44 o1_f44 (by simp))).trans o_q19_f44
  have o_q22_f45 := (hm_up (v := some (ob 4 [.int 0, .int 0, .ref q1, .ref q4, .ref q7, .ref q10, .int 0, .ref q13, .int 0, .ref q16, .ref q19, .ref q22, .ref q25, .ref q28, .ref q31, .ref q34, .ref q37, .ref q40, .ref q43, .null, .null, .null, .long 0, .int 0])) ef45 (hm_ne o_q22_f44 o1_f44 (by simp))).trans o_q22_f44
  have o_q25_f45 := (hm_up (v := some (ob 4 [.int 0, .int 0, .ref q1, .ref q4, .ref q7, .ref q10, .int 0, .ref q13, .int 0, .ref q16, .ref q19, .ref q22, .ref q25, .ref q28, .ref q31, .ref q34, .ref q37, .ref q40, .ref q43, .null, .null, .null, .long 0, .int 0])) ef45 (hm_ne o_q25_f44 o1_f44 (by simp))).trans o_q25_f44
  have o_q28_f45 := (hm_up (v := some (ob 4 [.int 0, .int 0, .ref q1, .ref q4, .ref q7, .ref q10, .int 0, .ref q13, .int 0, .ref q16, .ref q19, .ref q22, .ref q25, .ref q28, .ref q31, .ref q34, .ref q37, .ref q40, .ref q43, .null, .null, .null, .long 0, .int 0])) ef45 (hm_ne o_q28_f44 o1_f44 (by simp))).trans o_q28_f44
  have o_q31_f45 := (hm_up (v := some (ob 4 [.int 0, .int 0, .ref q1, .ref q4, .ref q7, .ref q10, .int 0, .ref q13, .int 0, .ref q16, .ref q19, .ref q22, .ref q25, .ref q28, .ref q31, .ref q34, .ref q37, .ref q40, .ref q43, .null, .null, .null, .long 0, .int 0])) ef45 (hm_ne o_q31_f44 o1_f44 (by simp))).trans o_q31_f44
  have o_q34_f45 := (hm_up (v := some (ob 4 [.int 0, .int 0, .ref q1, .ref q4, .ref q7, .ref q10, .int 0, .ref q13, .int 0, .ref q16, .ref q19, .ref q22, .ref q25, .ref q28, .ref q31, .ref q34, .ref q37, .ref q40, .ref q43, .null, .null, .null, .long 0, .int 0])) ef45 (hm_ne o_q34_f44 o1_f44 (by simp))).trans o_q34_f44
  have o_q37_f45 := (hm_up (v := some (ob 4 [.int 0, .int 0, .ref q1, .ref q4, .ref q7, .ref q10, .int 0, .ref q13, .int 0, .ref q16, .ref q19, .ref q22, .ref q25, .ref q28, .ref q31, .ref q34, .ref q37, .ref q40, .ref q43, .null, .null, .null, .long 0, .int 0])) ef45 (hm_ne o_q37_f44 o1_f44 (by simp))).trans o_q37_f44
  have o_q40_f45 := (hm_up (v := some (ob 4 [.int 0, .int 0, .ref q1, .ref q4, .ref q7, .ref q10, .int 0, .ref q13, .int 0, .ref q16, .ref q19, .ref q22, .ref q25, .ref q28, .ref q31, .ref q34, .ref q37, .ref q40, .ref q43, .null, .null, .null, .long 0, .int 0])) ef45 (hm_ne o_q40_f44 o1_f44 (by simp))).trans o_q40_f44
  have o_q43_f45 := (hm_up (v := some (ob 4 [.int 0, .int 0, .ref q1, .ref q4, .ref q7, .ref q10, .int 0, .ref q13, .int 0, .ref q16, .ref q19, .ref q22, .ref q25, .ref q28, .ref q31, .ref q34, .ref q37, .ref q40, .ref q43, .null, .null, .null, .long 0, .int 0])) ef45 (hm_ne o_q43_f44 o1_f44 (by simp))).trans o_q43_f44
  refine lv_aload_n hx hb d_M_init_129 rfl (lv_at hl 0 rfl) ?_
  refine lv_sipush (v := 320) hx hb d_M_init_130 (by decide) ?_
  refine g_newL C wd_57 hP hS hA0 320 (by decide) (by decide) (by decide) (Nat.le_of_ble_eq_true rfl) (Nat.le_of_ble_eq_true rfl) d_M_init_133 (fun q46 H hnq46 hP hS => ?_)
  obtain ⟨f47, ef47⟩ : ∃ z99, z99 = va_up f45 q46 (some (aL G 320 (fun _ => 0))) := ⟨_, rfl⟩
  replace hP : hH G (hA f s.heap.size) f47 H := by rw [ef47]; exact hP
  have o1_f47 := (hm_up (v := some (aL G 320 (fun _ => 0))) ef47 (hm_nn o1_f45 hnq46)).trans o1_f45
  have o_q1_f47 := (hm_up (v := some (aL G 320 (fun _ => 0))) ef47 (hm_nn o_q1_f45 hnq46)).trans o_q1_f45
  have o_q4_f47 := (hm_up (v := some (aL G 320 (fun _ => 0))) ef47 (hm_nn o_q4_f45 hnq46)).trans o_q4_f45
  have o_q7_f47 := (hm_up (v := some (aL G 320 (fun _ => 0))) ef47 (hm_nn o_q7_f45 hnq46)).trans o_q7_f45
  have o_q10_f47 := (hm_up (v := some (aL G 320 (fun _ => 0))) ef47 (hm_nn o_q10_f45 hnq46)).trans o_q10_f45
  have o_q13_f47 := (hm_up (v := some (aL G 320 (fun _ => 0))) ef47 (hm_nn o_q13_f45 hnq46)).trans o_q13_f45
  have o_q16_f47 := (hm_up (v := some (aL G 320 (fun _ => 0))) ef47 (hm_nn o_q16_f45 hnq46)).trans o_q16_f45
  have o_q19_f47 := (hm_up (v := some (aL G 320 (fun _ => 0))) ef47 (hm_nn o_q19_f45 hnq46)).trans o_q19_f45
  have o_q22_f47 := (hm_up (v := some (aL G 320 (fun _ => 0))) ef47 (hm_nn o_q22_f45 hnq46)).trans o_q22_f45
  have o_q25_f47 := (hm_up (v := some (aL G 320 (fun _ => 0))) ef47 (hm_nn o_q25_f45 hnq46)).trans o_q25_f45
  have o_q28_f47 := (hm_up (v := some (aL G 320 (fun _ => 0))) ef47 (hm_nn o_q28_f45 hnq46)).trans o_q28_f45
  have o_q31_f47 := (hm_up (v := some (aL G 320 (fun _ => 0))) ef47 (hm_nn o_q31_f45 hnq46)).trans o_q31_f45
  have o_q34_f47 := (hm_up (v := some (aL G 320 (fun _ => 0))) ef47 (hm_nn o_q34_f45 hnq46)).trans o_q34_f45
  have o_q37_f47 := (hm_up (v := some (aL G 320 (fun _ => 0))) ef47 (hm_nn o_q37_f45 hnq46)).trans o_q37_f45
  have o_q40_f47 := (hm_up (v := some (aL G 320 (fun _ => 0))) ef47 (hm_nn o_q40_f45 hnq46)).trans o_q40_f45
  have o_q43_f47 := (hm_up (v := some (aL G 320 (fun _ => 0))) ef47 (hm_nn o_q43_f45 hnq46)).trans o_q43_f45
  have o_q46_f47 : f47 q46 = some (aL G 320 (fun _ => 0)) := by rw [ef47]; exact va_up_self _ _ _
  refine g_putF C i_M t_M t_M_ok n_M hP hS o1_f47 rfl 19 (by decide) wd_525 rfl rfl hin rfl rfl (rfl) (Nat.le_of_ble_eq_true rfl) d_M_init_135 (fun H locs hP hS => ?_)
  obtain ⟨f48, ef48⟩ : ∃ z99, z99 = va_up f47 y (some (ob 4 [.int 0, .int 0, .ref q1, .ref q4, .ref q7, .ref q10, .int 0, .ref q13, .int 0, .ref q16, .ref q19, .ref q22, .ref q25, .ref q28, .ref q31, .ref q34, .ref q37, .ref q40, .ref q43, .ref q46, .null, .null, .long 0, .int 0])) := ⟨_, rfl⟩
  replace hP : hH G (hA f s.heap.size) f48 H := by rw [ef48]; exact hP
  have o1_f48 : f48 y = some (ob 4 [.int 0, .int 0, .ref q1, .ref q4, .ref q7, .ref q10, .int 0, .ref q13, .int 0, .ref q16, .ref q19, .ref q22, .ref q25, .ref q28, .ref q31, .ref q34, .ref q37, .ref q40, .ref q43, .ref q46, .null, .null, .long 0, .int 0]) := by rw [ef48]; exact va_up_self _ _ _
  have o_q1_f48 := (hm_up (v := some (ob 4 [.int 0, .int 0, .ref q1, .ref q4, .ref q7, .ref q10, .int 0, .ref q13, .int 0, .ref q16, .ref q19, .ref q22, .ref q25, .ref q28, .ref q31, .ref q34, .ref q37, .ref q40, .ref q43, .ref q46, .null, .null, .long 0, .int 0])) ef48 (hm_ne o_q1_f47 o1_f47 (by simp))).trans o_q1_f47
  have o_q4_f48 := (hm_up (v := some (ob 4 [.int 0, .int 0, .ref q1, .ref q4, .ref q7, .ref q10, .int 0, .ref q13, .int 0, .ref q16, .ref q19, .ref q22, .ref q25, .ref q28, .ref q31, .ref q34, .ref q37, .ref q40, .ref q43, .ref q46, .null, .null, .long 0, .int 0])) ef48 (hm_ne o_q4_f47 o1_f47 (by simp))).trans o_q4_f47
  have o_q7_f48 := (hm_up (v := some (ob 4 [.int 0, .int 0, .ref q1, .ref q4, .ref q7, .ref q10, .int 0, .ref q13, .int 0, .ref q16, .ref q19, .ref q22, .ref q25, .ref q28, .ref q31, .ref q34, .ref q37, .ref q40, .ref q43, .ref q46, .null, .null, .long 0, .int 0])) ef48 (hm_ne o_q7_f47 o1_f47 (by simp))).trans o_q7_f47
  have o_q10_f48 := (hm_up (v := some (ob 4 [.int 0, .int 0, .ref q1, .ref q4, .ref q7, .ref q10, .int 0, .ref q13, .int 0, .ref q16, .ref q19, .ref q22, .ref q25, .ref q28, .ref q31, .ref q34, .ref q37, .ref q40, .ref q43, .ref q46, .null, .null, .long 0, .int 0])) ef48 (hm_ne o_q10_f47 o1_f47 (by simp))).trans o_q10_f47
  have o_q13_f48 := (hm_up (v := some (ob 4 [.int 0, .int 0, .ref q1, .ref q4, .ref q7, .ref q10, .int 0, .ref q13, .int 0, .ref q16, .ref q19, .ref q22, .ref q25, .ref q28, .ref q31, .ref q34, .ref q37, .ref q40, .ref q43, .ref q46, .null, .null, .long 0, .int 0])) ef48 (hm_ne o_q13_f47 o1_f47 (by simp))).trans o_q13_f47
  have o_q16_f48 := (hm_up (v := some (ob 4 [.int 0, .int 0, .ref q1, .ref q4, .ref q7, .ref q10, .int 0, .ref q13, .int 0, .ref q16, .ref q19, .ref q22, .ref q25, .ref q28, .ref q31, .ref q34, .ref q37, .ref q40, .ref q43, .ref q46, .null, .null, .long 0, .int 0])) ef48 (hm_ne o_q16_f47 o1_f47 (by simp))).trans o_q16_f47
  have o_q19_f48 := (hm_up (v := some (ob 4 [.int 0, .int 0, .ref q1, .ref q4, .ref q7, .ref q10, .int 0, .ref q13, .int 0, .ref q16, .ref q19, .ref q22, .ref q25, .ref q28, .ref q31, .ref q34, .ref q37, .ref q40, .ref q43, .ref q46, .null, .null, .long 0, .int 0])) ef48 (hm_ne o_q19_f47 o1_f47 (by simp))).trans o_q19_f47
  have o_q22_f48 := (hm_up (v := some (ob 4 [.int 0, .int 0, .ref q1, .ref q4, .ref q7, .ref q10, .int 0, .ref q13, .int 0, .ref q16, .ref q19, .ref q22, .ref q25, .ref q28, .ref q31, .ref q34, .ref q37, .ref q40, .ref q43, .ref q46, .null, .null, .long 0, .int 0])) ef48 (hm_ne o_q22_f47 o1_f47 (by simp))).trans o_q22_f47
  have o_q25_f48 := (hm_up (v := some (ob 4 [.int 0, .int 0, .ref q1, .ref q4, .ref q7, .ref q10, .int 0, .ref q13, .int 0, .ref q16, .ref q19, .ref q22, .ref q25, .ref q28, .ref q31, .ref q34, .ref q37, .ref q40, .ref q43, .ref q46, .null, .null, .long 0, .int 0])) ef48 (hm_ne o_q25_f47 o1_f47 (by simp))).trans o_q25_f47
  have o_q28_f48 := (hm_up (v := some (ob 4 [.int 0, .int 0, .ref q1, .ref q4, .ref q7, .ref q10, .int 0, .ref q13, .int 0, .ref q16, .ref q19, .ref q22, .ref q25, .ref q28, .ref q31, .ref q34, .ref q37, .ref q40, .ref q43, .ref q46, .null, .null, .long 0, .int 0])) ef48 (hm_ne o_q28_f47 o1_f47 (by simp))).trans o_q28_f47
  have o_q31_f48 := (hm_up (v := some (ob 4 [.int 0, .int 0, .ref q1, .ref q4, .ref q7, .ref q10, .int 0, .ref q13, .int 0, .ref q16, .ref q19, .ref q22, .ref q25, .ref q28, .ref q31, .ref q34, .ref q37, .ref q40, .ref q43, .ref q46, .null, .null, .long 0, .int 0])) ef48 (hm_ne o_q31_f47 o1_f47 (by simp))).trans o_q31_f47
  have o_q34_f48 := (hm_up (v := some (ob 4 [.int 0, .int 0, .ref q1, .ref q4, .ref q7, .ref q10, .int 0, .ref q13, .int 0, .ref q16, .ref q19, .ref q22, .ref q25, .ref q28, .ref q31, .ref q34, .ref q37, .ref q40, .ref q43, .ref q46, .null, .null, .long 0, .int 0])) ef48 (hm_ne o_q34_f47 o1_f47 (by simp))).trans o_q34_f47
  have o_q37_f48 := (hm_up (v := some (ob 4 [.int 0, .int 0, .ref q1, .ref q4, .ref q7, .ref q10, .int 0, .ref q13, .int 0, .ref q16, .ref q19, .ref q22, .ref q25, .ref q28, .ref q31, .ref q34, .ref q37, .ref q40, .ref q43, .ref q46, .null, .null, .long 0, .int 0])) ef48 (hm_ne o_q37_f47 o1_f47 (by simp))).trans o_q37_f47
  have o_q40_f48 := (hm_up (v := some (ob 4 [.int 0, .int 0, .ref q1, .ref q4, .ref q7, .ref q10, .int 0, .ref q13, .int 0, .ref q16, .ref q19, .ref q22, .ref q25, .ref q28, .ref q31, .ref q34, .ref q37, .ref q40, .ref q43, .ref q46, .null, .null, .long 0, .int 0])) ef48 (hm_ne o_q40_f47 o1_f47 (by simp))).trans o_q40_f47
  have o_q43_f48 := (hm_up (v := some (ob 4 [.int 0, .int 0, .ref q1, .ref q4, .ref q7, .ref q10, .int 0, .ref q13, .int 0, .ref q16, .ref q19, .ref q22, .ref q25, .ref q28, .ref q31, .ref q34, .ref q37, .ref q40, .ref q43, .ref q46, .null, .null, .long 0, .int 0])) ef48 (hm_ne o_q43_f47 o1_f47 (by simp))).trans o_q43_f47
  have o_q46_f48 := (hm_up (v := some (ob 4 [.int 0, .int 0, .ref q1, .ref q4, .ref q7, .ref q10, .int 0, .ref q13, .int 0, .ref q16, .ref q19, .ref q22, .ref q25, .ref q28, .ref q31, .ref q34, .ref q37, .ref q40, .ref q43, .ref q46, .null, .null, .long 0, .int 0])) ef48 (hm_ne o_q46_f47 o1_f47 (by simp))).trans o_q46_f47
  refine lv_aload_n hx hb d_M_init_138 rfl (lv_at hl 0 rfl) ?_
  refine lv_sipush (v := 320) hx hb d_M_init_139 (by decide) ?_
  refine g_newI C wd_56 hP hS hA0 320 (by decide) (by decide) (by decide) (Nat.le_of_ble_eq_true rfl) (Nat.le_of_ble_eq_true rfl) d_M_init_142 (fun q49 H hnq49 hP hS => ?_)
  obtain ⟨f50, ef50⟩ : ∃ z99, z99 = va_up f48 q49 (some (aI G 320 (fun _ => 0))) := ⟨_, rfl⟩
  replace hP : hH G (hA f s.heap.size) f50 H := by rw [ef50]; exact hP
  have o1_f50 := (hm_up (v := some (aI G 320 (fun _ => 0))) ef50 (hm_nn o1_f48 hnq49)).trans o1_f48
  have o_q1_f50 := (hm_up (v := some (aI G 320 (fun _ => 0))) ef50 (hm_nn o_q1_f48 hnq49)).trans o_q1_f48
  have o_q4_f50 := (hm_up (v := some (aI G 320 (fun _ => 0))) ef50 (hm_nn o_q4_f48 hnq49)).trans o_q4_f48
  have o_q7_f50 := (hm_up (v := some (aI G 320 (fun _ => 0))) ef50 (hm_nn o_q7_f48 hnq49)).trans o_q7_f48
  have o_q10_f50 := (hm_up (v := some (aI G 320 (fun _ => 0))) ef50 (hm_nn o_q10_f48 hnq49)).trans o_q10_f48
  have o_q13_f50 := (hm_up (v := some (aI G 320 (fun _ => 0))) ef50 (hm_nn o_q13_f48 hnq49)).trans o_q13_f48
  have o_q16_f50 := (hm_up (v := some (aI G 320 (fun _ => 0))) ef50 (hm_nn o_q16_f48 hnq49)).trans o_q16_f48
  have o_q19_f50 := (hm_up (v := some (aI G 320 (fun _ => 0))) ef50 (hm_nn o_q19_f48 hnq49)).trans o_q19_f48
  have o_q22_f50 := (hm_up (v := some (aI G 320 (fun _ => 0))) ef50 (hm_nn o_q22_f48 hnq49)).trans o_q22_f48
  have o_q25_f50 := (hm_up (v := some (aI G 320 (fun _ => 0))) ef50 (hm_nn o_q25_f48 hnq49)).trans o_q25_f48
  have o_q28_f50 := (hm_up (v := some (aI G 320 (fun _ => 0))) ef50 (hm_nn o_q28_f48 hnq49)).trans o_q28_f48
  have o_q31_f50 := (hm_up (v := some (aI G 320 (fun _ => 0))) ef50 (hm_nn o_q31_f48 hnq49)).trans o_q31_f48
  have o_q34_f50 := (hm_up (v := some (aI G 320 (fun _ => 0))) ef50 (hm_nn o_q34_f48 hnq49)).trans o_q34_f48
  have o_q37_f50 := (hm_up (v := some (aI G 320 (fun _ => 0))) ef50 (hm_nn o_q37_f48 hnq49)).trans o_q37_f48
  have o_q40_f50 := (hm_up (v := some (aI G 320 (fun _ => 0))) ef50 (hm_nn o_q40_f48 hnq49)).trans o_q40_f48
  have o_q43_f50 := (hm_up (v := some (aI G 320 (fun _ => 0))) ef50 (hm_nn o_q43_f48 hnq49)).trans o_q43_f48
  have o_q46_f50 := (hm_up (v := some (aI G 320 (fun _ => 0))) ef50 (hm_nn o_q46_f48 hnq49)).trans o_q46_f48
  have o_q49_f50 : f50 q49 = some (aI G 320 (fun _ => 0)) := by rw [ef50]; exact va_up_self _ _ _
  refine g_putF C i_M t_M t_M_ok n_M hP hS o1_f50 rfl 20 (by decide) wd_526 rfl rfl hin rfl rfl (rfl) (Nat.le_of_ble_eq_true rfl) d_M_init_144 (fun H locs hP hS => ?_)
  obtain ⟨f51, ef51⟩ : ∃ z99, z99 = va_up f50 y (some (ob 4 [.int 0, .int 0, .ref q1, .ref q4, .ref q7, .ref q10, .int 0, .ref q13, .int 0, .ref q16, .ref q19, .ref q22, .ref q25, .ref q28, .ref q31, .ref q34, .ref q37, .ref q40, .ref q43, .ref q46, .ref q49, .null, .long 0, .int 0])) := ⟨_, rfl⟩
  replace hP : hH G (hA f s.heap.size) f51 H := by rw [ef51]; exact hP
  have o1_f51 : f51 y = some (ob 4 [.int 0, .int 0, .ref q1, .ref q4, .ref q7, .ref q10, .int 0, .ref q13, .int 0, .ref q16, .ref q19, .ref q22, .ref q25, .ref q28, .ref q31, .ref q34, .ref q37, .ref q40, .ref q43, .ref q46, .ref q49, .null, .long 0, .int 0]) := by rw [ef51]; exact va_up_self _ _ _
  have o_q1_f51 := (hm_up (v := some (ob 4 [.int 0, .int 0, .ref q1, .ref q4, .ref q7, .ref q10, .int 0, .ref q13, .int 0, .ref q16, .ref q19, .ref q22, .ref q25, .ref q28, .ref q31, .ref q34, .ref q37, .ref q40, .ref q43, .ref q46, .ref q49, .null, .long 0, .int 0])) ef51 (hm_ne o_q1_f50 o1_f50 (by simp))).trans o_q1_f50
  have o_q4_f51 := (hm_up (v := some (ob 4 [.int 0, .int 0, .ref q1, .ref q4, .ref q7, .ref q10, .int 0, .ref q13, .int 0, .ref q16, .ref q19, .ref q22, .ref q25, .ref q28, .ref q31, .ref q34, .ref q37, .ref q40, .ref q43, .ref q46, .ref q49, .null, .long 0, .int 0])) ef51 (hm_ne o_q4_f50 o1_f50 (by simp))).trans o_q4_f50
  have o_q7_f51 := (hm_up (v := some (ob 4 [.int 0, .int 0, .ref q1, .ref q4, .ref q7, .ref q10, .int 0, .ref q13, .int 0, .ref q16, .ref q19, .ref q22, .ref q25, .ref q28, .ref q31, .ref q34, .ref q37, .ref q40, .ref q43, .ref q46, .ref q49, .null, .long 0, .int 0])) ef51 (hm_ne o_q7_f50 o1_f50 (by simp))).trans o_q7_f50
  have o_q10_f51 := (hm_up (v := some (ob 4 [.int 0, .int 0, .ref q1, .ref q4, .ref q7, .ref q10, .int 0, .ref q13, .int 0, .ref q16, .ref q19, .ref q22, .ref q25, .ref q28, .ref q31, .ref q34, .ref q37, .ref q40, .ref q43, .ref q46, .ref q49, .null, .long 0, .int 0])) ef51 (hm_ne o_q10_f50 o1_f50 (by simp))).trans o_q10_f50
  have o_q13_f51 := (hm_up (v := some (ob 4 [.int 0, .int 0, .ref q1, .ref q4, .ref q7, .ref q10, .int 0, .ref q13, .int 0, .ref q16, .ref q19, .ref q22, .ref q25, .ref q28, .ref q31, .ref q34, .ref q37, .ref q40, .ref q43, .ref q46, .ref q49, .null, .long 0, .int 0])) ef51 (hm_ne o_q13_f50 o1_f50 (by simp))).trans o_q13_f50
  have o_q16_f51 := (hm_up (v := some (ob 4 [.int 0, .int 0, .ref q1, .ref q4, .ref q7, .ref q10, .int 0, .ref q13, .int 0, .ref q16, .ref q19, .ref q22, .ref q25, .ref q28, .ref q31, .ref q34, .ref q37, .ref q40, .ref q43, .ref q46, .ref q49, .null, .long 0, .int 0])) ef51 (hm_ne o_q16_f50 o1_f50 (by simp))).trans o_q16_f50
  have o_q19_f51 := (hm_up (v := some (ob 4 [.int 0, .int 0, .ref q1, .ref q4, .ref q7, .ref q10, .int 0, .ref q13, .int 0, .ref q16, .ref q19, .ref q22, .ref q25, .ref q28, .ref q31, .ref q34, .ref q37, .ref q40, .ref q43, .ref q46, .ref q49, .null, .long 0, .int 0])) ef51 (hm_ne o_q19_f50 o1_f50 (by simp))).trans o_q19_f50
  have o_q22_f51 := (hm_up (v := some (ob 4 [.int 0, .int 0, .ref q1, .ref q4, .ref q7, .ref q10, .int 0, .ref q13, .int 0, .ref q16, .ref q19, .ref q22, .ref q25, .ref q28, .ref q31, .ref q34, .ref q37, .ref q40, .ref q43, .ref q46, .ref q49, .null, .long 0, .int 0])) ef51 (hm_ne o_q22_f50 o1_f50 (by simp))).trans o_q22_f50
  have o_q25_f51 := (hm_up (v := some (ob 4 [.int 0, .int 0, .ref q1, .ref q4, .ref q7, .ref q10, .int 0, .ref q13, .int 0, .ref q16, .ref q19, .ref q22, .ref q25, .ref q28, .ref q31, .ref q34, .ref q37, .ref q40, .ref q43, .ref q46, .ref q49, .null, .long 0, .int 0])) ef51 (hm_ne o_q25_f50 o1_f50 (by simp))).trans o_q25_f50
  have o_q28_f51 := (hm_up (v := some (ob 4 [.int 0, .int 0, .ref q1, .ref q4, .ref q7, .ref q10, .int 0, .ref q13, .int 0, .ref q16, .ref q19, .ref q22, .ref q25, .ref q28, .ref q31, .ref q34, .ref q37, .ref q40, .ref q43, .ref q46, .ref q49, .null, .long 0, .int 0])) ef51 (hm_ne o_q28_f50 o1_f50 (by simp))).trans o_q28_f50
  have o_q31_f51 := (hm_up (v := some (ob 4 [.int 0, .int 0, .ref q1, .ref q4, .ref q7, .ref q10, .int 0, .ref q13, .int 0, .ref q16, .ref q19, .ref q22, .ref q25, .ref q28, .ref q31, .ref q34, .ref q37, .ref q40, .ref q43, .ref q46, .ref q49, .null, .long 0, .int 0])) ef51 (hm_ne o_q31_f50 o1_f50 (by simp))).trans o_q31_f50
  have o_q34_f51 := (hm_up (v := some (ob 4 [.int 0, .int 0, .ref q1, .ref q4, .ref q7, .ref q10, .int 0, .ref q13, .int 0, .ref q16, .ref q19, .ref q22, .ref q25, .ref q28, .ref q31, .ref q34, .ref q37, .ref q40, .ref q43, .ref q46, .ref q49, .null, .long 0, .int 0])) ef51 (hm_ne o_q34_f50 o1_f50 (by simp))).trans o_q34_f50
  have o_q37_f51 := (hm_up (v := some (ob 4 [.int 0, .int 0, .ref q1, .ref q4, .ref q7, .ref q10, .int 0, .ref q13, .int 0, .ref q16, .ref q19, .ref q22, .ref q25, .ref q28, .ref q31, .ref q34, .ref q37, .ref q40, .ref q43, .ref q46, .ref q49, .null, .long 0, .int 0])) ef51 (hm_ne o_q37_f50 o1_f50 (by simp))).trans o_q37_f50
  have o_q40_f51 := (hm_up (v := some (ob 4 [.int 0, .int 0, .ref q1, .ref q4, .ref q7, .ref q10, .int 0, .ref q13, .int 0, .ref q16, .ref q19, .ref q22, .ref q25, .ref q28, .ref q31, .ref q34, .ref q37, .ref q40, .ref q43, .ref q46, .ref q49, .null, .long 0, .int 0])) ef51 (hm_ne o_q40_f50 o1_f50 (by simp))).trans o_q40_f50
  have o_q43_f51 := (hm_up (v := some (ob 4 [.int 0, .int 0, .ref q1, .ref q4, .ref q7, .ref q10, .int 0, .ref q13, .int 0, .ref q16, .ref q19, .ref q22, .ref q25, .ref q28, .ref q31, .ref q34, .ref q37, .ref q40, .ref q43, .ref q46, .ref q49, .null, .long 0, .int 0])) ef51 (hm_ne o_q43_f50 o1_f50 (by simp))).trans o_q43_f50
  have o_q46_f51 := (hm_up (v := some (ob 4 [.int 0, .int 0, .ref q1, .ref q4, .ref q7, .ref q10, .int 0, .ref q13, .int 0, .ref q16, .ref q19, .ref q22, .ref q25, .ref q28, .ref q31, .ref q34, .ref q37, .ref q40, .ref q43, .ref q46, .ref q49, .null, .long 0, .int 0])) ef51 (hm_ne o_q46_f50 o1_f50 (by simp))).trans o_q46_f50
  have o_q49_f51 := (hm_up (v := some (ob 4 [.int 0, .int 0, .ref q1, .ref q4, .ref q7, .ref q10, .int 0, .ref q13, .int 0, .ref q16, .ref q19, .ref q22, .ref q25, .ref q28, .ref q31, .ref q34, .ref q37, .ref q40, .ref q43, .ref q46, .ref q49, .null, .long 0, .int 0])) ef51 (hm_ne o_q49_f50 o1_f50 (by simp))).trans o_q49_f50
  refine lv_aload_n hx hb d_M_init_147 rfl (lv_at hl 0 rfl) ?_
  refine lv_sipush (v := 20001) hx hb d_M_init_148 (by decide) ?_
  refine g_newZ C wd_579 hP hS hA0 20001 (by decide) (by decide) (by decide) (Nat.le_of_ble_eq_true rfl) (Nat.le_of_ble_eq_true rfl) d_M_init_151 (fun q52 H hnq52 hP hS => ?_)
  obtain ⟨f53, ef53⟩ : ∃ z99, z99 = va_up f51 q52 (some (aZ G 20001 (fun _ => 0))) := ⟨_, rfl⟩
  replace hP : hH G (hA f s.heap.size) f53 H := by rw [ef53]; exact hP
  have o1_f53 := (hm_up (v := some (aZ G 20001 (fun _ => 0))) ef53 (hm_nn o1_f51 hnq52)).trans o1_f51
  have o_q1_f53 := (hm_up (v := some (aZ G 20001 (fun _ => 0))) ef53 (hm_nn o_q1_f51 hnq52)).trans o_q1_f51
  have o_q4_f53 := (hm_up (v := some (aZ G 20001 (fun _ => 0))) ef53 (hm_nn o_q4_f51 hnq52)).trans o_q4_f51
  have o_q7_f53 := (hm_up (v := some (aZ G 20001 (fun _ => 0))) ef53 (hm_nn o_q7_f51 hnq52)).trans o_q7_f51
  have o_q10_f53 := (hm_up (v := some (aZ G 20001 (fun _ => 0))) ef53 (hm_nn o_q10_f51 hnq52)).trans o_q10_f51
  have o_q13_f53 := (hm_up (v := some (aZ G 20001 (fun _ => 0))) ef53 (hm_nn o_q13_f51 hnq52)).trans o_q13_f51
  have o_q16_f53 := (hm_up (v := some (aZ G 20001 (fun _ => 0))) ef53 (hm_nn o_q16_f51 hnq52)).trans o_q16_f51
  have o_q19_f53 := (hm_up (v := some (aZ G 20001 (fun _ => 0))) ef53 (hm_nn o_q19_f51 hnq52)).trans o_q19_f51
  have o_q22_f53 := (hm_up (v := some (aZ G 20001 (fun _ => 0))) ef53 (hm_nn o_q22_f51 hnq52)).trans o_q22_f51
  have o_q25_f53 := (hm_up (v := some (aZ G 20001 (fun _ => 0))) ef53 (hm_nn o_q25_f51 hnq52)).trans o_q25_f51
  have o_q28_f53 := (hm_up (v := some (aZ G 20001 (fun _ => 0))) ef53 (hm_nn o_q28_f51 hnq52)).trans o_q28_f51
  have o_q31_f53 := (hm_up (v := some (aZ G 20001 (fun _ => 0))) ef53 (hm_nn o_q31_f51 hnq52)).trans o_q31_f51
  have o_q34_f53 := (hm_up (v := some (aZ G 20001 (fun _ => 0))) ef53 (hm_nn o_q34_f51 hnq52)).trans o_q34_f51
  have o_q37_f53 := (hm_up (v := some (aZ G 20001 (fun _ => 0))) ef53 (hm_nn o_q37_f51 hnq52)).trans o_q37_f51
  have o_q40_f53 := (hm_up (v := some (aZ G 20001 (fun _ => 0))) ef53 (hm_nn o_q40_f51 hnq52)).trans o_q40_f51
  have o_q43_f53 := (hm_up (v := some (aZ G 20001 (fun _ => 0))) ef53 (hm_nn o_q43_f51 hnq52)).trans o_q43_f51
  have o_q46_f53 := (hm_up (v := some (aZ G 20001 (fun _ => 0))) ef53 (hm_nn o_q46_f51 hnq52)).trans o_q46_f51
  have o_q49_f53 := (hm_up (v := some (aZ G 20001 (fun _ => 0))) ef53 (hm_nn o_q49_f51 hnq52)).trans o_q49_f51
  have o_q52_f53 : f53 q52 = some (aZ G 20001 (fun _ => 0)) := by rw [ef53]; exact va_up_self _ _ _
  refine g_putF C i_M t_M t_M_ok n_M hP hS o1_f53 rfl 21 (by decide) wd_527 rfl rfl hin rfl rfl (rfl) (Nat.le_of_ble_eq_true rfl) d_M_init_153 (fun H locs hP hS => ?_)
  obtain ⟨f54, ef54⟩ : ∃ z99, z99 = va_up f53 y (some (ob 4 [.int 0, .int 0, .ref q1, .ref q4, .ref q7, .ref q10, .int 0, .ref q13, .int 0, .ref q16, .ref q19, .ref q22, .ref q25, .ref q28, .ref q31, .ref q34, .ref q37, .ref q40, .ref q43, .ref q46, .ref q49, .ref q52, .long 0, .int 0])) := ⟨_, rfl⟩
  replace hP : hH G (hA f s.heap.size) f54 H := by rw [ef54]; exact hP
  have o1_f54 : f54 y = some (ob 4 [.int 0, .int 0, .ref q1, .ref q4, .ref q7, .ref q10, .int 0, .ref q13, .int 0, .ref q16, .ref q19, .ref q22, .ref q25, .ref q28, .ref q31, .ref q34, .ref q37, .ref q40, .ref q43, .ref q46, .ref q49, .ref q52, .long 0, .int 0]) := by rw [ef54]; exact va_up_self _ _ _
  have o_q1_f54 := (hm_up (v := some (ob 4 [.int 0, .int 0, .ref q1, .ref q4, .ref q7, .ref q10, .int 0, .ref q13, .int 0, .ref q16, .ref q19, .ref q22, .ref q25, .ref q28, .ref q31, .ref q34, .ref q37, .ref q40, .ref q43, .ref q46, .ref q49, .ref q52, .long 0, .int 0])) ef54 (hm_ne o_q1_f53 o1_f53 (by simp))).trans o_q1_f53
  have o_q4_f54 := (hm_up (v := some (ob 4 [.int 0, .int 0, .ref q1, .ref q4, .ref q7, .ref q10, .int 0, .ref q13, .int 0, .ref q16, .ref q19, .ref q22, .ref q25, .ref q28, .ref q31, .ref q34, .ref q37, .ref q40, .ref q43, .ref q46, .ref q49, .ref q52, .long 0, .int 0])) ef54 (hm_ne o_q4_f53 o1_f53 (by simp))).trans o_q4_f53
  have o_q7_f54 := (hm_up (v := some (ob 4 [.int 0, .int 0, .ref q1, .ref q4, .ref q7, .ref q10, .int 0, .ref q13, .int 0, .ref q16, .ref q19, .ref q22, .ref q25, .ref q28, .ref q31, .ref q34, .ref q37, .ref q40, .ref q43, .ref q46, .ref q49, .ref q52, .long 0, .int 0])) ef54 (hm_ne o_q7_f53 o1_f53 (by simp))).trans o_q7_f53
  have o_q10_f54 := (hm_up (v := some (ob 4 [.int 0, .int 0, .ref q1, .ref q4, .ref q7, .ref q10, .int 0, .ref q13, .int 0, .ref q16, .ref q19, .ref q22, .ref q25, .ref q28, .ref q31, .ref q34, .ref q37, .ref q40, .ref q43, .ref q46, .ref q49, .ref q52, .long 0, .int 0])) ef54 (hm_ne o_q10_f53 o1_f53 (by simp))).trans o_q10_f53
  have o_q13_f54 := (hm_up (v := some (ob 4 [.int 0, .int 0, .ref q1, .ref q4, .ref q7, .ref q10, .int 0, .ref q13, .int 0, .ref q16, .ref q19, .ref q22, .ref q25, .ref q28, .ref q31, .ref q34, .ref q37, .ref q40, .ref q43, .ref q46, .ref q49, .ref q52, .long 0, .int 0])) ef54 (hm_ne o_q13_f53 o1_f53 (by simp))).trans o_q13_f53
  have o_q16_f54 := (hm_up (v := some (ob 4 [.int 0, .int 0, .ref q1, .ref q4, .ref q7, .ref q10, .int 0, .ref q13, .int 0, .ref q16, .ref q19, .ref q22, .ref q25, .ref q28, .ref q31, .ref q34, .ref q37, .ref q40, .ref q43, .ref q46, .ref q49, .ref q52, .long 0, .int 0])) ef54 (hm_ne o_q16_f53 o1_f53 (by simp))).trans o_q16_f53
  have o_q19_f54 := (hm_up (v := some (ob 4 [.int 0, .int 0, .ref q1, .ref q4, .ref q7, .ref q10, .int 0, .ref q13, .int 0, .ref q16, .ref q19, .ref q22, .ref q25, .ref q28, .ref q31, .ref q34, .ref q37, .ref q40, .ref q43, .ref q46, .ref q49, .ref q52, .long 0, .int 0])) ef54 (hm_ne o_q19_f53 o1_f53 (by simp))).trans o_q19_f53
  have o_q22_f54 := (hm_up (v := some (ob 4 [.int 0, .int 0, .ref q1, .ref q4, .ref q7, .ref q10, .int 0, .ref q13, .int 0, .ref q16, .ref q19, .ref q22, .ref q25, .ref q28, .ref q31, .ref q34, .ref q37, .ref q40, .ref q43, .ref q46, .ref q49, .ref q52, .long 0, .int 0])) ef54 (hm_ne o_q22_f53 o1_f53 (by simp))).trans o_q22_f53
  have o_q25_f54 := (hm_up (v := some (ob 4 [.int 0, .int 0, .ref q1, .ref q4, .ref q7, .ref q10, .int 0, .ref q13, .int 0, .ref q16, .ref q19, .ref q22, .ref q25, .ref q28, .ref q31, .ref q34, .ref q37, .ref q40, .ref q43, .ref q46, .ref q49, .ref q52, .long 0, .int 0])) ef54 (hm_ne o_q25_f53 o1_f53 (by simp))).trans o_q25_f53
  have o_q28_f54 := (hm_up (v := some (ob 4 [.int 0, .int 0, .ref q1, .ref q4, .ref q7, .ref q10, .int 0, .ref q13, .int 0, .ref q16, .ref q19, .ref q22, .ref q25, .ref q28, .ref q31, .ref q34, .ref q37, .ref q40, .ref q43, .ref q46, .ref q49, .ref q52, .long 0, .int 0])) ef54 (hm_ne o_q28_f53 o1_f53 (by simp))).trans o_q28_f53
  have o_q31_f54 := (hm_up (v := some (ob 4 [.int 0, .int 0, .ref q1, .ref q4, .ref q7, .ref q10, .int 0, .ref q13, .int 0, .ref q16, .ref q19, .ref q22, .ref q25, .ref q28, .ref q31, .ref q34, .ref q37, .ref q40, .ref q43, .ref q46, .ref q49, .ref q52, .long 0, .int 0])) ef54 (hm_ne o_q31_f53 o1_f53 (by simp))).trans o_q31_f53
  have o_q34_f54 := (hm_up (v := some (ob 4 [.int 0, .int 0, .ref q1, .ref q4, .ref q7, .ref q10, .int 0, .ref q13, .int 0, .ref q16, .ref q19, .ref q22, .ref q25, .ref q28, .ref q31, .ref q34, .ref q37, .ref q40, .ref q43, .ref q46, .ref q49, .ref q52, .long 0, .int 0])) ef54 (hm_ne o_q34_f53 o1_f53 (by simp))).trans o_q34_f53
  have o_q37_f54 := (hm_up (v := some (ob 4 [.int 0, .int 0, .ref q1, .ref q4, .ref q7, .ref q10, .int 0, .ref q13, .int 0, .ref q16, .ref q19, .ref q22, .ref q25, .ref q28, .ref q31, .ref q34, .ref q37, .ref q40, .ref q43, .ref q46, .ref q49, .ref q52, .long 0, .int 0])) ef54 (hm_ne o_q37_f53 o1_f53 (by simp))).trans o_q37_f53
  have o_q40_f54 := (hm_up (v := some (ob 4 [.int 0, .int 0, .ref q1, .ref q4, .ref q7, .ref q10, .int 0, .ref q13, .int 0, .ref q16, .ref q19, .ref q22, .ref q25, .ref q28, .ref q31, .ref q34, .ref q37, .ref q40, .ref q43, .ref q46, .ref q49, .ref q52, .long 0, .int 0])) ef54 (hm_ne o_q40_f53 o1_f53 (by simp))).trans o_q40_f53
  have o_q43_f54 := (hm_up (v := some (ob 4 [.int 0, .int 0, .ref q1, .ref q4, .ref q7, .ref q10, .int 0, .ref q13, .int 0, .ref q16, .ref q19, .ref q22, .ref q25, .ref q28, .ref q31, .ref q34, .ref q37, .ref q40, .ref q43, .ref q46, .ref q49, .ref q52, .long 0, .int 0])) ef54 (hm_ne o_q43_f53 o1_f53 (by simp))).trans o_q43_f53
  have o_q46_f54 := (hm_up (v := some (ob 4 [.int 0, .int 0, .ref q1, .ref q4, .ref q7, .ref q10, .int 0, .ref q13, .int 0, .ref q16, .ref q19, .ref q22, .ref q25, .ref q28, .ref q31, .ref q34, .ref q37, .ref q40, .ref q43, .ref q46, .ref q49, .ref q52, .long 0, .int 0])) ef54 (hm_ne o_q46_f53 o1_f53 (by simp))).trans o_q46_f53
  have o_q49_f54 := (hm_up (v := some (ob 4 [.int 0, .int 0, .ref q1, .ref q4, .ref q7, .ref q10, .int 0, .ref q13, .int 0, .ref q16, .ref q19, .ref q22, .ref q25, .ref q28, .ref q31, .ref q34, .ref q37, .ref q40, .ref q43, .ref q46, .ref q49, .ref q52, .long 0, .int 0])) ef54 (hm_ne o_q49_f53 o1_f53 (by simp))).trans o_q49_f53
  have o_q52_f54 := (hm_up (v := some (ob 4 [.int 0, .int 0, .ref q1, .ref q4, .ref q7, .ref q10, .int 0, .ref q13, .int 0, .ref q16, .ref q19, .ref q22, .ref q25, .ref q28, .ref q31, .ref q34, .ref q37, .ref q40, .ref q43, .ref q46, .ref q49, .ref q52, .long 0, .int 0])) ef54 (hm_ne o_q52_f53 o1_f53 (by simp))).trans o_q52_f53
  refine lv_iconst (v := 0) hx hb d_M_init_156 (by decide) ?_
  refine lv_istore_n (lv' := [(1, .int 0), (0, .ref y)]) hx hb d_M_init_157 rfl hl (by decide) rfl (fun ls hl => ?_)
  have dm0 := dm.one o1
  have dm1 := dm.nw ef2 dm0 hnq1
  have dm2 := dm.up ef3 dm1
  have dm3 := dm.nw ef5 dm2 hnq4
  have dm4 := dm.up ef6 dm3
  have dm5 := dm.nw ef8 dm4 hnq7
  have dm6 := dm.up ef9 dm5
  have dm7 := dm.nw ef11 dm6 hnq10
  have dm8 := dm.up ef12 dm7
  have dm9 := dm.nw ef14 dm8 hnq13
  have dm10 := dm.up ef15 dm9
  have dm11 := dm.nw ef17 dm10 hnq16
  have dm12 := dm.up ef18 dm11
  have dm13 := dm.nw ef20 dm12 hnq19
  have dm14 := dm.up ef21 dm13
  have dm15 := dm.nw ef23 dm14 hnq22
  have dm16 := dm.up ef24 dm15
  have dm17 := dm.nw ef26 dm16 hnq25
  have dm18 := dm.up ef27 dm17
  have dm19 := dm.nw ef29 dm18 hnq28
  have dm20 := dm.up ef30 dm19
  have dm21 := dm.nw ef32 dm20 hnq31
  have dm22 := dm.up ef33 dm21
  have dm23 := dm.nw ef35 dm22 hnq34
  have dm24 := dm.up ef36 dm23
  have dm25 := dm.nw ef38 dm24 hnq37
  have dm26 := dm.up ef39 dm25
  have dm27 := dm.nw ef41 dm26 hnq40
  have dm28 := dm.up ef42 dm27
  have dm29 := dm.nw ef44 dm28 hnq43
  have dm30 := dm.up ef45 dm29
  have dm31 := dm.nw ef47 dm30 hnq46
  have dm32 := dm.up ef48 dm31
  have dm33 := dm.nw ef50 dm32 hnq49
  have dm34 := dm.up ef51 dm33
  have dm35 := dm.nw ef53 dm34 hnq52
  have dm36 := dm.up ef54 dm35
  have hnd : [q1, q4, q7, q10, q13, q16, q19, q22, q25, q28, q31, q34, q37, q40, q43, q46, q49, q52].Nodup := (List.nodup_cons.mp (nd_rev (l := [y, q1, q4, q7, q10, q13, q16, q19, q22, q25, q28, q31, q34, q37, q40, q43, q46, q49, q52]) dm36.1)).2
  obtain ⟨ca, hv⟩ : ∃ ca, mv G f54 y ca 0 0 0 0 0 0 (fun _ => 0) (fun _ => 0) (fun _ => 0) (fun _ => 0) (fun _ => 0) (fun _ => 0) (fun _ => 0) (fun _ => 0) (fun _ => 0) (fun _ => 0) (fun _ => 0) (fun _ => 0) (fun _ => 0) (fun _ => 0) (fun _ => 0) (fun _ => 0) (fun _ => 0) (fun _ => 0) := ⟨fun i => [q1, q4, q7, q10, q13, q16, q19, q22, q25, q28, q31, q34, q37, q40, q43, q46, q49, q52].getD i 0, o1_f54, o_q1_f54, o_q4_f54, o_q7_f54, o_q10_f54, o_q13_f54, o_q16_f54, o_q19_f54, o_q22_f54, o_q25_f54, o_q28_f54, o_q31_f54, o_q34_f54, o_q37_f54, o_q40_f54, o_q43_f54, o_q46_f54, o_q49_f54, o_q52_f54, fun i j hi hj => nd_inj _ hnd i j hi hj⟩
  exact loop1 17 0 f54 ca ls _ _ (by omega) (by omega) hv hP hS (lv_sub hl [0, 1] rfl)
