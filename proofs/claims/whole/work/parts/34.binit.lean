/-! PartBook's constructor. -/
abbrev hPa (G : hG) (av : List Value) (f : hm) (sz : Nat) : Array Value → State → Prop := va_Pc av (fun U => (U.heap.size = sz ∧ hH G (fun _ => True) f U.heap ∧ hK G U) ∧ va_AO "PartBook$Part" U)
theorem h_ofWA {l : Launch} {G : hG} {y : MethodName} {ws ws' : List Cond} {rm : Room} {av : List Value} {f : hm} {sz : Nat} {Qc : Array Value → State → Outcome → State → Prop} {mc ms : Nat} {cc : ByteArray} {maxL : Nat} {ret : Option FieldType}
    (hy : plainName y.cls = true) (hw : ws = Cond.code y cc maxL ret :: ws') (hn : (lg_sl av).length ≤ maxL)
    (body : ∀ p e s m below meth c ls, hC G y.cls ws cc maxL ret p s m av.toArray meth c → meth.name = y.name → s.heap.size = sz → hH G (hA f sz) f s.heap → va_AO "PartBook$Part" s → lv_has ls maxL (lv_args 0 av) →
      W p l e rm s m av.toArray below meth c s.heap [] 0 0 (MQ below Qc av.toArray s mc ms (hA f sz)) (F0 m 0 ls [])) :
    Met l y ws rm (hPa G av f sz) Qc mc ms (hA f sz) := by
  refine Met.ofW (cc := cc) (maxL := maxL) (ret := ret) hy hw ?_
  intro p e s m args below meth c s₁ B hml hv
  obtain ⟨rfl, ⟨hsz, hP, hK⟩, hO⟩ := hv
  have hl := lv_entry av (n := maxL) hn
  rw [lg_entry_eq]
  exact body p e s m below meth c _ ⟨B.exec, B.bytes, hml, findClass_of_methodNamed B.named, atoms_spec (ws := ws) B.pre, B.returns, B.notSynchronized, hK⟩ (name_of_methodNamed B.named B.method).1 hsz hP.self hO hl
def b_0 : BD := (0, 0, 0, fun _ => D0 0, fun j => if j < 16 then 50 else 0, fun j => if j < 120 then -1 else 0, fun j => if j < 4 then 1000 else 0, fun _ => 0)
theorem if_f {α β : Type} (F : α → β) {P : Prop} [Decidable P] (x y : α) : (if P then F x else F y) = F (if P then x else y) := by
  by_cases h : P
  · rw [if_pos h, if_pos h]
  · rw [if_neg h, if_neg h]
set_option maxHeartbeats 4000000 in
set_option maxRecDepth 100000 in
theorem ct_B_init {l : Launch} {G : hG} (f : hm) (h : Nat) (o1 : f h = some (ob 3 [.null, .int 0, .null, .null, .int 0, .null, .null, .int 0])) : ∀ sz : Nat, Met l y_B_init w_B_init { frames := 1, cells := 5, slots := 220, locals := 40 } (hPa G [.ref h] f sz) (va_Qv (fun u => ∃ a1, bk G u h a1 b_0) (hB G (hA f sz)) (hA f sz)) 5 220 (hA f sz) := by
  intro sz
  refine h_ofWA (cc := c_B_init) (maxL := 1) (ret := none) (by decide) rfl (Nat.le_of_ble_eq_true rfl) ?_
  intro p e s m below meth c ls C hin hsz hP hAO hl
  obtain ⟨hx, hb, hml, hown, -, -, -, -⟩ := id C
  subst hsz
  have hA0 : ∀ q, s.heap.size ≤ q → hA f s.heap.size q := hA.new
  have hS : va_S (hA f s.heap.size) s.heap s.heap [] := va_S.rf
  replace hl : lv_has ls 1 [(0, .ref h)] := hl
  refine lv_aload_n hx hb d_B_init_0 rfl (lv_at hl 0 rfl) ?_
  refine g_objI C hl.1 wd_19 wd_20 wd_21 d_B_init_1 (Nat.le_of_ble_eq_true rfl) (Nat.le_of_ble_eq_true rfl) ?_
  refine lv_aload_n hx hb d_B_init_4 rfl (lv_at hl 0 rfl) ?_
  refine lv_bipush (v := 40) hx hb d_B_init_5 (by decide) ?_
  refine g_newP C wd_22 hAO hP hS hA0 40 (by decide) (by decide) (by decide) (Nat.le_of_ble_eq_true rfl) (Nat.le_of_ble_eq_true rfl) d_B_init_7 (fun q1 H hnq1 hP hS => ?_)
  obtain ⟨f2, ef2⟩ : ∃ z99, z99 = va_up f q1 (some (aP G 40 (fun _ => none))) := ⟨_, rfl⟩
  replace hP : hH G (hA f s.heap.size) f2 H := by rw [ef2]; exact hP
  have o1_f2 := (hm_up (v := some (aP G 40 (fun _ => none))) ef2 (hm_nn o1 hnq1)).trans o1
  have o_q1_f2 : f2 q1 = some (aP G 40 (fun _ => none)) := by rw [ef2]; exact va_up_self _ _ _
  refine g_putF C i_B t_B t_B_ok n_B hP hS o1_f2 rfl 0 (by decide) wd_31 rfl rfl hin rfl rfl (rfl) (Nat.le_of_ble_eq_true rfl) d_B_init_10 (fun H locs hP hS => ?_)
  obtain ⟨f3, ef3⟩ : ∃ z99, z99 = va_up f2 h (some (ob 3 [.ref q1, .int 0, .null, .null, .int 0, .null, .null, .int 0])) := ⟨_, rfl⟩
  replace hP : hH G (hA f s.heap.size) f3 H := by rw [ef3]; exact hP
  have o1_f3 : f3 h = some (ob 3 [.ref q1, .int 0, .null, .null, .int 0, .null, .null, .int 0]) := by rw [ef3]; exact va_up_self _ _ _
  have o_q1_f3 := (hm_up (v := some (ob 3 [.ref q1, .int 0, .null, .null, .int 0, .null, .null, .int 0])) ef3 (hm_ne o_q1_f2 o1_f2 (by simp))).trans o_q1_f2
  refine lv_aload_n hx hb d_B_init_13 rfl (lv_at hl 0 rfl) ?_
  refine lv_iconst (v := 0) hx hb d_B_init_14 (by decide) ?_
  refine g_put C i_B t_B t_B_ok n_B hP hS o1_f3 rfl 1 (by decide) wd_32 rfl rfl rfl (rfl) (Nat.le_of_ble_eq_true rfl) d_B_init_15 (fun H locs hP hS => ?_)
  obtain ⟨f4, ef4⟩ : ∃ z99, z99 = va_up f3 h (some (ob 3 [.ref q1, .int 0, .null, .null, .int 0, .null, .null, .int 0])) := ⟨_, rfl⟩
  replace hP : hH G (hA f s.heap.size) f4 H := by rw [ef4]; exact hP
  have o1_f4 : f4 h = some (ob 3 [.ref q1, .int 0, .null, .null, .int 0, .null, .null, .int 0]) := by rw [ef4]; exact va_up_self _ _ _
  have o_q1_f4 := (hm_up (v := some (ob 3 [.ref q1, .int 0, .null, .null, .int 0, .null, .null, .int 0])) ef4 (hm_ne o_q1_f3 o1_f3 (by simp))).trans o_q1_f3
  refine lv_aload_n hx hb d_B_init_18 rfl (lv_at hl 0 rfl) ?_
  refine lv_bipush (v := 16) hx hb d_B_init_19 (by decide) ?_
  refine g_newI C wd_56 hP hS hA0 16 (by decide) (by decide) (by decide) (Nat.le_of_ble_eq_true rfl) (Nat.le_of_ble_eq_true rfl) d_B_init_21 (fun q5 H hnq5 hP hS => ?_)
  obtain ⟨f6, ef6⟩ : ∃ z99, z99 = va_up f4 q5 (some (aI G 16 (fun _ => 0))) := ⟨_, rfl⟩
  replace hP : hH G (hA f s.heap.size) f6 H := by rw [ef6]; exact hP
  have o1_f6 := (hm_up (v := some (aI G 16 (fun _ => 0))) ef6 (hm_nn o1_f4 hnq5)).trans o1_f4
  have o_q1_f6 := (hm_up (v := some (aI G 16 (fun _ => 0))) ef6 (hm_nn o_q1_f4 hnq5)).trans o_q1_f4
  have o_q5_f6 : f6 q5 = some (aI G 16 (fun _ => 0)) := by rw [ef6]; exact va_up_self _ _ _
  refine g_putF C i_B t_B t_B_ok n_B hP hS o1_f6 rfl 2 (by decide) wd_33 rfl rfl hin rfl rfl (rfl) (Nat.le_of_ble_eq_true rfl) d_B_init_23 (fun H locs hP hS => ?_)
  obtain ⟨f7, ef7⟩ : ∃ z99, z99 = va_up f6 h (some (ob 3 [.ref q1, .int 0, .ref q5, .null, .int 0, .null, .null, .int 0])) := ⟨_, rfl⟩
  replace hP : hH G (hA f s.heap.size) f7 H := by rw [ef7]; exact hP
  have o1_f7 : f7 h = some (ob 3 [.ref q1, .int 0, .ref q5, .null, .int 0, .null, .null, .int 0]) := by rw [ef7]; exact va_up_self _ _ _
  have o_q1_f7 := (hm_up (v := some (ob 3 [.ref q1, .int 0, .ref q5, .null, .int 0, .null, .null, .int 0])) ef7 (hm_ne o_q1_f6 o1_f6 (by simp))).trans o_q1_f6
  have o_q5_f7 := (hm_up (v := some (ob 3 [.ref q1, .int 0, .ref q5, .null, .int 0, .null, .null, .int 0])) ef7 (hm_ne o_q5_f6 o1_f6 (by simp))).trans o_q5_f6
  refine lv_aload_n hx hb d_B_init_26 rfl (lv_at hl 0 rfl) ?_
  refine g_get C i_B hP o1_f7 rfl 2 (by decide) wd_33 rfl rfl d_B_init_27 ?_
  refine lv_bipush (v := 50) hx hb d_B_init_30 (by decide) ?_
  refine g_callv (g_runS C hl.1 (ct_A_fill_II f7 q5 16 (fun _ => 0) 50 (by decide) o_q5_f7 _) (cx_S C 2 wd_24 wd_25 wd_2 wd_26 rfl rfl (by decide +kernel) ⟨Nat.le_of_ble_eq_true rfl, Nat.le_of_ble_eq_true rfl⟩) hP rfl rfl (Nat.le_of_ble_eq_true rfl) d_B_init_32 ⟨Nat.le_of_ble_eq_true rfl, Nat.le_of_ble_eq_true rfl⟩) hP hS hA0 (fun f8 H locs hq hP hS => ?_)
  have ef8 : f8 = va_up f7 q5 (some (aI G 16 (fun j => if j < 16 then 50 else (fun _ => 0) j))) := hq
  have o1_f8 := (hm_up (v := some (aI G 16 (fun j => if j < 16 then 50 else (fun _ => 0) j))) ef8 (hm_ne o1_f7 o_q5_f7 (by simp))).trans o1_f7
  have o_q1_f8 := (hm_up (v := some (aI G 16 (fun j => if j < 16 then 50 else (fun _ => 0) j))) ef8 (hm_ne o_q1_f7 o_q5_f7 (by simp))).trans o_q1_f7
  have o_q5_f8 : f8 q5 = some (aI G 16 (fun j => if j < 16 then 50 else (fun _ => 0) j)) := by rw [ef8]; exact va_up_self _ _ _
  refine lv_aload_n hx hb d_B_init_35 rfl (lv_at hl 0 rfl) ?_
  refine lv_bipush (v := 120) hx hb d_B_init_36 (by decide) ?_
  refine g_newI C wd_56 hP hS hA0 120 (by decide) (by decide) (by decide) (Nat.le_of_ble_eq_true rfl) (Nat.le_of_ble_eq_true rfl) d_B_init_38 (fun q10 H hnq10 hP hS => ?_)
  obtain ⟨f11, ef11⟩ : ∃ z99, z99 = va_up f8 q10 (some (aI G 120 (fun _ => 0))) := ⟨_, rfl⟩
  replace hP : hH G (hA f s.heap.size) f11 H := by rw [ef11]; exact hP
  have o1_f11 := (hm_up (v := some (aI G 120 (fun _ => 0))) ef11 (hm_nn o1_f8 hnq10)).trans o1_f8
  have o_q1_f11 := (hm_up (v := some (aI G 120 (fun _ => 0))) ef11 (hm_nn o_q1_f8 hnq10)).trans o_q1_f8
  have o_q5_f11 := (hm_up (v := some (aI G 120 (fun _ => 0))) ef11 (hm_nn o_q5_f8 hnq10)).trans o_q5_f8
  have o_q10_f11 : f11 q10 = some (aI G 120 (fun _ => 0)) := by rw [ef11]; exact va_up_self _ _ _
  refine g_putF C i_B t_B t_B_ok n_B hP hS o1_f11 rfl 3 (by decide) wd_34 rfl rfl hin rfl rfl (rfl) (Nat.le_of_ble_eq_true rfl) d_B_init_40 (fun H locs hP hS => ?_)
  obtain ⟨f12, ef12⟩ : ∃ z99, z99 = va_up f11 h (some (ob 3 [.ref q1, .int 0, .ref q5, .ref q10, .int 0, .null, .null, .int 0])) := ⟨_, rfl⟩
  replace hP : hH G (hA f s.heap.size) f12 H := by rw [ef12]; exact hP
  have o1_f12 : f12 h = some (ob 3 [.ref q1, .int 0, .ref q5, .ref q10, .int 0, .null, .null, .int 0]) := by rw [ef12]; exact va_up_self _ _ _
  have o_q1_f12 := (hm_up (v := some (ob 3 [.ref q1, .int 0, .ref q5, .ref q10, .int 0, .null, .null, .int 0])) ef12 (hm_ne o_q1_f11 o1_f11 (by simp))).trans o_q1_f11
  have o_q5_f12 := (hm_up (v := some (ob 3 [.ref q1, .int 0, .ref q5, .ref q10, .int 0, .null, .null, .int 0])) ef12 (hm_ne o_q5_f11 o1_f11 (by simp))).trans o_q5_f11
  have o_q10_f12 := (hm_up (v := some (ob 3 [.ref q1, .int 0, .ref q5, .ref q10, .int 0, .null, .null, .int 0])) ef12 (hm_ne o_q10_f11 o1_f11 (by simp))).trans o_q10_f11
  refine lv_aload_n hx hb d_B_init_43 rfl (lv_at hl 0 rfl) ?_
  refine g_get C i_B hP o1_f12 rfl 3 (by decide) wd_34 rfl rfl d_B_init_44 ?_
  refine lv_iconst (v := (-1)) hx hb d_B_init_47 (by decide) ?_
  refine g_callv (g_runS C hl.1 (ct_A_fill_II f12 q10 120 (fun _ => 0) (-1) (by decide) o_q10_f12 _) (cx_S C 2 wd_24 wd_25 wd_2 wd_26 rfl rfl (by decide +kernel) ⟨Nat.le_of_ble_eq_true rfl, Nat.le_of_ble_eq_true rfl⟩) hP rfl rfl (Nat.le_of_ble_eq_true rfl) d_B_init_48 ⟨Nat.le_of_ble_eq_true rfl, Nat.le_of_ble_eq_true rfl⟩) hP hS hA0 (fun f13 H locs hq hP hS => ?_)
  have ef13 : f13 = va_up f12 q10 (some (aI G 120 (fun j => if j < 120 then (-1) else (fun _ => 0) j))) := hq
  have o1_f13 := (hm_up (v := some (aI G 120 (fun j => if j < 120 then (-1) else (fun _ => 0) j))) ef13 (hm_ne o1_f12 o_q10_f12 (by simp))).trans o1_f12
  have o_q1_f13 := (hm_up (v := some (aI G 120 (fun j => if j < 120 then (-1) else (fun _ => 0) j))) ef13 (hm_ne o_q1_f12 o_q10_f12 (by simp))).trans o_q1_f12
  have o_q5_f13 := (hm_up (v := some (aI G 120 (fun j => if j < 120 then (-1) else (fun _ => 0) j))) ef13 (hm_ne o_q5_f12 o_q10_f12 (by simp))).trans o_q5_f12
  have o_q10_f13 : f13 q10 = some (aI G 120 (fun j => if j < 120 then (-1) else (fun _ => 0) j)) := by rw [ef13]; exact va_up_self _ _ _
  refine lv_aload_n hx hb d_B_init_51 rfl (lv_at hl 0 rfl) ?_
  refine lv_iconst (v := 0) hx hb d_B_init_52 (by decide) ?_
  refine g_put C i_B t_B t_B_ok n_B hP hS o1_f13 rfl 4 (by decide) wd_35 rfl rfl rfl (rfl) (Nat.le_of_ble_eq_true rfl) d_B_init_53 (fun H locs hP hS => ?_)
  obtain ⟨f15, ef15⟩ : ∃ z99, z99 = va_up f13 h (some (ob 3 [.ref q1, .int 0, .ref q5, .ref q10, .int 0, .null, .null, .int 0])) := ⟨_, rfl⟩
  replace hP : hH G (hA f s.heap.size) f15 H := by rw [ef15]; exact hP
  have o1_f15 : f15 h = some (ob 3 [.ref q1, .int 0, .ref q5, .ref q10, .int 0, .null, .null, .int 0]) := by rw [ef15]; exact va_up_self _ _ _
  have o_q1_f15 := (hm_up (v := some (ob 3 [.ref q1, .int 0, .ref q5, .ref q10, .int 0, .null, .null, .int 0])) ef15 (hm_ne o_q1_f13 o1_f13 (by simp))).trans o_q1_f13
  have o_q5_f15 := (hm_up (v := some (ob 3 [.ref q1, .int 0, .ref q5, .ref q10, .int 0, .null, .null, .int 0])) ef15 (hm_ne o_q5_f13 o1_f13 (by simp))).trans o_q5_f13
  have o_q10_f15 := (hm_up (v := some (ob 3 [.ref q1, .int 0, .ref q5, .ref q10, .int 0, .null, .null, .int 0])) ef15 (hm_ne o_q10_f13 o1_f13 (by simp))).trans o_q10_f13
  refine lv_aload_n hx hb d_B_init_56 rfl (lv_at hl 0 rfl) ?_
  refine lv_iconst (v := 4) hx hb d_B_init_57 (by decide) ?_
  refine g_newL C wd_57 hP hS hA0 4 (by decide) (by decide) (by decide) (Nat.le_of_ble_eq_true rfl) (Nat.le_of_ble_eq_true rfl) d_B_init_58 (fun q16 H hnq16 hP hS => ?_)
  obtain ⟨f17, ef17⟩ : ∃ z99, z99 = va_up f15 q16 (some (aL G 4 (fun _ => 0))) := ⟨_, rfl⟩
  replace hP : hH G (hA f s.heap.size) f17 H := by rw [ef17]; exact hP
  have o1_f17 := (hm_up (v := some (aL G 4 (fun _ => 0))) ef17 (hm_nn o1_f15 hnq16)).trans o1_f15
  have o_q1_f17 := (hm_up (v := some (aL G 4 (fun _ => 0))) ef17 (hm_nn o_q1_f15 hnq16)).trans o_q1_f15
  have o_q5_f17 := (hm_up (v := some (aL G 4 (fun _ => 0))) ef17 (hm_nn o_q5_f15 hnq16)).trans o_q5_f15
  have o_q10_f17 := (hm_up (v := some (aL G 4 (fun _ => 0))) ef17 (hm_nn o_q10_f15 hnq16)).trans o_q10_f15
  have o_q16_f17 : f17 q16 = some (aL G 4 (fun _ => 0)) := by rw [ef17]; exact va_up_self _ _ _
  refine g_putF C i_B t_B t_B_ok n_B hP hS o1_f17 rfl 5 (by decide) wd_36 rfl rfl hin rfl rfl (rfl) (Nat.le_of_ble_eq_true rfl) d_B_init_60 (fun H locs hP hS => ?_)
  obtain ⟨f18, ef18⟩ : ∃ z99, z99 = va_up f17 h (some (ob 3 [.ref q1, .int 0, .ref q5, .ref q10, .int 0, .ref q16, .null, .int 0])) := ⟨_, rfl⟩
  replace hP : hH G (hA f s.heap.size) f18 H := by rw [ef18]; exact hP
  have o1_f18 : f18 h = some (ob 3 [.ref q1, .int 0, .ref q5, .ref q10, .int 0, .ref q16, .null, .int 0]) := by rw [ef18]; exact va_up_self _ _ _
  have o_q1_f18 := (hm_up (v := some (ob 3 [.ref q1, .int 0, .ref q5, .ref q10, .int 0, .ref q16, .null, .int 0])) ef18 (hm_ne o_q1_f17 o1_f17 (by simp))).trans o_q1_f17
  have o_q5_f18 := (hm_up (v := some (ob 3 [.ref q1, .int 0, .ref q5, .ref q10, .int 0, .ref q16, .null, .int 0])) ef18 (hm_ne o_q5_f17 o1_f17 (by simp))).trans o_q5_f17
  have o_q10_f18 := (hm_up (v := some (ob 3 [.ref q1, .int 0, .ref q5, .ref q10, .int 0, .ref q16, .null, .int 0])) ef18 (hm_ne o_q10_f17 o1_f17 (by simp))).trans o_q10_f17
  have o_q16_f18 := (hm_up (v := some (ob 3 [.ref q1, .int 0, .ref q5, .ref q10, .int 0, .ref q16, .null, .int 0])) ef18 (hm_ne o_q16_f17 o1_f17 (by simp))).trans o_q16_f17
  refine lv_aload_n hx hb d_B_init_63 rfl (lv_at hl 0 rfl) ?_
  refine g_get C i_B hP o1_f18 rfl 5 (by decide) wd_36 rfl rfl d_B_init_64 ?_
  refine lv_ldc2 hx hb hown (C.w wd_27) d_B_init_67 ?_
  refine g_callv (g_runS C hl.1 (ct_A_fill_JJ f18 q16 4 (fun _ => 0) 1000 (by decide) o_q16_f18 _) (cx_S C 2 wd_28 wd_29 wd_2 wd_30 rfl rfl (by decide +kernel) ⟨Nat.le_of_ble_eq_true rfl, Nat.le_of_ble_eq_true rfl⟩) hP rfl rfl (Nat.le_of_ble_eq_true rfl) d_B_init_70 ⟨Nat.le_of_ble_eq_true rfl, Nat.le_of_ble_eq_true rfl⟩) hP hS hA0 (fun f19 H locs hq hP hS => ?_)
  have ef19 : f19 = va_up f18 q16 (some (aL G 4 (fun j => if j < 4 then 1000 else (fun _ => 0) j))) := hq
  have o1_f19 := (hm_up (v := some (aL G 4 (fun j => if j < 4 then 1000 else (fun _ => 0) j))) ef19 (hm_ne o1_f18 o_q16_f18 (by simp))).trans o1_f18
  have o_q1_f19 := (hm_up (v := some (aL G 4 (fun j => if j < 4 then 1000 else (fun _ => 0) j))) ef19 (hm_ne o_q1_f18 o_q16_f18 (by simp))).trans o_q1_f18
  have o_q5_f19 := (hm_up (v := some (aL G 4 (fun j => if j < 4 then 1000 else (fun _ => 0) j))) ef19 (hm_ne o_q5_f18 o_q16_f18 (by simp))).trans o_q5_f18
  have o_q10_f19 := (hm_up (v := some (aL G 4 (fun j => if j < 4 then 1000 else (fun _ => 0) j))) ef19 (hm_ne o_q10_f18 o_q16_f18 (by simp))).trans o_q10_f18
  have o_q16_f19 : f19 q16 = some (aL G 4 (fun j => if j < 4 then 1000 else (fun _ => 0) j)) := by rw [ef19]; exact va_up_self _ _ _
  refine lv_aload_n hx hb d_B_init_73 rfl (lv_at hl 0 rfl) ?_
  refine lv_bipush (v := 40) hx hb d_B_init_74 (by decide) ?_
  refine g_newI C wd_56 hP hS hA0 40 (by decide) (by decide) (by decide) (Nat.le_of_ble_eq_true rfl) (Nat.le_of_ble_eq_true rfl) d_B_init_76 (fun q21 H hnq21 hP hS => ?_)
  obtain ⟨f22, ef22⟩ : ∃ z99, z99 = va_up f19 q21 (some (aI G 40 (fun _ => 0))) := ⟨_, rfl⟩
  replace hP : hH G (hA f s.heap.size) f22 H := by rw [ef22]; exact hP
  have o1_f22 := (hm_up (v := some (aI G 40 (fun _ => 0))) ef22 (hm_nn o1_f19 hnq21)).trans o1_f19
  have o_q1_f22 := (hm_up (v := some (aI G 40 (fun _ => 0))) ef22 (hm_nn o_q1_f19 hnq21)).trans o_q1_f19
  have o_q5_f22 := (hm_up (v := some (aI G 40 (fun _ => 0))) ef22 (hm_nn o_q5_f19 hnq21)).trans o_q5_f19
  have o_q10_f22 := (hm_up (v := some (aI G 40 (fun _ => 0))) ef22 (hm_nn o_q10_f19 hnq21)).trans o_q10_f19
  have o_q16_f22 := (hm_up (v := some (aI G 40 (fun _ => 0))) ef22 (hm_nn o_q16_f19 hnq21)).trans o_q16_f19
  have o_q21_f22 : f22 q21 = some (aI G 40 (fun _ => 0)) := by rw [ef22]; exact va_up_self _ _ _
  refine g_putF C i_B t_B t_B_ok n_B hP hS o1_f22 rfl 6 (by decide) wd_37 rfl rfl hin rfl rfl (rfl) (Nat.le_of_ble_eq_true rfl) d_B_init_78 (fun H locs hP hS => ?_)
  obtain ⟨f23, ef23⟩ : ∃ z99, z99 = va_up f22 h (some (ob 3 [.ref q1, .int 0, .ref q5, .ref q10, .int 0, .ref q16, .ref q21, .int 0])) := ⟨_, rfl⟩
  replace hP : hH G (hA f s.heap.size) f23 H := by rw [ef23]; exact hP
  have o1_f23 : f23 h = some (ob 3 [.ref q1, .int 0, .ref q5, .ref q10, .int 0, .ref q16, .ref q21, .int 0]) := by rw [ef23]; exact va_up_self _ _ _
  have o_q1_f23 := (hm_up (v := some (ob 3 [.ref q1, .int 0, .ref q5, .ref q10, .int 0, .ref q16, .ref q21, .int 0])) ef23 (hm_ne o_q1_f22 o1_f22 (by simp))).trans o_q1_f22
  have o_q5_f23 := (hm_up (v := some (ob 3 [.ref q1, .int 0, .ref q5, .ref q10, .int 0, .ref q16, .ref q21, .int 0])) ef23 (hm_ne o_q5_f22 o1_f22 (by simp))).trans o_q5_f22
  have o_q10_f23 := (hm_up (v := some (ob 3 [.ref q1, .int 0, .ref q5, .ref q10, .int 0, .ref q16, .ref q21, .int 0])) ef23 (hm_ne o_q10_f22 o1_f22 (by simp))).trans o_q10_f22
  have o_q16_f23 := (hm_up (v := some (ob 3 [.ref q1, .int 0, .ref q5, .ref q10, .int 0, .ref q16, .ref q21, .int 0])) ef23 (hm_ne o_q16_f22 o1_f22 (by simp))).trans o_q16_f22
  have o_q21_f23 := (hm_up (v := some (ob 3 [.ref q1, .int 0, .ref q5, .ref q10, .int 0, .ref q16, .ref q21, .int 0])) ef23 (hm_ne o_q21_f22 o1_f22 (by simp))).trans o_q21_f22
  refine lv_aload_n hx hb d_B_init_81 rfl (lv_at hl 0 rfl) ?_
  refine lv_iconst (v := 0) hx hb d_B_init_82 (by decide) ?_
  refine g_put C i_B t_B t_B_ok n_B hP hS o1_f23 rfl 7 (by decide) wd_38 rfl rfl rfl (rfl) (Nat.le_of_ble_eq_true rfl) d_B_init_83 (fun H locs hP hS => ?_)
  obtain ⟨f24, ef24⟩ : ∃ z99, z99 = va_up f23 h (some (ob 3 [.ref q1, .int 0, .ref q5, .ref q10, .int 0, .ref q16, .ref q21, .int 0])) := ⟨_, rfl⟩
  replace hP : hH G (hA f s.heap.size) f24 H := by rw [ef24]; exact hP
  have o1_f24 : f24 h = some (ob 3 [.ref q1, .int 0, .ref q5, .ref q10, .int 0, .ref q16, .ref q21, .int 0]) := by rw [ef24]; exact va_up_self _ _ _
  have o_q1_f24 := (hm_up (v := some (ob 3 [.ref q1, .int 0, .ref q5, .ref q10, .int 0, .ref q16, .ref q21, .int 0])) ef24 (hm_ne o_q1_f23 o1_f23 (by simp))).trans o_q1_f23
  have o_q5_f24 := (hm_up (v := some (ob 3 [.ref q1, .int 0, .ref q5, .ref q10, .int 0, .ref q16, .ref q21, .int 0])) ef24 (hm_ne o_q5_f23 o1_f23 (by simp))).trans o_q5_f23
  have o_q10_f24 := (hm_up (v := some (ob 3 [.ref q1, .int 0, .ref q5, .ref q10, .int 0, .ref q16, .ref q21, .int 0])) ef24 (hm_ne o_q10_f23 o1_f23 (by simp))).trans o_q10_f23
  have o_q16_f24 := (hm_up (v := some (ob 3 [.ref q1, .int 0, .ref q5, .ref q10, .int 0, .ref q16, .ref q21, .int 0])) ef24 (hm_ne o_q16_f23 o1_f23 (by simp))).trans o_q16_f23
  have o_q21_f24 := (hm_up (v := some (ob 3 [.ref q1, .int 0, .ref q5, .ref q10, .int 0, .ref q16, .ref q21, .int 0])) ef24 (hm_ne o_q21_f23 o1_f23 (by simp))).trans o_q21_f23
  have z1 := o_q5_f24
  have z2 := o_q10_f24
  have z3 := o_q16_f24
  have z4 := o_q21_f24
  have z5 := o_q1_f24
  exact g_vret C hP hS (⟨(q1, q5, q10, q16, q21, fun _ _ => 0, fun _ => none), ⟨o1_f24, z5, (by rw [z1]; congr 4; funext j; exact if_f nI 50 0), z2, (by rw [z3]; congr 5; funext j; exact if_f lN 1000 0), z4⟩, fun i hi => absurd hi (Nat.not_lt_zero _), fun i _ _ _ hi => absurd hi (Nat.not_lt_zero _), fun i _ _ hi => absurd hi (Nat.not_lt_zero _), ⟨Nat.zero_le _, Nat.zero_le _, Nat.zero_le _⟩, fun i hi => absurd hi (Nat.not_lt_zero _), fun k hk => (by show (if k < 16 then 50 else 0) ≤ 99; rw [if_pos hk]; decide), fun k hk => (by show (if k < 120 then (-1 : Int32) else 0) = -1 ∨ _; rw [if_pos hk]; exact Or.inl rfl), fun k hk => (by show 1 ≤ (if k < 4 then 1000 else 0) ∧ (if k < 4 then 1000 else 0) ≤ 1000000; rw [if_pos hk]; decide), fun k hk => absurd hk (Nat.not_lt_zero _)⟩) (Nat.le_of_ble_eq_true rfl) (Nat.le_of_ble_eq_true rfl) d_B_init_86
