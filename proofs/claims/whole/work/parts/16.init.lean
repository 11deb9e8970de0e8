/-! Constructors of Steps, Packs, Part; the library's fill. -/
set_option maxHeartbeats 4000000 in
set_option maxRecDepth 100000 in
theorem ct_A_fill_II {l : Launch} {G : hG} (f : hm) (a n : Nat) (g : Nat → Int32) (x : Int32) (hn : n < 2 ^ 31) (o1 : f a = some (aI G n g)) : cv_ l G y_A_fill_II w_A_fill_II { frames := 0, cells := 0, slots := 0, locals := 0 } [.ref a, .int x] f (fun u => u = va_up f a (some (aI G n (fun j => if j < n then x else g j)))) := by
  intro sz
  refine h_ofW (cc := c_A_fill_II) (maxL := 4) (ret := none) (by decide) rfl (Nat.le_of_ble_eq_true rfl) ?_
  intro p e s m below meth c ls C hin hsz hP hl
  obtain ⟨hx, hb, hml, hown, -, -, -, -⟩ := id C
  subst hsz
  have hA0 : ∀ q, s.heap.size ≤ q → hA f s.heap.size q := hA.new
  have hS : va_S (hA f s.heap.size) s.heap s.heap [] := va_S.rf
  replace hl : lv_has ls 4 [(0, .ref a), (1, .int x)] := hl
  have loop : ∀ (d i : Nat) (fi : hm) (ls : Array Slot), n < i + d → i ≤ n → fi a = some (aI G n (fun j => if j < i then x else g j)) → (∀ q, q ≠ a → fi q = f q) → ∀ (H : Heap) (locs : List Loc), hH G (hA f s.heap.size) fi H → va_S (hA f s.heap.size) s.heap H locs → lv_has ls 4 [(2, .int (nI i)), (3, .int (nI n)), (1, .int x), (0, .ref a)] → W p l e { frames := 0, cells := 0, slots := 0, locals := 0 } s m #[.ref a, .int x] below meth c H locs 0 0 (MQ below (va_Qv (fun u => u = va_up f a (some (aI G n (fun j => if j < n then x else g j)))) (hB G (hA f s.heap.size)) (hA f s.heap.size)) #[.ref a, .int x] s 0 0 (hA f s.heap.size)) (F0 m 5 ls []) := by
    intro d
    induction d with
    | zero => intro i fi ls h1 h2; exact absurd h1 (by omega)
    | succ d ih =>
      intro i fi ls h1 h2 o1 hEi H locs hP hS hl
      refine lv_iload_n hx hb d_A_fill_II_5 rfl (lv_at hl 0 rfl) ?_
      refine lv_iload_n hx hb d_A_fill_II_6 rfl (lv_at hl 1 rfl) ?_
      refine lv_icmp_ge (tgt := 20) hx hb d_A_fill_II_7 (by decide) (fun c_7 => ?_) (fun c_7 => ?_)
      · have q_1 : i = n := by have := (nI_leI (by omega) (by omega)).mp c_7; omega
        exact g_vret C hP hS (by funext q; by_cases hq : q = a; rw [hq, o1, va_up_self, q_1]; rw [va_up_ne _ _ hq, hEi q hq]) (Nat.le_of_ble_eq_true rfl) (Nat.le_of_ble_eq_true rfl) d_A_fill_II_20
      · have q_1 : ¬ n ≤ i := fun z9 => c_7 ((nI_leI (by omega) (by omega)).mpr z9)
        refine lv_aload_n hx hb d_A_fill_II_10 rfl (lv_at hl 3 rfl) ?_
        refine lv_iload_n hx hb d_A_fill_II_11 rfl (lv_at hl 0 rfl) ?_
        refine lv_iload_n hx hb d_A_fill_II_12 rfl (lv_at hl 2 rfl) ?_
        refine g_iastN C hP hS o1 (j := i) (by omega) hn d_A_fill_II_13 (fun H locs hP hS => ?_)
        obtain ⟨g2, eg2⟩ : ∃ z99, z99 = upd (fun j => if j < i then x else g j) i x := ⟨_, rfl⟩
        rw [← eg2] at hP
        obtain ⟨f1, ef1⟩ : ∃ z99, z99 = va_up fi a (some (aI G n g2)) := ⟨_, rfl⟩
        replace hP : hH G (hA f s.heap.size) f1 H := by rw [ef1]; exact hP
        have o1_f1 : f1 a = some (aI G n g2) := by rw [ef1]; exact va_up_self _ _ _
        refine lv_iinc (v := nI (i + 1)) (lv' := [(2, .int (nI (i + 1))), (3, .int (nI n)), (1, .int x), (0, .ref a)]) hx hb d_A_fill_II_14 hl (k := 0) rfl (nI_1 i) (by decide) rfl (fun ls hl => ?_)
        refine lv_goto (tgt := 5) hx hb d_A_fill_II_17 (by decide) ?_
        exact ih (i + 1) f1 ls (by omega) (by omega) (by rw [o1_f1, eg2]; congr 2; funext j; unfold upd; by_cases hj : j = i; rw [if_pos hj, if_pos (by omega)]; rw [if_neg hj]; show (if j < i then x else g j) = _; by_cases h9 : j < i; rw [if_pos h9, if_pos (by omega)]; rw [if_neg h9, if_neg (by omega)]) (fun q hq => (hm_up ef1 hq).trans (hEi q hq)) H locs hP hS (lv_sub hl [0, 1, 2, 3] rfl)
  refine lv_iconst (v := 0) hx hb d_A_fill_II_0 (by decide) ?_
  refine lv_istore_n (lv' := [(2, .int 0), (0, .ref a), (1, .int x)]) hx hb d_A_fill_II_1 rfl hl (by decide) rfl (fun ls hl => ?_)
  refine lv_aload_n hx hb d_A_fill_II_2 rfl (lv_at hl 1 rfl) ?_
  refine g_alen C hP 0 (v := nI n) o1 rfl rfl d_A_fill_II_3 ?_
  refine lv_istore_n (lv' := [(3, .int (nI n)), (2, .int 0), (0, .ref a), (1, .int x)]) hx hb d_A_fill_II_4 rfl hl (by decide) rfl (fun ls hl => ?_)
  exact loop (n + 1) 0 f ls (by omega) (by omega) (by rw [o1]; simp) (fun q hq => rfl) _ _ hP hS (lv_sub hl [1, 0, 3, 2] rfl)
set_option maxHeartbeats 4000000 in
set_option maxRecDepth 100000 in
theorem ct_A_fill_JJ {l : Launch} {G : hG} (f : hm) (a n : Nat) (g : Nat → Int64) (x : Int64) (hn : n < 2 ^ 31) (o1 : f a = some (aL G n g)) : cv_ l G y_A_fill_JJ w_A_fill_JJ { frames := 0, cells := 0, slots := 0, locals := 0 } [.ref a, .long x] f (fun u => u = va_up f a (some (aL G n (fun j => if j < n then x else g j)))) := by
  intro sz
  refine h_ofW (cc := c_A_fill_JJ) (maxL := 5) (ret := none) (by decide) rfl (Nat.le_of_ble_eq_true rfl) ?_
  intro p e s m below meth c ls C hin hsz hP hl
  obtain ⟨hx, hb, hml, hown, -, -, -, -⟩ := id C
  subst hsz
  have hA0 : ∀ q, s.heap.size ≤ q → hA f s.heap.size q := hA.new
  have hS : va_S (hA f s.heap.size) s.heap s.heap [] := va_S.rf
  replace hl : lv_has ls 5 [(0, .ref a), (1, .long x)] := hl
  have loop : ∀ (d i : Nat) (fi : hm) (ls : Array Slot), n < i + d → i ≤ n → fi a = some (aL G n (fun j => if j < i then x else g j)) → (∀ q, q ≠ a → fi q = f q) → ∀ (H : Heap) (locs : List Loc), hH G (hA f s.heap.size) fi H → va_S (hA f s.heap.size) s.heap H locs → lv_has ls 5 [(3, .int (nI i)), (4, .int (nI n)), (1, .long x), (0, .ref a)] → W p l e { frames := 0, cells := 0, slots := 0, locals := 0 } s m #[.ref a, .long x] below meth c H locs 0 0 (MQ below (va_Qv (fun u => u = va_up f a (some (aL G n (fun j => if j < n then x else g j)))) (hB G (hA f s.heap.size)) (hA f s.heap.size)) #[.ref a, .long x] s 0 0 (hA f s.heap.size)) (F0 m 6 ls []) := by
    intro d
    induction d with
    | zero => intro i fi ls h1 h2; exact absurd h1 (by omega)
    | succ d ih =>
      intro i fi ls h1 h2 o1 hEi H locs hP hS hl
      refine lv_iload_n hx hb d_A_fill_JJ_6 rfl (lv_at hl 0 rfl) ?_
      refine lv_iload hx hb d_A_fill_JJ_7 (lv_at hl 1 rfl) ?_
      refine lv_icmp_ge (tgt := 22) hx hb d_A_fill_JJ_9 (by decide) (fun c_9 => ?_) (fun c_9 => ?_)
      · have q_1 : i = n := by have := (nI_leI (by omega) (by omega)).mp c_9; omega
        exact g_vret C hP hS (by funext q; by_cases hq : q = a; rw [hq, o1, va_up_self, q_1]; rw [va_up_ne _ _ hq, hEi q hq]) (Nat.le_of_ble_eq_true rfl) (Nat.le_of_ble_eq_true rfl) d_A_fill_JJ_22
      · have q_1 : ¬ n ≤ i := fun z9 => c_9 ((nI_leI (by omega) (by omega)).mpr z9)
        refine lv_aload_n hx hb d_A_fill_JJ_12 rfl (lv_at hl 3 rfl) ?_
        refine lv_iload_n hx hb d_A_fill_JJ_13 rfl (lv_at hl 0 rfl) ?_
        refine lv_lload_n hx hb d_A_fill_JJ_14 rfl (lv_at hl 2 rfl) ?_
        refine g_lastN C hP hS o1 (j := i) (by omega) hn d_A_fill_JJ_15 (fun H locs hP hS => ?_)
        obtain ⟨g2, eg2⟩ : ∃ z99, z99 = vp_updL (fun j => if j < i then x else g j) i x := ⟨_, rfl⟩
        rw [← eg2] at hP
        obtain ⟨f1, ef1⟩ : ∃ z99, z99 = va_up fi a (some (aL G n g2)) := ⟨_, rfl⟩
        replace hP : hH G (hA f s.heap.size) f1 H := by rw [ef1]; exact hP
        have o1_f1 : f1 a = some (aL G n g2) := by rw [ef1]; exact va_up_self _ _ _
        refine lv_iinc (v := nI (i + 1)) (lv' := [(3, .int (nI (i + 1))), (4, .int (nI n)), (1, .long x), (0, .ref a)]) hx hb d_A_fill_JJ_16 hl (k := 0) rfl (nI_1 i) (by decide) rfl (fun ls hl => ?_)
        refine lv_goto (tgt := 6) hx hb d_A_fill_JJ_19 (by decide) ?_
        exact ih (i + 1) f1 ls (by omega) (by omega) (by rw [o1_f1, eg2]; congr 2; funext j; unfold vp_updL; by_cases hj : j = i; rw [if_pos hj, if_pos (by omega)]; rw [if_neg hj]; show (if j < i then x else g j) = _; by_cases h9 : j < i; rw [if_pos h9, if_pos (by omega)]; rw [if_neg h9, if_neg (by omega)]) (fun q hq => (hm_up ef1 hq).trans (hEi q hq)) H locs hP hS (lv_sub hl [0, 1, 2, 3] rfl)
  refine lv_iconst (v := 0) hx hb d_A_fill_JJ_0 (by decide) ?_
  refine lv_istore_n (lv' := [(3, .int 0), (0, .ref a), (1, .long x)]) hx hb d_A_fill_JJ_1 rfl hl (by decide) rfl (fun ls hl => ?_)
  refine lv_aload_n hx hb d_A_fill_JJ_2 rfl (lv_at hl 1 rfl) ?_
  refine g_alen C hP 1 (v := nI n) o1 rfl rfl d_A_fill_JJ_3 ?_
  refine lv_istore (lv' := [(4, .int (nI n)), (3, .int 0), (0, .ref a), (1, .long x)]) hx hb d_A_fill_JJ_4 hl (by decide) rfl (fun ls hl => ?_)
  exact loop (n + 1) 0 f ls (by omega) (by omega) (by rw [o1]; simp) (fun q hq => rfl) _ _ hP hS (lv_sub hl [1, 0, 3, 2] rfl)
set_option maxHeartbeats 4000000 in
set_option maxRecDepth 100000 in
theorem ct_S_init {l : Launch} {G : hG} (f : hm) (h : Nat) (o1 : f h = some (ob 2 [.null, .null, .null, .int 0])) : cv_ l G y_S_init w_S_init { frames := 1, cells := 3, slots := 24, locals := 20 } [.ref h] f (fun u => ∃ b am kd, sv G u h b am kd 0 (fun _ => 0) (fun _ => 0) (fun _ => 0) ∧ b ≠ am ∧ f b = none ∧ f am = none ∧ f kd = none ∧ hE [h, b, am, kd] f u) := by
  intro sz
  refine h_ofW (cc := c_S_init) (maxL := 1) (ret := none) (by decide) rfl (Nat.le_of_ble_eq_true rfl) ?_
  intro p e s m below meth c ls C hin hsz hP hl
  obtain ⟨hx, hb, hml, hown, -, -, -, -⟩ := id C
  subst hsz
  have hA0 : ∀ q, s.heap.size ≤ q → hA f s.heap.size q := hA.new
  have hS : va_S (hA f s.heap.size) s.heap s.heap [] := va_S.rf
  replace hl : lv_has ls 1 [(0, .ref h)] := hl
  refine lv_aload_n hx hb d_S_init_0 rfl (lv_at hl 0 rfl) ?_
  refine g_objI C hl.1 wd_155 wd_20 wd_21 d_S_init_1 (Nat.le_of_ble_eq_true rfl) (Nat.le_of_ble_eq_true rfl) ?_
  refine lv_aload_n hx hb d_S_init_4 rfl (lv_at hl 0 rfl) ?_
  refine lv_bipush (v := 8) hx hb d_S_init_5 (by decide) ?_
  refine g_newL C wd_57 hP hS hA0 8 (by decide) (by decide) (by decide) (Nat.le_of_ble_eq_true rfl) (Nat.le_of_ble_eq_true rfl) d_S_init_7 (fun q1 H hnq1 hP hS => ?_)
  obtain ⟨f2, ef2⟩ : ∃ z99, z99 = va_up f q1 (some (aL G 8 (fun _ => 0))) := ⟨_, rfl⟩
  replace hP : hH G (hA f s.heap.size) f2 H := by rw [ef2]; exact hP
  have o1_f2 := (hm_up (v := some (aL G 8 (fun _ => 0))) ef2 (hm_nn o1 hnq1)).trans o1
  have o_q1_f2 : f2 q1 = some (aL G 8 (fun _ => 0)) := by rw [ef2]; exact va_up_self _ _ _
  refine g_putF C i_S t_S t_S_ok n_S hP hS o1_f2 rfl 0 (by decide) wd_156 rfl rfl hin rfl rfl (rfl) (Nat.le_of_ble_eq_true rfl) d_S_init_9 (fun H locs hP hS => ?_)
  obtain ⟨f3, ef3⟩ : ∃ z99, z99 = va_up f2 h (some (ob 2 [.ref q1, .null, .null, .int 0])) := ⟨_, rfl⟩
  replace hP : hH G (hA f s.heap.size) f3 H := by rw [ef3]; exact hP
  have o1_f3 : f3 h = some (ob 2 [.ref q1, .null, .null, .int 0]) := by rw [ef3]; exact va_up_self _ _ _
  have o_q1_f3 := (hm_up (v := some (ob 2 [.ref q1, .null, .null, .int 0])) ef3 (hm_ne o_q1_f2 o1_f2 (by simp))).trans o_q1_f2
  refine lv_aload_n hx hb d_S_init_12 rfl (lv_at hl 0 rfl) ?_
  refine lv_bipush (v := 8) hx hb d_S_init_13 (by decide) ?_
  refine g_newL C wd_57 hP hS hA0 8 (by decide) (by decide) (by decide) (Nat.le_of_ble_eq_true rfl) (Nat.le_of_ble_eq_true rfl) d_S_init_15 (fun q4 H hnq4 hP hS => ?_)
  obtain ⟨f5, ef5⟩ : ∃ z99, z99 = va_up f3 q4 (some (aL G 8 (fun _ => 0))) := ⟨_, rfl⟩
  replace hP : hH G (hA f s.heap.size) f5 H := by rw [ef5]; exact hP
  have o1_f5 := (hm_up (v := some (aL G 8 (fun _ => 0))) ef5 (hm_nn o1_f3 hnq4)).trans o1_f3
  have o_q1_f5 := (hm_up (v := some (aL G 8 (fun _ => 0))) ef5 (hm_nn o_q1_f3 hnq4)).trans o_q1_f3
  have o_q4_f5 : f5 q4 = some (aL G 8 (fun _ => 0)) := by rw [ef5]; exact va_up_self _ _ _
  refine g_putF C i_S t_S t_S_ok n_S hP hS o1_f5 rfl 1 (by decide) wd_158 rfl rfl hin rfl rfl (rfl) (Nat.le_of_ble_eq_true rfl) d_S_init_17 (fun H locs hP hS => ?_)
  obtain ⟨f6, ef6⟩ : ∃ z99, z99 = va_up f5 h (some (ob 2 [.ref q1, .ref q4, .null, .int 0])) := ⟨_, rfl⟩
  replace hP : hH G (hA f s.heap.size) f6 H := by rw [ef6]; exact hP
  have o1_f6 : f6 h = some (ob 2 [.ref q1, .ref q4, .null, .int 0]) := by rw [ef6]; exact va_up_self _ _ _
  have o_q1_f6 := (hm_up (v := some (ob 2 [.ref q1, .ref q4, .null, .int 0])) ef6 (hm_ne o_q1_f5 o1_f5 (by simp))).trans o_q1_f5
  have o_q4_f6 := (hm_up (v := some (ob 2 [.ref q1, .ref q4, .null, .int 0])) ef6 (hm_ne o_q4_f5 o1_f5 (by simp))).trans o_q4_f5
  refine lv_aload_n hx hb d_S_init_20 rfl (lv_at hl 0 rfl) ?_
  refine lv_bipush (v := 8) hx hb d_S_init_21 (by decide) ?_
  refine g_newI C wd_56 hP hS hA0 8 (by decide) (by decide) (by decide) (Nat.le_of_ble_eq_true rfl) (Nat.le_of_ble_eq_true rfl) d_S_init_23 (fun q7 H hnq7 hP hS => ?_)
  obtain ⟨f8, ef8⟩ : ∃ z99, z99 = va_up f6 q7 (some (aI G 8 (fun _ => 0))) := ⟨_, rfl⟩
  replace hP : hH G (hA f s.heap.size) f8 H := by rw [ef8]; exact hP
  have o1_f8 := (hm_up (v := some (aI G 8 (fun _ => 0))) ef8 (hm_nn o1_f6 hnq7)).trans o1_f6
  have o_q1_f8 := (hm_up (v := some (aI G 8 (fun _ => 0))) ef8 (hm_nn o_q1_f6 hnq7)).trans o_q1_f6
  have o_q4_f8 := (hm_up (v := some (aI G 8 (fun _ => 0))) ef8 (hm_nn o_q4_f6 hnq7)).trans o_q4_f6
  have o_q7_f8 : f8 q7 = some (aI G 8 (fun _ => 0)) := by rw [ef8]; exact va_up_self _ _ _
  refine g_putF C i_S t_S t_S_ok n_S hP hS o1_f8 rfl 2 (by decide) wd_160 rfl rfl hin rfl rfl (rfl) (Nat.le_of_ble_eq_true rfl) d_S_init_25 (fun H locs hP hS => ?_)
  obtain ⟨f9, ef9⟩ : ∃ z99, z99 = va_up f8 h (some (ob 2 [.ref q1, .ref q4, .ref q7, .int 0])) := ⟨_, rfl⟩
  replace hP : hH G (hA f s.heap.size) f9 H := by rw [ef9]; exact hP
  have o1_f9 : f9 h = some (ob 2 [.ref q1, .ref q4, .ref q7, .int 0]) := by rw [ef9]; exact va_up_self _ _ _
  have o_q1_f9 := (hm_up (v := some (ob 2 [.ref q1, .ref q4, .ref q7, .int 0])) ef9 (hm_ne o_q1_f8 o1_f8 (by simp))).trans o_q1_f8
  have o_q4_f9 := (hm_up (v := some (ob 2 [.ref q1, .ref q4, .ref q7, .int 0])) ef9 (hm_ne o_q4_f8 o1_f8 (by simp))).trans o_q4_f8
  have o_q7_f9 := (hm_up (v := some (ob 2 [.ref q1, .ref q4, .ref q7, .int 0])) ef9 (hm_ne o_q7_f8 o1_f8 (by simp))).trans o_q7_f8
  refine lv_aload_n hx hb d_S_init_28 rfl (lv_at hl 0 rfl) ?_
  refine lv_iconst (v := 0) hx hb d_S_init_29 (by decide) ?_
  refine g_put C i_S t_S t_S_ok n_S hP hS o1_f9 rfl 3 (by decide) wd_163 rfl rfl rfl (rfl) (Nat.le_of_ble_eq_true rfl) d_S_init_30 (fun H locs hP hS => ?_)
  obtain ⟨f10, ef10⟩ : ∃ z99, z99 = va_up f9 h (some (ob 2 [.ref q1, .ref q4, .ref q7, .int 0])) := ⟨_, rfl⟩
  replace hP : hH G (hA f s.heap.size) f10 H := by rw [ef10]; exact hP
  have o1_f10 : f10 h = some (ob 2 [.ref q1, .ref q4, .ref q7, .int 0]) := by rw [ef10]; exact va_up_self _ _ _
  have o_q1_f10 := (hm_up (v := some (ob 2 [.ref q1, .ref q4, .ref q7, .int 0])) ef10 (hm_ne o_q1_f9 o1_f9 (by simp))).trans o_q1_f9
  have o_q4_f10 := (hm_up (v := some (ob 2 [.ref q1, .ref q4, .ref q7, .int 0])) ef10 (hm_ne o_q4_f9 o1_f9 (by simp))).trans o_q4_f9
  have o_q7_f10 := (hm_up (v := some (ob 2 [.ref q1, .ref q4, .ref q7, .int 0])) ef10 (hm_ne o_q7_f9 o1_f9 (by simp))).trans o_q7_f9
  exact g_vret C hP hS (⟨q1, q4, q7, ⟨o1_f10, o_q1_f10, o_q4_f10, o_q7_f10⟩, hm_nn o_q1_f3 hnq4, hnq1, (hm_nb ef2 (hm_nb ef3 hnq4 (by simp)).2 (by simp)).2, (hm_nb ef2 (hm_nb ef3 (hm_nb ef5 (hm_nb ef6 hnq7 (by simp)).2 (by simp)).2 (by simp)).2 (by simp)).2, by rw [ef10]; refine hE.up ?_ (by simp); rw [ef9]; refine hE.up ?_ (by simp); rw [ef8]; refine hE.up ?_ (by simp); rw [ef6]; refine hE.up ?_ (by simp); rw [ef5]; refine hE.up ?_ (by simp); rw [ef3]; refine hE.up ?_ (by simp); rw [ef2]; refine hE.up ?_ (by simp); exact hE.rf⟩) (Nat.le_of_ble_eq_true rfl) (Nat.le_of_ble_eq_true rfl) d_S_init_33
set_option maxHeartbeats 4000000 in
set_option maxRecDepth 100000 in
theorem ct_K_init {l : Launch} {G : hG} (f : hm) (h : Nat) (o1 : f h = some (ob 0 [.null, .int 0, .null])) : cv_ l G y_K_init w_K_init { frames := 1, cells := 1, slots := 6, locals := 20 } [.ref h] f (fun u => ∃ z, u h = some (ob 0 [.ref z, .int 0, .null]) ∧ u z = some (aI G 6 (fun _ => 0)) ∧ f z = none ∧ hE [h, z] f u) := by
  intro sz
  refine h_ofW (cc := c_K_init) (maxL := 1) (ret := none) (by decide) rfl (Nat.le_of_ble_eq_true rfl) ?_
  intro p e s m below meth c ls C hin hsz hP hl
  obtain ⟨hx, hb, hml, hown, -, -, -, -⟩ := id C
  subst hsz
  have hA0 : ∀ q, s.heap.size ≤ q → hA f s.heap.size q := hA.new
  have hS : va_S (hA f s.heap.size) s.heap s.heap [] := va_S.rf
  replace hl : lv_has ls 1 [(0, .ref h)] := hl
  refine lv_aload_n hx hb d_K_init_0 rfl (lv_at hl 0 rfl) ?_
  refine g_objI C hl.1 wd_179 wd_20 wd_21 d_K_init_1 (Nat.le_of_ble_eq_true rfl) (Nat.le_of_ble_eq_true rfl) ?_
  refine lv_aload_n hx hb d_K_init_4 rfl (lv_at hl 0 rfl) ?_
  refine lv_bipush (v := 6) hx hb d_K_init_5 (by decide) ?_
  refine g_newI C wd_56 hP hS hA0 6 (by decide) (by decide) (by decide) (Nat.le_of_ble_eq_true rfl) (Nat.le_of_ble_eq_true rfl) d_K_init_7 (fun q1 H hnq1 hP hS => ?_)
  obtain ⟨f2, ef2⟩ : ∃ z99, z99 = va_up f q1 (some (aI G 6 (fun _ => 0))) := ⟨_, rfl⟩
  replace hP : hH G (hA f s.heap.size) f2 H := by rw [ef2]; exact hP
  have o1_f2 := (hm_up (v := some (aI G 6 (fun _ => 0))) ef2 (hm_nn o1 hnq1)).trans o1
  have o_q1_f2 : f2 q1 = some (aI G 6 (fun _ => 0)) := by rw [ef2]; exact va_up_self _ _ _
  refine g_putF C i_K t_K t_K_ok n_K hP hS o1_f2 rfl 0 (by decide) wd_180 rfl rfl hin rfl rfl (rfl) (Nat.le_of_ble_eq_true rfl) d_K_init_9 (fun H locs hP hS => ?_)
  obtain ⟨f3, ef3⟩ : ∃ z99, z99 = va_up f2 h (some (ob 0 [.ref q1, .int 0, .null])) := ⟨_, rfl⟩
  replace hP : hH G (hA f s.heap.size) f3 H := by rw [ef3]; exact hP
  have o1_f3 : f3 h = some (ob 0 [.ref q1, .int 0, .null]) := by rw [ef3]; exact va_up_self _ _ _
  have o_q1_f3 := (hm_up (v := some (ob 0 [.ref q1, .int 0, .null])) ef3 (hm_ne o_q1_f2 o1_f2 (by simp))).trans o_q1_f2
  refine lv_aload_n hx hb d_K_init_12 rfl (lv_at hl 0 rfl) ?_
  refine lv_iconst (v := 0) hx hb d_K_init_13 (by decide) ?_
  refine g_put C i_K t_K t_K_ok n_K hP hS o1_f3 rfl 1 (by decide) wd_181 rfl rfl rfl (rfl) (Nat.le_of_ble_eq_true rfl) d_K_init_14 (fun H locs hP hS => ?_)
  obtain ⟨f4, ef4⟩ : ∃ z99, z99 = va_up f3 h (some (ob 0 [.ref q1, .int 0, .null])) := ⟨_, rfl⟩
  replace hP : hH G (hA f s.heap.size) f4 H := by rw [ef4]; exact hP
  have o1_f4 : f4 h = some (ob 0 [.ref q1, .int 0, .null]) := by rw [ef4]; exact va_up_self _ _ _
  have o_q1_f4 := (hm_up (v := some (ob 0 [.ref q1, .int 0, .null])) ef4 (hm_ne o_q1_f3 o1_f3 (by simp))).trans o_q1_f3
  refine lv_aload_n hx hb d_K_init_17 rfl (lv_at hl 0 rfl) ?_
  refine lv_null hx hb d_K_init_18 ?_
  refine g_put C i_K t_K t_K_ok n_K hP hS o1_f4 rfl 2 (by decide) wd_182 rfl rfl rfl (rfl) (Nat.le_of_ble_eq_true rfl) d_K_init_19 (fun H locs hP hS => ?_)
  obtain ⟨f5, ef5⟩ : ∃ z99, z99 = va_up f4 h (some (ob 0 [.ref q1, .int 0, .null])) := ⟨_, rfl⟩
  replace hP : hH G (hA f s.heap.size) f5 H := by rw [ef5]; exact hP
  have o1_f5 : f5 h = some (ob 0 [.ref q1, .int 0, .null]) := by rw [ef5]; exact va_up_self _ _ _
  have o_q1_f5 := (hm_up (v := some (ob 0 [.ref q1, .int 0, .null])) ef5 (hm_ne o_q1_f4 o1_f4 (by simp))).trans o_q1_f4
  exact g_vret C hP hS (⟨q1, o1_f5, o_q1_f5, hnq1, by rw [ef5]; refine hE.up ?_ (by simp); rw [ef4]; refine hE.up ?_ (by simp); rw [ef3]; refine hE.up ?_ (by simp); rw [ef2]; refine hE.up ?_ (by simp); exact hE.rf⟩) (Nat.le_of_ble_eq_true rfl) (Nat.le_of_ble_eq_true rfl) d_K_init_22
/-- different addresses, all of them known -/
def dm (f : hm) (l : List Nat) : Prop := l.Nodup ∧ ∀ x ∈ l, (f x).isSome = true
theorem dm.one {f : hm} {a : Nat} {e : va_E} (h : f a = some e) : dm f [a] := ⟨by simp, fun x hx => by rw [List.mem_singleton.mp hx, h]; rfl⟩
theorem dm.up {f f1 : hm} {l : List Nat} {a : Nat} {e : va_E} (e1 : f1 = va_up f a (some e)) (h : dm f l) : dm f1 l := ⟨h.1, fun x hx => by
  rw [e1]
  by_cases hq : x = a
  · rw [hq, va_up_self]; rfl
  · rw [va_up_ne _ _ hq]; exact h.2 x hx⟩
theorem dm.ni {f : hm} {l : List Nat} {q : Nat} (h : dm f l) (hq : f q = none) : q ∉ l := fun hm => by have := h.2 q hm; rw [hq] at this; cases this
theorem dm.nw {f f1 : hm} {l : List Nat} {q : Nat} {e : va_E} (e1 : f1 = va_up f q (some e)) (h : dm f l) (hq : f q = none) : dm f1 (q :: l) :=
  ⟨List.nodup_cons.mpr ⟨h.ni hq, h.1⟩, fun x hx => (List.mem_cons.mp hx).elim (fun z => by rw [z, e1, va_up_self]; rfl) ((dm.up e1 h).2 x)⟩
theorem dm.keep {f u : hm} {l S : List Nat} (h : dm f l) (hE1 : hE S f u) (hs : ∀ x ∈ S, (u x).isSome = true) : dm u l := ⟨h.1, fun x hx => by
  by_cases hq : x ∈ S
  · exact hs x hq
  · rw [hE1 x hq]; exact h.2 x hx⟩
theorem dm.add {f u : hm} {l : List Nat} {q : Nat} (h : dm u l) (hq : q ∉ l) (hs : (u q).isSome = true) : dm u (q :: l) := ⟨List.nodup_cons.mpr ⟨hq, h.1⟩, fun x hx => (List.mem_cons.mp hx).elim (fun z => by rw [z]; exact hs) (h.2 x)⟩
theorem nd_rev {l : List Nat} (h : l.reverse.Nodup) : l.Nodup := by
  have h2 : l.reverse.reverse.Nodup := List.pairwise_reverse.mpr (h.imp fun hne => Ne.symm hne)
  rwa [List.reverse_reverse] at h2
theorem nd_inj : ∀ (l : List Nat), l.Nodup → ∀ i j, i < l.length → j < l.length → l.getD i 0 = l.getD j 0 → i = j
  | [], _, i, j, hi, _, _ => absurd hi (Nat.not_lt_zero i)
  | a :: l, h, 0, 0, _, _, _ => rfl
  | a :: l, h, 0, j + 1, _, hj, e => by
      have hj2 : j < l.length := by simpa using hj
      have e2 : a = l[j] := by simpa [hj2] using e
      exact absurd (e2 ▸ List.getElem_mem hj2) (List.nodup_cons.mp h).1
  | a :: l, h, i + 1, 0, hi, _, e => by
      have hi2 : i < l.length := by simpa using hi
      have e2 : l[i] = a := by simpa [hi2] using e
      exact absurd (e2 ▸ List.getElem_mem hi2) (List.nodup_cons.mp h).1
  | a :: l, h, i + 1, j + 1, hi, hj, e => by
      have := nd_inj l (List.nodup_cons.mp h).2 i j (by simpa using hi) (by simpa using hj) (by simpa using e)
      omega
theorem ni_4 {x a b c d : Nat} (h1 : x ≠ a) (h2 : x ≠ b) (h3 : x ≠ c) (h4 : x ≠ d) : x ∉ [a, b, c, d] := by simp [h1, h2, h3, h4]
theorem ni_2 {x a b : Nat} (h1 : x ≠ a) (h2 : x ≠ b) : x ∉ [a, b] := by simp [h1, h2]
theorem nn_4 {f u : hm} {a b c d : Nat} {q : Nat} (h : hE [a, b, c, d] f u) (hu : ∀ x ∈ [a, b, c, d], (u x).isSome = true) (hq : u q = none) : f q = none := by
  rw [← h q (fun z => by have := hu q z; rw [hq] at this; cases this)]; exact hq
theorem nn_2 {f u : hm} {a b : Nat} {q : Nat} (h : hE [a, b] f u) (hu : ∀ x ∈ [a, b], (u x).isSome = true) (hq : u q = none) : f q = none := by
  rw [← h q (fun z => by have := hu q z; rw [hq] at this; cases this)]; exact hq
theorem is_4 {u : hm} {a b c d : Nat} {e1 e2 e3 e4 : va_E} (h1 : u a = some e1) (h2 : u b = some e2) (h3 : u c = some e3) (h4 : u d = some e4) : ∀ x ∈ [a, b, c, d], (u x).isSome = true := by
  intro x hx
  simp only [List.mem_cons, List.not_mem_nil, or_false] at hx
  rcases hx with rfl | rfl | rfl | rfl
  · rw [h1]; rfl
  · rw [h2]; rfl
  · rw [h3]; rfl
  · rw [h4]; rfl
theorem is_2 {u : hm} {a b : Nat} {e1 e2 : va_E} (h1 : u a = some e1) (h2 : u b = some e2) : ∀ x ∈ [a, b], (u x).isSome = true := by
  intro x hx
  simp only [List.mem_cons, List.not_mem_nil, or_false] at hx
  rcases hx with rfl | rfl
  · rw [h1]; rfl
  · rw [h2]; rfl
/-- a part: its own cell and the twelve that go with it; the sums of its packs lie elsewhere -/
def pv (G : hG) (f : hm) (a : Nat → Nat) (num mk pcs : Nat) (AB BE : Nat → Int64) (n1 : Nat) (B1 A1 : Nat → Int64) (K1 : Nat → Int32) (n2 : Nat) (B2 A2 : Nat → Int64) (K2 : Nat → Int32) (np : Nat) (PK : Nat → Int32) (sm : Option Nat) : Prop :=
  f (a 0) = some (ob 1 [.int (nI num), .int (nI mk), .int (nI pcs), .ref (a 1), .ref (a 2), .ref (a 3), .ref (a 7), .ref (a 11)]) ∧ f (a 1) = some (aL G 12 AB) ∧ f (a 2) = some (aL G 12 BE) ∧ sv G f (a 3) (a 4) (a 5) (a 6) n1 B1 A1 K1 ∧ sv G f (a 7) (a 8) (a 9) (a 10) n2 B2 A2 K2 ∧ f (a 11) = some (ob 0 [.ref (a 12), .int (nI np), va_rf sm]) ∧ f (a 12) = some (aI G 6 PK)
set_option maxHeartbeats 4000000 in
set_option maxRecDepth 100000 in
theorem ct_P_init {l : Launch} {G : hG} (f : hm) (h num mk : Nat) (o1 : f h = some (ob 1 [.int 0, .int 0, .int 0, .null, .null, .null, .null, .null])) : cv_ l G y_P_init w_P_init { frames := 2, cells := 12, slots := 96, locals := 60 } [.ref h, .int (nI num), .int (nI mk)] f (fun u => ∃ a : Nat → Nat, a 0 = h ∧ (∀ i j, i < 13 → j < 13 → a i = a j → i = j) ∧ (∀ i, 0 < i → i < 13 → f (a i) = none) ∧ pv G u a num mk 0 (fun _ => 0) (fun _ => 0) 0 (fun _ => 0) (fun _ => 0) (fun _ => 0) 0 (fun _ => 0) (fun _ => 0) (fun _ => 0) 0 (fun _ => 0) none ∧ (∀ q, (∀ i, i < 13 → q ≠ a i) → u q = f q)) := by
  intro sz
  refine h_ofW (cc := c_P_init) (maxL := 3) (ret := none) (by decide) rfl (Nat.le_of_ble_eq_true rfl) ?_
  intro p e s m below meth c ls C hin hsz hP hl
  obtain ⟨hx, hb, hml, hown, -, -, -, -⟩ := id C
  subst hsz
  have hA0 : ∀ q, s.heap.size ≤ q → hA f s.heap.size q := hA.new
  have hS : va_S (hA f s.heap.size) s.heap s.heap [] := va_S.rf
  replace hl : lv_has ls 3 [(0, .ref h), (1, .int (nI num)), (2, .int (nI mk))] := hl
  refine lv_aload_n hx hb d_P_init_0 rfl (lv_at hl 0 rfl) ?_
  refine g_objI C hl.1 wd_149 wd_20 wd_21 d_P_init_1 (Nat.le_of_ble_eq_true rfl) (Nat.le_of_ble_eq_true rfl) ?_
  refine lv_aload_n hx hb d_P_init_4 rfl (lv_at hl 0 rfl) ?_
  refine lv_iload_n hx hb d_P_init_5 rfl (lv_at hl 1 rfl) ?_
  refine g_putF C i_P t_P t_P_ok n_P hP hS o1 rfl 0 (by decide) wd_190 rfl rfl hin rfl rfl (rfl) (Nat.le_of_ble_eq_true rfl) d_P_init_6 (fun H locs hP hS => ?_)
  obtain ⟨f1, ef1⟩ : ∃ z99, z99 = va_up f h (some (ob 1 [.int (nI num), .int 0, .int 0, .null, .null, .null, .null, .null])) := ⟨_, rfl⟩
  replace hP : hH G (hA f s.heap.size) f1 H := by rw [ef1]; exact hP
  have o1_f1 : f1 h = some (ob 1 [.int (nI num), .int 0, .int 0, .null, .null, .null, .null, .null]) := by rw [ef1]; exact va_up_self _ _ _
  refine lv_aload_n hx hb d_P_init_9 rfl (lv_at hl 0 rfl) ?_
  refine lv_iload_n hx hb d_P_init_10 rfl (lv_at hl 2 rfl) ?_
  refine g_putF C i_P t_P t_P_ok n_P hP hS o1_f1 rfl 1 (by decide) wd_192 rfl rfl hin rfl rfl (rfl) (Nat.le_of_ble_eq_true rfl) d_P_init_11 (fun H locs hP hS => ?_)
  obtain ⟨f2, ef2⟩ : ∃ z99, z99 = va_up f1 h (some (ob 1 [.int (nI num), .int (nI mk), .int 0, .null, .null, .null, .null, .null])) := ⟨_, rfl⟩
  replace hP : hH G (hA f s.heap.size) f2 H := by rw [ef2]; exact hP
  have o1_f2 : f2 h = some (ob 1 [.int (nI num), .int (nI mk), .int 0, .null, .null, .null, .null, .null]) := by rw [ef2]; exact va_up_self _ _ _
  refine lv_aload_n hx hb d_P_init_14 rfl (lv_at hl 0 rfl) ?_
  refine lv_iconst (v := 0) hx hb d_P_init_15 (by decide) ?_
  refine g_put C i_P t_P t_P_ok n_P hP hS o1_f2 rfl 2 (by decide) wd_194 rfl rfl rfl (rfl) (Nat.le_of_ble_eq_true rfl) d_P_init_16 (fun H locs hP hS => ?_)
  obtain ⟨f3, ef3⟩ : ∃ z99, z99 = va_up f2 h (some (ob 1 [.int (nI num), .int (nI mk), .int 0, .null, .null, .null, .null, .null])) := ⟨_, rfl⟩
  replace hP : hH G (hA f s.heap.size) f3 H := by rw [ef3]; exact hP
  have o1_f3 : f3 h = some (ob 1 [.int (nI num), .int (nI mk), .int 0, .null, .null, .null, .null, .null]) := by rw [ef3]; exact va_up_self _ _ _
  refine lv_aload_n hx hb d_P_init_19 rfl (lv_at hl 0 rfl) ?_
  refine lv_bipush (v := 12) hx hb d_P_init_20 (by decide) ?_
  refine g_newL C wd_57 hP hS hA0 12 (by decide) (by decide) (by decide) (Nat.le_of_ble_eq_true rfl) (Nat.le_of_ble_eq_true rfl) d_P_init_22 (fun q4 H hnq4 hP hS => ?_)
  obtain ⟨f5, ef5⟩ : ∃ z99, z99 = va_up f3 q4 (some (aL G 12 (fun _ => 0))) := ⟨_, rfl⟩
  replace hP : hH G (hA f s.heap.size) f5 H := by rw [ef5]; exact hP
  have o1_f5 := (hm_up (v := some (aL G 12 (fun _ => 0))) ef5 (hm_nn o1_f3 hnq4)).trans o1_f3
  have o_q4_f5 : f5 q4 = some (aL G 12 (fun _ => 0)) := by rw [ef5]; exact va_up_self _ _ _
  refine g_putF C i_P t_P t_P_ok n_P hP hS o1_f5 rfl 3 (by decide) wd_196 rfl rfl hin rfl rfl (rfl) (Nat.le_of_ble_eq_true rfl) d_P_init_24 (fun H locs hP hS => ?_)
  obtain ⟨f6, ef6⟩ : ∃ z99, z99 = va_up f5 h (some (ob 1 [.int (nI num), .int (nI mk), .int 0, .ref q4, .null, .null, .null, .null])) := ⟨_, rfl⟩
  replace hP : hH G (hA f s.heap.size) f6 H := by rw [ef6]; exact hP
  have o1_f6 : f6 h = some (ob 1 [.int (nI num), .int (nI mk), .int 0, .ref q4, .null, .null, .null, .null]) := by rw [ef6]; exact va_up_self _ _ _
  have o_q4_f6 := (hm_up (v := some (ob 1 [.int (nI num), .int (nI mk), .int 0, .ref q4, .null, .null, .null, .null])) ef6 (hm_ne o_q4_f5 o1_f5 (by simp))).trans o_q4_f5
  refine lv_aload_n hx hb d_P_init_27 rfl (lv_at hl 0 rfl) ?_
  refine lv_bipush (v := 12) hx hb d_P_init_28 (by decide) ?_
  refine g_newL C wd_57 hP hS hA0 12 (by decide) (by decide) (by decide) (Nat.le_of_ble_eq_true rfl) (Nat.le_of_ble_eq_true rfl) d_P_init_30 (fun q7 H hnq7 hP hS => ?_)
  obtain ⟨f8, ef8⟩ : ∃ z99, z99 = va_up f6 q7 (some (aL G 12 (fun _ => 0))) := ⟨_, rfl⟩
  replace hP : hH G (hA f s.heap.size) f8 H := by rw [ef8]; exact hP
  have o1_f8 := (hm_up (v := some (aL G 12 (fun _ => 0))) ef8 (hm_nn o1_f6 hnq7)).trans o1_f6
  have o_q4_f8 := (hm_up (v := some (aL G 12 (fun _ => 0))) ef8 (hm_nn o_q4_f6 hnq7)).trans o_q4_f6
  have o_q7_f8 : f8 q7 = some (aL G 12 (fun _ => 0)) := by rw [ef8]; exact va_up_self _ _ _
  refine g_putF C i_P t_P t_P_ok n_P hP hS o1_f8 rfl 4 (by decide) wd_198 rfl rfl hin rfl rfl (rfl) (Nat.le_of_ble_eq_true rfl) d_P_init_32 (fun H locs hP hS => ?_)
  obtain ⟨f9, ef9⟩ : ∃ z99, z99 = va_up f8 h (some (ob 1 [.int (nI num), .int (nI mk), .int 0, .ref q4, .ref q7, .null, .null, .null])) := ⟨_, rfl⟩
  replace hP : hH G (hA f s.heap.size) f9 H := by rw [ef9]; exact hP
  have o1_f9 : f9 h = some (ob 1 [.int (nI num), .int (nI mk), .int 0, .ref q4, .ref q7, .null, .null, .null]) := by rw [ef9]; exact va_up_self _ _ _
  have o_q4_f9 := (hm_up (v := some (ob 1 [.int (nI num), .int (nI mk), .int 0, .ref q4, .ref q7, .null, .null, .null])) ef9 (hm_ne o_q4_f8 o1_f8 (by simp))).trans o_q4_f8
  have o_q7_f9 := (hm_up (v := some (ob 1 [.int (nI num), .int (nI mk), .int 0, .ref q4, .ref q7, .null, .null, .null])) ef9 (hm_ne o_q7_f8 o1_f8 (by simp))).trans o_q7_f8
  refine lv_aload_n hx hb d_P_init_35 rfl (lv_at hl 0 rfl) ?_
  refine g_new C i_S t_S t_S_ok wd_150 wd_151 wd_9 hP hS hA0 (ci := 2) (fs := [.null, .null, .null, .int 0]) rfl (by decide) (Nat.le_of_ble_eq_true rfl) (Nat.le_of_ble_eq_true rfl) d_P_init_36 (fun q10 H hnq10 hP hS => ?_)
  obtain ⟨f11, ef11⟩ : ∃ z99, z99 = va_up f9 q10 (some (ob 2 [.null, .null, .null, .int 0])) := ⟨_, rfl⟩
  replace hP : hH G (hA f s.heap.size) f11 H := by rw [ef11]; exact hP
  have o1_f11 := (hm_up (v := some (ob 2 [.null, .null, .null, .int 0])) ef11 (hm_nn o1_f9 hnq10)).trans o1_f9
  have o_q4_f11 := (hm_up (v := some (ob 2 [.null, .null, .null, .int 0])) ef11 (hm_nn o_q4_f9 hnq10)).trans o_q4_f9
  have o_q7_f11 := (hm_up (v := some (ob 2 [.null, .null, .null, .int 0])) ef11 (hm_nn o_q7_f9 hnq10)).trans o_q7_f9
  have o_q10_f11 : f11 q10 = some (ob 2 [.null, .null, .null, .int 0]) := by rw [ef11]; exact va_up_self _ _ _
  refine lv_dup hx hb d_P_init_39 rfl ?_
  refine g_callv (g_runI C hl.1 (ct_S_init f11 q10 o_q10_f11 _) (cx_I C 0 wd_152 wd_153 wd_9 wd_154 rfl rfl rfl (by decide +kernel) ⟨Nat.le_of_ble_eq_true rfl, Nat.le_of_ble_eq_true rfl⟩) hP rfl rfl (Nat.le_of_ble_eq_true rfl) d_P_init_40 ⟨Nat.le_of_ble_eq_true rfl, Nat.le_of_ble_eq_true rfl⟩) hP hS hA0 (fun f12 H locs hq hP hS => ?_)
  obtain ⟨b13, am13, kd13, ⟨o_q10_f12, o_b13_f12, o_am13_f12, o_kd13_f12⟩, nb13, n1_13, n2_13, n3_13, hE13⟩ := hq
  have o1_f12 := (hE13 h (ni_4 (hm_ne o1_f11 o_q10_f11 (by simp)) (hm_nn o1_f11 n1_13) (hm_nn o1_f11 n2_13) (hm_nn o1_f11 n3_13))).trans o1_f11
  have o_q4_f12 := (hE13 q4 (ni_4 (hm_ne o_q4_f11 o_q10_f11 (by simp)) (hm_nn o_q4_f11 n1_13) (hm_nn o_q4_f11 n2_13) (hm_nn o_q4_f11 n3_13))).trans o_q4_f11
  have o_q7_f12 := (hE13 q7 (ni_4 (hm_ne o_q7_f11 o_q10_f11 (by simp)) (hm_nn o_q7_f11 n1_13) (hm_nn o_q7_f11 n2_13) (hm_nn o_q7_f11 n3_13))).trans o_q7_f11
  have is13 := is_4 o_q10_f12 o_b13_f12 o_am13_f12 o_kd13_f12
  refine g_putF C i_P t_P t_P_ok n_P hP hS o1_f12 rfl 5 (by decide) wd_200 rfl rfl hin rfl rfl (rfl) (Nat.le_of_ble_eq_true rfl) d_P_init_43 (fun H locs hP hS => ?_)
  obtain ⟨f14, ef14⟩ : ∃ z99, z99 = va_up f12 h (some (ob 1 [.int (nI num), .int (nI mk), .int 0, .ref q4, .ref q7, .ref q10, .null, .null])) := ⟨_, rfl⟩
  replace hP : hH G (hA f s.heap.size) f14 H := by rw [ef14]; exact hP
  have o1_f14 : f14 h = some (ob 1 [.int (nI num), .int (nI mk), .int 0, .ref q4, .ref q7, .ref q10, .null, .null]) := by rw [ef14]; exact va_up_self _ _ _
  have o_q10_f14 := (hm_up (v := some (ob 1 [.int (nI num), .int (nI mk), .int 0, .ref q4, .ref q7, .ref q10, .null, .null])) ef14 (hm_ne o_q10_f12 o1_f12 (by simp))).trans o_q10_f12
  have o_q4_f14 := (hm_up (v := some (ob 1 [.int (nI num), .int (nI mk), .int 0, .ref q4, .ref q7, .ref q10, .null, .null])) ef14 (hm_ne o_q4_f12 o1_f12 (by simp))).trans o_q4_f12
  have o_q7_f14 := (hm_up (v := some (ob 1 [.int (nI num), .int (nI mk), .int 0, .ref q4, .ref q7, .ref q10, .null, .null])) ef14 (hm_ne o_q7_f12 o1_f12 (by simp))).trans o_q7_f12
  have o_b13_f14 := (hm_up (v := some (ob 1 [.int (nI num), .int (nI mk), .int 0, .ref q4, .ref q7, .ref q10, .null, .null])) ef14 (hm_ne o_b13_f12 o1_f12 (by simp))).trans o_b13_f12
  have o_am13_f14 := (hm_up (v := some (ob 1 [.int (nI num), .int (nI mk), .int 0, .ref q4, .ref q7, .ref q10, .null, .null])) ef14 (hm_ne o_am13_f12 o1_f12 (by simp))).trans o_am13_f12
  have o_kd13_f14 := (hm_up (v := some (ob 1 [.int (nI num), .int (nI mk), .int 0, .ref q4, .ref q7, .ref q10, .null, .null])) ef14 (hm_ne o_kd13_f12 o1_f12 (by simp))).trans o_kd13_f12
  refine lv_aload_n hx hb d_P_init_46 rfl (lv_at hl 0 rfl) ?_
  refine g_new C i_S t_S t_S_ok wd_150 wd_151 wd_9 hP hS hA0 (ci := 2) (fs := [.null, .null, .null, .int 0]) rfl (by decide) (Nat.le_of_ble_eq_true rfl) (Nat.le_of_ble_eq_true rfl) d_P_init_47 (fun q15 H hnq15 hP hS => ?_)
  obtain ⟨f16, ef16⟩ : ∃ z99, z99 = va_up f14 q15 (some (ob 2 [.null, .null, .null, .int 0])) := ⟨_, rfl⟩
  replace hP : hH G (hA f s.heap.size) f16 H := by rw [ef16]; exact hP
  have o1_f16 := (hm_up (v := some (ob 2 [.null, .null, .null, .int 0])) ef16 (hm_nn o1_f14 hnq15)).trans o1_f14
  have o_q10_f16 := (hm_up (v := some (ob 2 [.null, .null, .null, .int 0])) ef16 (hm_nn o_q10_f14 hnq15)).trans o_q10_f14
  have o_q4_f16 := (hm_up (v := some (ob 2 [.null, .null, .null, .int 0])) ef16 (hm_nn o_q4_f14 hnq15)).trans o_q4_f14
  have o_q7_f16 := (hm_up (v := some (ob 2 [.null, .null, .null, .int 0])) ef16 (hm_nn o_q7_f14 hnq15)).trans o_q7_f14
  have o_b13_f16 := (hm_up (v := some (ob 2 [.null, .null, .null, .int 0])) ef16 (hm_nn o_b13_f14 hnq15)).trans o_b13_f14
  have o_am13_f16 := (hm_up (v := some (ob 2 [.null, .null, .null, .int 0])) ef16 (hm_nn o_am13_f14 hnq15)).trans o_am13_f14
  have o_kd13_f16 := (hm_up (v := some (ob 2 [.null, .null, .null, .int 0])) ef16 (hm_nn o_kd13_f14 hnq15)).trans o_kd13_f14
  have o_q15_f16 : f16 q15 = some (ob 2 [.null, .null, .null, .int 0]) := by rw [ef16]; exact va_up_self _ _ _
  refine lv_dup hx hb d_P_init_50 rfl ?_
  refine g_callv (g_runI C hl.1 (ct_S_init f16 q15 o_q15_f16 _) (cx_I C 0 wd_152 wd_153 wd_9 wd_154 rfl rfl rfl (by decide +kernel) ⟨Nat.le_of_ble_eq_true rfl, Nat.le_of_ble_eq_true rfl⟩) hP rfl rfl (Nat.le_of_ble_eq_true rfl) d_P_init_51 ⟨Nat.le_of_ble_eq_true rfl, Nat.le_of_ble_eq_true rfl⟩) hP hS hA0 (fun f17 H locs hq hP hS => ?_)
  obtain ⟨b18, am18, kd18, ⟨o_q15_f17, o_b18_f17, o_am18_f17, o_kd18_f17⟩, nb18, n1_18, n2_18, n3_18, hE18⟩ := hq
  have o1_f17 := (hE18 h (ni_4 (hm_ne o1_f16 o_q15_f16 (by simp)) (hm_nn o1_f16 n1_18) (hm_nn o1_f16 n2_18) (hm_nn o1_f16 n3_18))).trans o1_f16
  have o_q10_f17 := (hE18 q10 (ni_4 (hm_ne o_q10_f16 o_q15_f16 (by simp)) (hm_nn o_q10_f16 n1_18) (hm_nn o_q10_f16 n2_18) (hm_nn o_q10_f16 n3_18))).trans o_q10_f16
  have o_q4_f17 := (hE18 q4 (ni_4 (hm_ne o_q4_f16 o_q15_f16 (by simp)) (hm_nn o_q4_f16 n1_18) (hm_nn o_q4_f16 n2_18) (hm_nn o_q4_f16 n3_18))).trans o_q4_f16
  have o_q7_f17 := (hE18 q7 (ni_4 (hm_ne o_q7_f16 o_q15_f16 (by simp)) (hm_nn o_q7_f16 n1_18) (hm_nn o_q7_f16 n2_18) (hm_nn o_q7_f16 n3_18))).trans o_q7_f16
  have o_b13_f17 := (hE18 b13 (ni_4 (hm_ne o_b13_f16 o_q15_f16 (by simp)) (hm_nn o_b13_f16 n1_18) (hm_nn o_b13_f16 n2_18) (hm_nn o_b13_f16 n3_18))).trans o_b13_f16
  have o_am13_f17 := (hE18 am13 (ni_4 (hm_ne o_am13_f16 o_q15_f16 (by simp)) (hm_nn o_am13_f16 n1_18) (hm_nn o_am13_f16 n2_18) (hm_nn o_am13_f16 n3_18))).trans o_am13_f16
  have o_kd13_f17 := (hE18 kd13 (ni_4 (hm_ne o_kd13_f16 o_q15_f16 (by simp)) (hm_nn o_kd13_f16 n1_18) (hm_nn o_kd13_f16 n2_18) (hm_nn o_kd13_f16 n3_18))).trans o_kd13_f16
  have is18 := is_4 o_q15_f17 o_b18_f17 o_am18_f17 o_kd18_f17
  refine g_putF C i_P t_P t_P_ok n_P hP hS o1_f17 rfl 6 (by decide) wd_202 rfl rfl hin rfl rfl (rfl) (Nat.le_of_ble_eq_true rfl) d_P_init_54 (fun H locs hP hS => ?_)
  obtain ⟨f19, ef19⟩ : ∃ z99, z99 = va_up f17 h (some (ob 1 [.int (nI num), .int (nI mk), .int 0, .ref q4, .ref q7, .ref q10, .ref q15, .null])) := ⟨_, rfl⟩
  replace hP : hH G (hA f s.heap.size) f19 H := by rw [ef19]; exact hP
  have o1_f19 : f19 h = some (ob 1 [.int (nI num), .int (nI mk), .int 0, .ref q4, .ref q7, .ref q10, .ref q15, .null]) := by rw [ef19]; exact va_up_self _ _ _
  have o_q10_f19 := (hm_up (v := some (ob 1 [.int (nI num), .int (nI mk), .int 0, .ref q4, .ref q7, .ref q10, .ref q15, .null])) ef19 (hm_ne o_q10_f17 o1_f17 (by simp))).trans o_q10_f17
  have o_q15_f19 := (hm_up (v := some (ob 1 [.int (nI num), .int (nI mk), .int 0, .ref q4, .ref q7, .ref q10, .ref q15, .null])) ef19 (hm_ne o_q15_f17 o1_f17 (by simp))).trans o_q15_f17
  have o_q4_f19 := (hm_up (v := some (ob 1 [.int (nI num), .int (nI mk), .int 0, .ref q4, .ref q7, .ref q10, .ref q15, .null])) ef19 (hm_ne o_q4_f17 o1_f17 (by simp))).trans o_q4_f17
  have o_q7_f19 := (hm_up (v := some (ob 1 [.int (nI num), .int (nI mk), .int 0, .ref q4, .ref q7, .ref q10, .ref q15, .null])) ef19 (hm_ne o_q7_f17 o1_f17 (by simp))).trans o_q7_f17
  have o_b13_f19 := (hm_up (v := some (ob 1 [.int (nI num), .int (nI mk), .int 0, .ref q4, .ref q7, .ref q10, .ref q15, .null])) ef19 (hm_ne o_b13_f17 o1_f17 (by simp))).trans o_b13_f17
  have o_am13_f19 := (hm_up (v := some (ob 1 [.int (nI num), .int (nI mk), .int 0, .ref q4, .ref q7, .ref q10, .ref q15, .null])) ef19 (hm_ne o_am13_f17 o1_f17 (by simp))).trans o_am13_f17
  have o_kd13_f19 := (hm_up (v := some (ob 1 [.int (nI num), .int (nI mk), .int 0, .ref q4, .ref q7, .ref q10, .ref q15, .null])) ef19 (hm_ne o_kd13_f17 o1_f17 (by simp))).trans o_kd13_f17
  have o_b18_f19 := (hm_up (v := some (ob 1 [.int (nI num), .int (nI mk), .int 0, .ref q4, .ref q7, .ref q10, .ref q15, .null])) ef19 (hm_ne o_b18_f17 o1_f17 (by simp))).trans o_b18_f17
  have o_am18_f19 := (hm_up (v := some (ob 1 [.int (nI num), .int (nI mk), .int 0, .ref q4, .ref q7, .ref q10, .ref q15, .null])) ef19 (hm_ne o_am18_f17 o1_f17 (by simp))).trans o_am18_f17
  have o_kd18_f19 := (hm_up (v := some (ob 1 [.int (nI num), .int (nI mk), .int 0, .ref q4, .ref q7, .ref q10, .ref q15, .null])) ef19 (hm_ne o_kd18_f17 o1_f17 (by simp))).trans o_kd18_f17
  refine lv_aload_n hx hb d_P_init_57 rfl (lv_at hl 0 rfl) ?_
  refine g_new C i_K t_K t_K_ok wd_174 wd_175 wd_10 hP hS hA0 (ci := 0) (fs := [.null, .int 0, .null]) rfl (by decide) (Nat.le_of_ble_eq_true rfl) (Nat.le_of_ble_eq_true rfl) d_P_init_58 (fun q20 H hnq20 hP hS => ?_)
  obtain ⟨f21, ef21⟩ : ∃ z99, z99 = va_up f19 q20 (some (ob 0 [.null, .int 0, .null])) := ⟨_, rfl⟩
  replace hP : hH G (hA f s.heap.size) f21 H := by rw [ef21]; exact hP
  have o1_f21 := (hm_up (v := some (ob 0 [.null, .int 0, .null])) ef21 (hm_nn o1_f19 hnq20)).trans o1_f19
  have o_q10_f21 := (hm_up (v := some (ob 0 [.null, .int 0, .null])) ef21 (hm_nn o_q10_f19 hnq20)).trans o_q10_f19
  have o_q15_f21 := (hm_up (v := some (ob 0 [.null, .int 0, .null])) ef21 (hm_nn o_q15_f19 hnq20)).trans o_q15_f19
  have o_q4_f21 := (hm_up (v := some (ob 0 [.null, .int 0, .null])) ef21 (hm_nn o_q4_f19 hnq20)).trans o_q4_f19
  have o_q7_f21 := (hm_up (v := some (ob 0 [.null, .int 0, .null])) ef21 (hm_nn o_q7_f19 hnq20)).trans o_q7_f19
  have o_b13_f21 := (hm_up (v := some (ob 0 [.null, .int 0, .null])) ef21 (hm_nn o_b13_f19 hnq20)).trans o_b13_f19
  have o_am13_f21 := (hm_up (v := some (ob 0 [.null, .int 0, .null])) ef21 (hm_nn o_am13_f19 hnq20)).trans o_am13_f19
  have o_kd13_f21 := (hm_up (v := some (ob 0 [.null, .int 0, .null])) ef21 (hm_nn o_kd13_f19 hnq20)).trans o_kd13_f19
  have o_b18_f21 := (hm_up (v := some (ob 0 [.null, .int 0, .null])) ef21 (hm_nn o_b18_f19 hnq20)).trans o_b18_f19
  have o_am18_f21 := (hm_up (v := some (ob 0 [.null, .int 0, .null])) ef21 (hm_nn o_am18_f19 hnq20)).trans o_am18_f19
  have o_kd18_f21 := (hm_up (v := some (ob 0 [.null, .int 0, .null])) ef21 (hm_nn o_kd18_f19 hnq20)).trans o_kd18_f19
  have o_q20_f21 : f21 q20 = some (ob 0 [.null, .int 0, .null]) := by rw [ef21]; exact va_up_self _ _ _
  refine lv_dup hx hb d_P_init_61 rfl ?_
  refine g_callv (g_runI C hl.1 (ct_K_init f21 q20 o_q20_f21 _) (cx_I C 0 wd_176 wd_177 wd_10 wd_178 rfl rfl rfl (by decide +kernel) ⟨Nat.le_of_ble_eq_true rfl, Nat.le_of_ble_eq_true rfl⟩) hP rfl rfl (Nat.le_of_ble_eq_true rfl) d_P_init_62 ⟨Nat.le_of_ble_eq_true rfl, Nat.le_of_ble_eq_true rfl⟩) hP hS hA0 (fun f22 H locs hq hP hS => ?_)
  obtain ⟨z23, o_q20_f22, o_z23_f22, n1_23, hE23⟩ := hq
  have o1_f22 := (hE23 h (ni_2 (hm_ne o1_f21 o_q20_f21 (by simp)) (hm_nn o1_f21 n1_23))).trans o1_f21
  have o_q10_f22 := (hE23 q10 (ni_2 (hm_ne o_q10_f21 o_q20_f21 (by simp)) (hm_nn o_q10_f21 n1_23))).trans o_q10_f21
  have o_q15_f22 := (hE23 q15 (ni_2 (hm_ne o_q15_f21 o_q20_f21 (by simp)) (hm_nn o_q15_f21 n1_23))).trans o_q15_f21
  have o_q4_f22 := (hE23 q4 (ni_2 (hm_ne o_q4_f21 o_q20_f21 (by simp)) (hm_nn o_q4_f21 n1_23))).trans o_q4_f21
  have o_q7_f22 := (hE23 q7 (ni_2 (hm_ne o_q7_f21 o_q20_f21 (by simp)) (hm_nn o_q7_f21 n1_23))).trans o_q7_f21
  have o_b13_f22 := (hE23 b13 (ni_2 (hm_ne o_b13_f21 o_q20_f21 (by simp)) (hm_nn o_b13_f21 n1_23))).trans o_b13_f21
  have o_am13_f22 := (hE23 am13 (ni_2 (hm_ne o_am13_f21 o_q20_f21 (by simp)) (hm_nn o_am13_f21 n1_23))).trans o_am13_f21
  have o_kd13_f22 := (hE23 kd13 (ni_2 (hm_ne o_kd13_f21 o_q20_f21 (by simp)) (hm_nn o_kd13_f21 n1_23))).trans o_kd13_f21
  have o_b18_f22 := (hE23 b18 (ni_2 (hm_ne o_b18_f21 o_q20_f21 (by simp)) (hm_nn o_b18_f21 n1_23))).trans o_b18_f21
  have o_am18_f22 := (hE23 am18 (ni_2 (hm_ne o_am18_f21 o_q20_f21 (by simp)) (hm_nn o_am18_f21 n1_23))).trans o_am18_f21
  have o_kd18_f22 := (hE23 kd18 (ni_2 (hm_ne o_kd18_f21 o_q20_f21 (by simp)) (hm_nn o_kd18_f21 n1_23))).trans o_kd18_f21
  have is23 := is_2 o_q20_f22 o_z23_f22
  refine g_putF C i_P t_P t_P_ok n_P hP hS o1_f22 rfl 7 (by decide) wd_204 rfl rfl hin rfl rfl (rfl) (Nat.le_of_ble_eq_true rfl) d_P_init_65 (fun H locs hP hS => ?_)
  obtain ⟨f24, ef24⟩ : ∃ z99, z99 = va_up f22 h (some (ob 1 [.int (nI num), .int (nI mk), .int 0, .ref q4, .ref q7, .ref q10, .ref q15, .ref q20])) := ⟨_, rfl⟩
  replace hP : hH G (hA f s.heap.size) f24 H := by rw [ef24]; exact hP
  have o1_f24 : f24 h = some (ob 1 [.int (nI num), .int (nI mk), .int 0, .ref q4, .ref q7, .ref q10, .ref q15, .ref q20]) := by rw [ef24]; exact va_up_self _ _ _
  have o_q10_f24 := (hm_up (v := some (ob 1 [.int (nI num), .int (nI mk), .int 0, .ref q4, .ref q7, .ref q10, .ref q15, .ref q20])) ef24 (hm_ne o_q10_f22 o1_f22 (by simp))).trans o_q10_f22
  have o_q15_f24 := (hm_up (v := some (ob 1 [.int (nI num), .int (nI mk), .int 0, .ref q4, .ref q7, .ref q10, .ref q15, .ref q20])) ef24 (hm_ne o_q15_f22 o1_f22 (by simp))).trans o_q15_f22
  have o_q20_f24 := (hm_up (v := some (ob 1 [.int (nI num), .int (nI mk), .int 0, .ref q4, .ref q7, .ref q10, .ref q15, .ref q20])) ef24 (hm_ne o_q20_f22 o1_f22 (by simp))).trans o_q20_f22
  have o_q4_f24 := (hm_up (v := some (ob 1 [.int (nI num), .int (nI mk), .int 0, .ref q4, .ref q7, .ref q10, .ref q15, .ref q20])) ef24 (hm_ne o_q4_f22 o1_f22 (by simp))).trans o_q4_f22
  have o_q7_f24 := (hm_up (v := some (ob 1 [.int (nI num), .int (nI mk), .int 0, .ref q4, .ref q7, .ref q10, .ref q15, .ref q20])) ef24 (hm_ne o_q7_f22 o1_f22 (by simp))).trans o_q7_f22
  have o_b13_f24 := (hm_up (v := some (ob 1 [.int (nI num), .int (nI mk), .int 0, .ref q4, .ref q7, .ref q10, .ref q15, .ref q20])) ef24 (hm_ne o_b13_f22 o1_f22 (by simp))).trans o_b13_f22
  have o_am13_f24 := (hm_up (v := some (ob 1 [.int (nI num), .int (nI mk), .int 0, .ref q4, .ref q7, .ref q10, .ref q15, .ref q20])) ef24 (hm_ne o_am13_f22 o1_f22 (by simp))).trans o_am13_f22
  have o_kd13_f24 := (hm_up (v := some (ob 1 [.int (nI num), .int (nI mk), .int 0, .ref q4, .ref q7, .ref q10, .ref q15, .ref q20])) ef24 (hm_ne o_kd13_f22 o1_f22 (by simp))).trans o_kd13_f22
  have o_b18_f24 := (hm_up (v := some (ob 1 [.int (nI num), .int (nI mk), .int 0, .ref q4, .ref q7, .ref q10, .ref q15, .ref q20])) ef24 (hm_ne o_b18_f22 o1_f22 (by simp))).trans o_b18_f22
  have o_am18_f24 := (hm_up (v := some (ob 1 [.int (nI num), .int (nI mk), .int 0, .ref q4, .ref q7, .ref q10, .ref q15, .ref q20])) ef24 (hm_ne o_am18_f22 o1_f22 (by simp))).trans o_am18_f22
  have o_kd18_f24 := (hm_up (v := some (ob 1 [.int (nI num), .int (nI mk), .int 0, .ref q4, .ref q7, .ref q10, .ref q15, .ref q20])) ef24 (hm_ne o_kd18_f22 o1_f22 (by simp))).trans o_kd18_f22
  have o_z23_f24 := (hm_up (v := some (ob 1 [.int (nI num), .int (nI mk), .int 0, .ref q4, .ref q7, .ref q10, .ref q15, .ref q20])) ef24 (hm_ne o_z23_f22 o1_f22 (by simp))).trans o_z23_f22
  have dm0 := dm.one o1
  have dm1 := dm.up ef1 dm0
  have dm2 := dm.up ef2 dm1
  have dm3 := dm.up ef3 dm2
  have dm4 := dm.nw ef5 dm3 hnq4
  have dm5 := dm.up ef6 dm4
  have dm6 := dm.nw ef8 dm5 hnq7
  have dm7 := dm.up ef9 dm6
  have dm8 := dm.nw ef11 dm7 hnq10
  have dm9 := dm.keep dm8 hE13 is13
  replace dm9 := dm.add (f := f) dm9 (dm.ni dm8 n1_13) (by rw [o_b13_f12]; rfl)
  replace dm9 := dm.add (f := f) dm9 (by intro z9; rcases List.mem_cons.mp z9 with z9 | z9; exact nb13 z9.symm; exact dm.ni dm8 n2_13 z9) (by rw [o_am13_f12]; rfl)
  replace dm9 := dm.add (f := f) dm9 (by intro z9; rcases List.mem_cons.mp z9 with z9 | z9; exact hm_ne o_kd13_f12 o_am13_f12 (by simp) z9; rcases List.mem_cons.mp z9 with z9 | z9; exact hm_ne o_kd13_f12 o_b13_f12 (by simp) z9; exact dm.ni dm8 n3_13 z9) (by rw [o_kd13_f12]; rfl)
  have dm10 := dm.up ef14 dm9
  have dm11 := dm.nw ef16 dm10 hnq15
  have dm12 := dm.keep dm11 hE18 is18
  replace dm12 := dm.add (f := f) dm12 (dm.ni dm11 n1_18) (by rw [o_b18_f17]; rfl)
  replace dm12 := dm.add (f := f) dm12 (by intro z9; rcases List.mem_cons.mp z9 with z9 | z9; exact nb18 z9.symm; exact dm.ni dm11 n2_18 z9) (by rw [o_am18_f17]; rfl)
  replace dm12 := dm.add (f := f) dm12 (by intro z9; rcases List.mem_cons.mp z9 with z9 | z9; exact hm_ne o_kd18_f17 o_am18_f17 (by simp) z9; rcases List.mem_cons.mp z9 with z9 | z9; exact hm_ne o_kd18_f17 o_b18_f17 (by simp) z9; exact dm.ni dm11 n3_18 z9) (by rw [o_kd18_f17]; rfl)
  have dm13 := dm.up ef19 dm12
  have dm14 := dm.nw ef21 dm13 hnq20
  have dm15 := dm.keep dm14 hE23 is23
  replace dm15 := dm.add (f := f) dm15 (dm.ni dm14 n1_23) (by rw [o_z23_f22]; rfl)
  have dm16 := dm.up ef24 dm15
  have hnd : [h, q4, q7, q10, b13, am13, kd13, q15, b18, am18, kd18, q20, z23].Nodup := nd_rev dm16.1
  have fr_q4 : f q4 = none := (hm_nb ef1 (hm_nb ef2 (hm_nb ef3 hnq4 (by simp)).2 (by simp)).2 (by simp)).2
  have fr_q7 : f q7 = none := (hm_nb ef1 (hm_nb ef2 (hm_nb ef3 (hm_nb ef5 (hm_nb ef6 hnq7 (by simp)).2 (by simp)).2 (by simp)).2 (by simp)).2 (by simp)).2
  have fr_q10 : f q10 = none := (hm_nb ef1 (hm_nb ef2 (hm_nb ef3 (hm_nb ef5 (hm_nb ef6 (hm_nb ef8 (hm_nb ef9 hnq10 (by simp)).2 (by simp)).2 (by simp)).2 (by simp)).2 (by simp)).2 (by simp)).2 (by simp)).2
  have fr_b13 : f b13 = none := (hm_nb ef1 (hm_nb ef2 (hm_nb ef3 (hm_nb ef5 (hm_nb ef6 (hm_nb ef8 (hm_nb ef9 (hm_nb ef11 n1_13 (by simp)).2 (by simp)).2 (by simp)).2 (by simp)).2 (by simp)).2 (by simp)).2 (by simp)).2 (by simp)).2
  have fr_am13 : f am13 = none := (hm_nb ef1 (hm_nb ef2 (hm_nb ef3 (hm_nb ef5 (hm_nb ef6 (hm_nb ef8 (hm_nb ef9 (hm_nb ef11 n2_13 (by simp)).2 (by simp)).2 (by simp)).2 (by simp)).2 (by simp)).2 (by simp)).2 (by simp)).2 (by simp)).2
  have fr_kd13 : f kd13 = none := (hm_nb ef1 (hm_nb ef2 (hm_nb ef3 (hm_nb ef5 (hm_nb ef6 (hm_nb ef8 (hm_nb ef9 (hm_nb ef11 n3_13 (by simp)).2 (by simp)).2 (by simp)).2 (by simp)).2 (by simp)).2 (by simp)).2 (by simp)).2 (by simp)).2
  have fr_q15 : f q15 = none := (hm_nb ef1 (hm_nb ef2 (hm_nb ef3 (hm_nb ef5 (hm_nb ef6 (hm_nb ef8 (hm_nb ef9 (hm_nb ef11 (nn_4 hE13 is13 (hm_nb ef14 hnq15 (by simp)).2) (by simp)).2 (by simp)).2 (by simp)).2 (by simp)).2 (by simp)).2 (by simp)).2 (by simp)).2 (by simp)).2
  have fr_b18 : f b18 = none := (hm_nb ef1 (hm_nb ef2 (hm_nb ef3 (hm_nb ef5 (hm_nb ef6 (hm_nb ef8 (hm_nb ef9 (hm_nb ef11 (nn_4 hE13 is13 (hm_nb ef14 (hm_nb ef16 n1_18 (by simp)).2 (by simp)).2) (by simp)).2 (by simp)).2 (by simp)).2 (by simp)).2 (by simp)).2 (by simp)).2 (by simp)).2 (by simp)).2
  have fr_am18 : f am18 = none := (hm_nb ef1 (hm_nb ef2 (hm_nb ef3 (hm_nb ef5 (hm_nb ef6 (hm_nb ef8 (hm_nb ef9 (hm_nb ef11 (nn_4 hE13 is13 (hm_nb ef14 (hm_nb ef16 n2_18 (by simp)).2 (by simp)).2) (by simp)).2 (by simp)).2 (by simp)).2 (by simp)).2 (by simp)).2 (by simp)).2 (by simp)).2 (by simp)).2
  have fr_kd18 : f kd18 = none := (hm_nb ef1 (hm_nb ef2 (hm_nb ef3 (hm_nb ef5 (hm_nb ef6 (hm_nb ef8 (hm_nb ef9 (hm_nb ef11 (nn_4 hE13 is13 (hm_nb ef14 (hm_nb ef16 n3_18 (by simp)).2 (by simp)).2) (by simp)).2 (by simp)).2 (by simp)).2 (by simp)).2 (by simp)).2 (by simp)).2 (by simp)).2 (by simp)).2
  have fr_q20 : f q20 = none := (hm_nb ef1 (hm_nb ef2 (hm_nb ef3 (hm_nb ef5 (hm_nb ef6 (hm_nb ef8 (hm_nb ef9 (hm_nb ef11 (nn_4 hE13 is13 (hm_nb ef14 (hm_nb ef16 (nn_4 hE18 is18 (hm_nb ef19 hnq20 (by simp)).2) (by simp)).2 (by simp)).2) (by simp)).2 (by simp)).2 (by simp)).2 (by simp)).2 (by simp)).2 (by simp)).2 (by simp)).2 (by simp)).2
  have fr_z23 : f z23 = none := (hm_nb ef1 (hm_nb ef2 (hm_nb ef3 (hm_nb ef5 (hm_nb ef6 (hm_nb ef8 (hm_nb ef9 (hm_nb ef11 (nn_4 hE13 is13 (hm_nb ef14 (hm_nb ef16 (nn_4 hE18 is18 (hm_nb ef19 (hm_nb ef21 n1_23 (by simp)).2 (by simp)).2) (by simp)).2 (by simp)).2) (by simp)).2 (by simp)).2 (by simp)).2 (by simp)).2 (by simp)).2 (by simp)).2 (by simp)).2 (by simp)).2
  have hEE : hE [h, q4, q7, q10, b13, am13, kd13, q15, b18, am18, kd18, q20, z23] f f24 := by rw [ef24]; refine hE.up ?_ (by simp); refine hE.trans ?_ (hE.mono hE23 (by simp)); rw [ef21]; refine hE.up ?_ (by simp); rw [ef19]; refine hE.up ?_ (by simp); refine hE.trans ?_ (hE.mono hE18 (by simp)); rw [ef16]; refine hE.up ?_ (by simp); rw [ef14]; refine hE.up ?_ (by simp); refine hE.trans ?_ (hE.mono hE13 (by simp)); rw [ef11]; refine hE.up ?_ (by simp); rw [ef9]; refine hE.up ?_ (by simp); rw [ef8]; refine hE.up ?_ (by simp); rw [ef6]; refine hE.up ?_ (by simp); rw [ef5]; refine hE.up ?_ (by simp); rw [ef3]; refine hE.up ?_ (by simp); rw [ef2]; refine hE.up ?_ (by simp); rw [ef1]; refine hE.up ?_ (by simp); exact hE.rf
  exact g_vret C hP hS (⟨fun i => [h, q4, q7, q10, b13, am13, kd13, q15, b18, am18, kd18, q20, z23].getD i 0, rfl, fun i j hi hj => nd_inj _ hnd i j hi hj, fun i hi1 hi2 => by
      rcases (show i = 1 ∨ i = 2 ∨ i = 3 ∨ i = 4 ∨ i = 5 ∨ i = 6 ∨ i = 7 ∨ i = 8 ∨ i = 9 ∨ i = 10 ∨ i = 11 ∨ i = 12 by omega) with rfl | rfl | rfl | rfl | rfl | rfl | rfl | rfl | rfl | rfl | rfl | rfl
      · exact fr_q4
      · exact fr_q7
      · exact fr_q10
      · exact fr_b13
      · exact fr_am13
      · exact fr_kd13
      · exact fr_q15
      · exact fr_b18
      · exact fr_am18
      · exact fr_kd18
      · exact fr_q20
      · exact fr_z23,
    ⟨o1_f24, o_q4_f24, o_q7_f24, ⟨o_q10_f24, o_b13_f24, o_am13_f24, o_kd13_f24⟩, ⟨o_q15_f24, o_b18_f24, o_am18_f24, o_kd18_f24⟩, o_q20_f24, o_z23_f24⟩, fun q hq => hEE q (fun hm => by
      obtain ⟨i, hi, e9⟩ := List.getElem_of_mem hm
      refine hq i (by simpa using hi) ?_
      show q = List.getD _ i 0
      rw [List.getD_eq_getElem?_getD, List.getElem?_eq_getElem hi]; exact e9.symm)⟩) (Nat.le_of_ble_eq_true rfl) (Nat.le_of_ble_eq_true rfl) d_P_init_68
