/-! Steps: the rows of prices and of days, sorted by their beginnings. -/
theorem nI_m1 {k : Nat} (hk : k < 2 ^ 31) (h : nI k - 1 = -1) : k = 0 := by
  rcases Nat.eq_zero_or_pos k with z | z
  · exact z
  · have h2 : nI k = 0 := by
      have := congrArg (fun v => v + 1) h
      simpa [Int32.sub_add_cancel] using this
    exact absurd h2 (nI_ne0 z hk)
/-- nothing has changed but at the places S -/
def hE (S : List Nat) (f u : hm) : Prop := ∀ q, q ∉ S → u q = f q
theorem hE.rf {S : List Nat} {f : hm} : hE S f f := fun _ _ => rfl
theorem hE.trans {S : List Nat} {f g u : hm} (h1 : hE S f g) (h2 : hE S g u) : hE S f u := fun q hq => (h2 q hq).trans (h1 q hq)
theorem hE.mono {S T : List Nat} {f u : hm} (h : hE S f u) (hs : ∀ q ∈ S, q ∈ T) : hE T f u := fun q hq => h q (fun z => hq (hs q z))
theorem hE.up {S : List Nat} {f u : hm} {a : Nat} {v : Option va_E} (h : hE S f u) (ha : a ∈ S) : hE S f (va_up u a v) := fun q hq => (va_up_ne _ _ (fun z => hq (by rw [z]; exact ha))).trans (h q hq)
/-- a row of steps: the object, its three arrays -/
def sv (G : hG) (f : hm) (h b am kd n : Nat) (B AM : Nat → Int64) (KD : Nat → Int32) : Prop := f h = some (ob 2 [.ref b, .ref am, .ref kd, .int (nI n)]) ∧ f b = some (aL G 8 B) ∧ f am = some (aL G 8 AM) ∧ f kd = some (aI G 8 KD)
/-- the rows from i on, up to n, moved up by one -/
def sh {α : Type} (g : Nat → α) (i n : Nat) : Nat → α := fun j => if i < j ∧ j ≤ n then g (j - 1) else g j
theorem sh_n {α : Type} (g : Nat → α) (n : Nat) : sh g n n = g := by
  funext j
  unfold sh
  rw [if_neg (by omega)]
theorem sh_L {g : Nat → Int64} {i n : Nat} (h : i + 1 ≤ n) : vp_updL (sh g (i + 1) n) (i + 1) (sh g (i + 1) n i) = sh g i n := by
  funext j
  unfold vp_updL sh
  by_cases hj : j = i + 1
  · subst hj; rw [if_pos rfl, if_neg (by omega), if_pos (by omega)]; rfl
  · rw [if_neg hj]
    by_cases h2 : i + 1 < j ∧ j ≤ n
    · rw [if_pos h2, if_pos (by omega)]
    · rw [if_neg h2, if_neg (by omega)]
theorem sh_I {g : Nat → Int32} {i n : Nat} (h : i + 1 ≤ n) : upd (sh g (i + 1) n) (i + 1) (sh g (i + 1) n i) = sh g i n := by
  funext j
  unfold upd sh
  by_cases hj : j = i + 1
  · subst hj; rw [if_pos rfl, if_neg (by omega), if_pos (by omega)]; rfl
  · rw [if_neg hj]
    by_cases h2 : i + 1 < j ∧ j ≤ n
    · rw [if_pos h2, if_pos (by omega)]
    · rw [if_neg h2, if_neg (by omega)]
set_option maxHeartbeats 4000000 in
set_option maxRecDepth 100000 in
theorem ct_S_stepOf {l : Launch} {G : hG} (f : hm) (h b am kd n : Nat) (B AM : Nat → Int64) (KD : Nat → Int32) (hsv : sv G f h b am kd n B AM KD) (hn : n ≤ 8) (pt : Int64) : ci_ l G y_S_stepOf w_S_stepOf { frames := 0, cells := 0, slots := 0, locals := 0 } [.ref h, .long pt] f (fun r u => (∃ k, k ≤ n ∧ r = nI k - 1 ∧ (∀ j, j < k → B j ≤ pt) ∧ (k < n → ¬ B k ≤ pt)) ∧ u = f) := by
  intro sz
  refine h_ofW (cc := c_S_stepOf) (maxL := 4) (ret := (some .int)) (by decide) rfl (Nat.le_of_ble_eq_true rfl) ?_
  intro p e s m below meth c ls C hin hsz hP hl
  obtain ⟨hx, hb, hml, hown, -, -, -, -⟩ := id C
  subst hsz
  have hA0 : ∀ q, s.heap.size ≤ q → hA f s.heap.size q := hA.new
  have hS : va_S (hA f s.heap.size) s.heap s.heap [] := va_S.rf
  replace hl : lv_has ls 4 [(0, .ref h), (1, .long pt)] := hl
  obtain ⟨o1, a1, a2, a3⟩ := hsv
  have loop : ∀ (d k : Nat) (ls : Array Slot), n < k + d → k ≤ n → (∀ j, j < k → B j ≤ pt) → lv_has ls 4 [(3, .int (nI k - 1)), (1, .long pt), (0, .ref h)] → W p l e { frames := 0, cells := 0, slots := 0, locals := 0 } s m #[.ref h, .long pt] below meth c s.heap [] 0 0 (MQ below (va_Qi (fun r u => (∃ k, k ≤ n ∧ r = nI k - 1 ∧ (∀ j, j < k → B j ≤ pt) ∧ (k < n → ¬ B k ≤ pt)) ∧ u = f) (hB G (hA f s.heap.size)) (hA f s.heap.size)) #[.ref h, .long pt] s 0 0 (hA f s.heap.size)) (F0 m 2 ls []) := by
    intro d
    induction d with
    | zero => intro k ls h1 h2; exact absurd h1 (by omega)
    | succ d ih =>
      intro k ls h1 h2 hall hl
      refine lv_iload_n hx hb d_S_stepOf_2 rfl (lv_at hl 0 rfl) ?_
      refine lv_iconst (v := 1) hx hb d_S_stepOf_3 (by decide) ?_
      refine lv_iadd hx hb d_S_stepOf_4 ?_
      refine g_eqi (y := nI k) (Int32.sub_add_cancel (nI k) 1) ?_
      refine lv_aload_n hx hb d_S_stepOf_5 rfl (lv_at hl 2 rfl) ?_
      refine g_get C i_S hP o1 rfl 3 (by decide) wd_163 rfl rfl d_S_stepOf_6 ?_
      refine lv_icmp_ge (tgt := 31) hx hb d_S_stepOf_9 (by decide) (fun c_9 => ?_) (fun c_9 => ?_)
      · have q_9 : n ≤ k := (nI_leI (by omega) (by omega)).mp c_9
        refine lv_iload_n hx hb d_S_stepOf_31 rfl (lv_at hl 0 rfl) ?_
        exact g_iret C hP hS (⟨⟨k, by omega, rfl, hall, fun z9 => by first | exact absurd z9 (by omega) | exact Int64.not_le.mpr c_22⟩, rfl⟩) (Nat.le_of_ble_eq_true rfl) (Nat.le_of_ble_eq_true rfl) d_S_stepOf_32
      · have q_9 : ¬ n ≤ k := fun z9 => c_9 ((nI_leI (by omega) (by omega)).mpr z9)
        refine lv_aload_n hx hb d_S_stepOf_12 rfl (lv_at hl 2 rfl) ?_
        refine g_get C i_S hP o1 rfl 0 (by decide) wd_156 rfl rfl d_S_stepOf_13 ?_
        refine lv_iload_n hx hb d_S_stepOf_16 rfl (lv_at hl 0 rfl) ?_
        refine lv_iconst (v := 1) hx hb d_S_stepOf_17 (by decide) ?_
        refine lv_iadd hx hb d_S_stepOf_18 ?_
        refine g_eqi (y := nI k) (Int32.sub_add_cancel (nI k) 1) ?_
        refine g_laldN C hP a1 (j := k) (by omega) (by decide) d_S_stepOf_19 ?_
        refine lv_lload_n hx hb d_S_stepOf_20 rfl (lv_at hl 1 rfl) ?_
        refine W.lcmp hx hb d_S_stepOf_21 ?_
        refine lv_if_gt (tgt := 31) hx hb d_S_stepOf_22 (by decide) (fun c_22 => ?_) (fun c_22 => ?_)
        · have c_22 := (lg_cmp_gt _ _).mp c_22
          refine lv_iload_n hx hb d_S_stepOf_31 rfl (lv_at hl 0 rfl) ?_
          exact g_iret C hP hS (⟨⟨k, by omega, rfl, hall, fun z9 => by first | exact absurd z9 (by omega) | exact Int64.not_le.mpr c_22⟩, rfl⟩) (Nat.le_of_ble_eq_true rfl) (Nat.le_of_ble_eq_true rfl) d_S_stepOf_32
        · have c_22 := fun z => c_22 ((lg_cmp_gt _ _).mpr z)
          refine lv_iinc (v := nI (k + 1) - 1) (lv' := [(3, .int (nI (k + 1) - 1)), (1, .long pt), (0, .ref h)]) hx hb d_S_stepOf_25 hl (k := 0) rfl (by rw [nI_pred]; exact Int32.sub_add_cancel (nI k) 1) (by decide) rfl (fun ls hl => ?_)
          refine lv_goto (tgt := 2) hx hb d_S_stepOf_28 (by decide) ?_
          exact ih (k + 1) ls (by omega) (by omega) (fun j hj => by rcases Nat.lt_succ_iff_lt_or_eq.mp hj with z9 | z9; exact hall j z9; rw [z9]; exact Int64.not_lt.mp c_22) (lv_sub hl [0, 1, 2] rfl)
  refine lv_iconst (v := (-1)) hx hb d_S_stepOf_0 (by decide) ?_
  refine lv_istore_n (lv' := [(3, .int (-1)), (0, .ref h), (1, .long pt)]) hx hb d_S_stepOf_1 rfl hl (by decide) rfl (fun ls hl => ?_)
  exact loop (n + 1) 0 ls (by omega) (by omega) (fun _ z9 => absurd z9 (by omega)) (lv_sub hl [0, 2, 1] rfl)
set_option maxHeartbeats 4000000 in
set_option maxRecDepth 100000 in
theorem ct_S_endOf {l : Launch} {G : hG} (f : hm) (h b am kd n : Nat) (B AM : Nat → Int64) (KD : Nat → Int32) (hsv : sv G f h b am kd n B AM KD) (hn : n ≤ 8) (j : Nat) (hj : j < n) : cl_ l G y_S_endOf w_S_endOf { frames := 0, cells := 0, slots := 0, locals := 0 } [.ref h, .int (nI j)] f (fun r u => r = (if j + 1 < n then B (j + 1) - 1 else 9223372036854775807) ∧ u = f) := by
  intro sz
  refine h_ofW (cc := c_S_endOf) (maxL := 2) (ret := (some .long)) (by decide) rfl (Nat.le_of_ble_eq_true rfl) ?_
  intro p e s m below meth c ls C hin hsz hP hl
  obtain ⟨hx, hb, hml, hown, -, -, -, -⟩ := id C
  subst hsz
  have hA0 : ∀ q, s.heap.size ≤ q → hA f s.heap.size q := hA.new
  have hS : va_S (hA f s.heap.size) s.heap s.heap [] := va_S.rf
  replace hl : lv_has ls 2 [(0, .ref h), (1, .int (nI j))] := hl
  obtain ⟨o1, a1, a2, a3⟩ := hsv
  refine lv_iload_n hx hb d_S_endOf_0 rfl (lv_at hl 1 rfl) ?_
  refine lv_iconst (v := 1) hx hb d_S_endOf_1 (by decide) ?_
  refine lv_iadd hx hb d_S_endOf_2 ?_
  refine g_eqi (y := nI (j + 1)) (nI_1 j) ?_
  refine lv_aload_n hx hb d_S_endOf_3 rfl (lv_at hl 0 rfl) ?_
  refine g_get C i_S hP o1 rfl 3 (by decide) wd_163 rfl rfl d_S_endOf_4 ?_
  refine lv_icmp_ge (tgt := 23) hx hb d_S_endOf_7 (by decide) (fun c_7 => ?_) (fun c_7 => ?_)
  · have q_7 : n ≤ j + 1 := (nI_leI (by omega) (by omega)).mp c_7
    refine lv_ldc2 hx hb hown (C.w wd_440) d_S_endOf_23 ?_
    exact g_lret C hP hS (⟨by first | rw [if_pos (by omega)] | rw [if_neg (by omega)], rfl⟩) (Nat.le_of_ble_eq_true rfl) (Nat.le_of_ble_eq_true rfl) d_S_endOf_26
  · have q_7 : ¬ n ≤ j + 1 := fun z9 => c_7 ((nI_leI (by omega) (by omega)).mpr z9)
    refine lv_aload_n hx hb d_S_endOf_10 rfl (lv_at hl 0 rfl) ?_
    refine g_get C i_S hP o1 rfl 0 (by decide) wd_156 rfl rfl d_S_endOf_11 ?_
    refine lv_iload_n hx hb d_S_endOf_14 rfl (lv_at hl 1 rfl) ?_
    refine lv_iconst (v := 1) hx hb d_S_endOf_15 (by decide) ?_
    refine lv_iadd hx hb d_S_endOf_16 ?_
    refine g_eqi (y := nI (j + 1)) (nI_1 j) ?_
    refine g_laldN C hP a1 (j := (j + 1)) (by omega) (by decide) d_S_endOf_17 ?_
    refine lv_lconst (v := 1) hx hb d_S_endOf_18 (by decide) ?_
    refine lv_lsub hx hb d_S_endOf_19 ?_
    refine lv_goto (tgt := 26) hx hb d_S_endOf_20 (by decide) ?_
    exact g_lret C hP hS (⟨by first | rw [if_pos (by omega)] | rw [if_neg (by omega)], rfl⟩) (Nat.le_of_ble_eq_true rfl) (Nat.le_of_ble_eq_true rfl) d_S_endOf_26
set_option maxHeartbeats 4000000 in
set_option maxRecDepth 100000 in
theorem ct_S_put {l : Launch} {G : hG} (f : hm) (h b am kd n : Nat) (B AM : Nat → Int64) (KD : Nat → Int32) (hsv : sv G f h b am kd n B AM KD) (hne : b ≠ am) (j : Nat) (hj : j < 8) (x y : Int64) (z : Int32) : cv_ l G y_S_put w_S_put { frames := 0, cells := 0, slots := 0, locals := 0 } [.ref h, .int (nI j), .long x, .long y, .int z] f (fun u => sv G u h b am kd n (vp_updL B j x) (vp_updL AM j y) (upd KD j z) ∧ hE [b, am, kd] f u) := by
  intro sz
  refine h_ofW (cc := c_S_put) (maxL := 7) (ret := none) (by decide) rfl (Nat.le_of_ble_eq_true rfl) ?_
  intro p e s m below meth c ls C hin hsz hP hl
  obtain ⟨hx, hb, hml, hown, -, -, -, -⟩ := id C
  subst hsz
  have hA0 : ∀ q, s.heap.size ≤ q → hA f s.heap.size q := hA.new
  have hS : va_S (hA f s.heap.size) s.heap s.heap [] := va_S.rf
  replace hl : lv_has ls 7 [(0, .ref h), (1, .int (nI j)), (2, .long x), (4, .long y), (6, .int z)] := hl
  obtain ⟨o1, a1, a2, a3⟩ := hsv
  refine lv_aload_n hx hb d_S_put_0 rfl (lv_at hl 0 rfl) ?_
  refine g_get C i_S hP o1 rfl 0 (by decide) wd_156 rfl rfl d_S_put_1 ?_
  refine lv_iload_n hx hb d_S_put_4 rfl (lv_at hl 1 rfl) ?_
  refine lv_lload_n hx hb d_S_put_5 rfl (lv_at hl 2 rfl) ?_
  refine g_lastN C hP hS a1 (j := j) (by omega) (by decide) d_S_put_6 (fun H locs hP hS => ?_)
  obtain ⟨g2, eg2⟩ : ∃ z99, z99 = vp_updL B j x := ⟨_, rfl⟩
  rw [← eg2] at hP
  obtain ⟨f1, ef1⟩ : ∃ z99, z99 = va_up f b (some (aL G 8 g2)) := ⟨_, rfl⟩
  replace hP : hH G (hA f s.heap.size) f1 H := by rw [ef1]; exact hP
  have o1_f1 := (hm_up (v := some (aL G 8 g2)) ef1 (hm_ne o1 a1 (by simp))).trans o1
  have a1_f1 : f1 b = some (aL G 8 g2) := by rw [ef1]; exact va_up_self _ _ _
  have a2_f1 := (hm_up (v := some (aL G 8 g2)) ef1 (hne.symm)).trans a2
  have a3_f1 := (hm_up (v := some (aL G 8 g2)) ef1 (hm_ne a3 a1 (by simp))).trans a3
  refine lv_aload_n hx hb d_S_put_7 rfl (lv_at hl 0 rfl) ?_
  refine g_get C i_S hP o1_f1 rfl 1 (by decide) wd_158 rfl rfl d_S_put_8 ?_
  refine lv_iload_n hx hb d_S_put_11 rfl (lv_at hl 1 rfl) ?_
  refine lv_lload hx hb d_S_put_12 (lv_at hl 3 rfl) ?_
  refine g_lastN C hP hS a2_f1 (j := j) (by omega) (by decide) d_S_put_14 (fun H locs hP hS => ?_)
  obtain ⟨g4, eg4⟩ : ∃ z99, z99 = vp_updL AM j y := ⟨_, rfl⟩
  rw [← eg4] at hP
  obtain ⟨f3, ef3⟩ : ∃ z99, z99 = va_up f1 am (some (aL G 8 g4)) := ⟨_, rfl⟩
  replace hP : hH G (hA f s.heap.size) f3 H := by rw [ef3]; exact hP
  have o1_f3 := (hm_up (v := some (aL G 8 g4)) ef3 (hm_ne o1_f1 a2_f1 (by simp))).trans o1_f1
  have a1_f3 := (hm_up (v := some (aL G 8 g4)) ef3 (hne)).trans a1_f1
  have a2_f3 : f3 am = some (aL G 8 g4) := by rw [ef3]; exact va_up_self _ _ _
  have a3_f3 := (hm_up (v := some (aL G 8 g4)) ef3 (hm_ne a3_f1 a2_f1 (by simp))).trans a3_f1
  refine lv_aload_n hx hb d_S_put_15 rfl (lv_at hl 0 rfl) ?_
  refine g_get C i_S hP o1_f3 rfl 2 (by decide) wd_160 rfl rfl d_S_put_16 ?_
  refine lv_iload_n hx hb d_S_put_19 rfl (lv_at hl 1 rfl) ?_
  refine lv_iload hx hb d_S_put_20 (lv_at hl 4 rfl) ?_
  refine g_iastN C hP hS a3_f3 (j := j) (by omega) (by decide) d_S_put_22 (fun H locs hP hS => ?_)
  obtain ⟨g6, eg6⟩ : ∃ z99, z99 = upd KD j z := ⟨_, rfl⟩
  rw [← eg6] at hP
  obtain ⟨f5, ef5⟩ : ∃ z99, z99 = va_up f3 kd (some (aI G 8 g6)) := ⟨_, rfl⟩
  replace hP : hH G (hA f s.heap.size) f5 H := by rw [ef5]; exact hP
  have o1_f5 := (hm_up (v := some (aI G 8 g6)) ef5 (hm_ne o1_f3 a3_f3 (by simp))).trans o1_f3
  have a1_f5 := (hm_up (v := some (aI G 8 g6)) ef5 (hm_ne a1_f3 a3_f3 (by simp))).trans a1_f3
  have a2_f5 := (hm_up (v := some (aI G 8 g6)) ef5 (hm_ne a2_f3 a3_f3 (by simp))).trans a2_f3
  have a3_f5 : f5 kd = some (aI G 8 g6) := by rw [ef5]; exact va_up_self _ _ _
  subst eg2 eg4 eg6
  exact g_vret C hP hS (⟨⟨o1_f5, a1_f5, a2_f5, a3_f5⟩, by rw [ef5, ef3, ef1]; exact ((hE.rf.up (by simp)).up (by simp)).up (by simp)⟩) (Nat.le_of_ble_eq_true rfl) (Nat.le_of_ble_eq_true rfl) d_S_put_23
set_option maxHeartbeats 4000000 in
set_option maxRecDepth 100000 in
theorem ct_S_tell {l : Launch} {G : hG} (f : hm) (h b am kd n : Nat) (B AM : Nat → Int64) (KD : Nat → Int32) (hsv : sv G f h b am kd n B AM KD) (hne : b ≠ am) (hn : n ≤ 8) (x y : Int64) (z : Int32) : ci_ l G y_S_tell w_S_tell { frames := 1, cells := 0, slots := 0, locals := 40 } [.ref h, .long x, .long y, .int z] f (fun r u => (∃ k, k ≤ n ∧ (∀ j, j < k → B j ≤ x) ∧ (k < n → ¬ B k ≤ x) ∧ ((∃ j, k = j + 1 ∧ B j = x ∧ r = (if AM j = y ∧ KD j = z then 0 else 1) ∧ sv G u h b am kd n (vp_updL B j x) (vp_updL AM j y) (upd KD j z)) ∨ ((k = 0 ∨ B (k - 1) ≠ x) ∧ n = 8 ∧ r = 0 ∧ u = f) ∨ ((k = 0 ∨ B (k - 1) ≠ x) ∧ n < 8 ∧ r = 1 ∧ sv G u h b am kd (n + 1) (vp_updL (sh B k n) k x) (vp_updL (sh AM k n) k y) (upd (sh KD k n) k z)))) ∧ hE [h, b, am, kd] f u) := by
  intro sz
  refine h_ofW (cc := c_S_tell) (maxL := 8) (ret := (some .boolean)) (by decide) rfl (Nat.le_of_ble_eq_true rfl) ?_
  intro p e s m below meth c ls C hin hsz hP hl
  obtain ⟨hx, hb, hml, hown, -, -, -, -⟩ := id C
  subst hsz
  have hA0 : ∀ q, s.heap.size ≤ q → hA f s.heap.size q := hA.new
  have hS : va_S (hA f s.heap.size) s.heap s.heap [] := va_S.rf
  replace hl : lv_has ls 8 [(0, .ref h), (1, .long x), (3, .long y), (5, .int z)] := hl
  obtain ⟨o1, a1, a2, a3⟩ := hsv
  have tail : ∀ (k : Nat) (ls : Array Slot), k ≤ n → (∀ j, j < k → B j ≤ x) → (k < n → ¬ B k ≤ x) → (k = 0 ∨ B (k - 1) ≠ x) → ∀ (H : Heap) (locs : List Loc), hH G (hA f s.heap.size) f H → va_S (hA f s.heap.size) s.heap H locs → lv_has ls 8 [(6, .int (nI k - 1)), (5, .int z), (3, .long y), (1, .long x), (0, .ref h)] → W p l e { frames := 1, cells := 0, slots := 0, locals := 40 } s m #[.ref h, .long x, .long y, .int z] below meth c H locs 0 0 (MQ below (va_Qi (fun r u => (∃ k, k ≤ n ∧ (∀ j, j < k → B j ≤ x) ∧ (k < n → ¬ B k ≤ x) ∧ ((∃ j, k = j + 1 ∧ B j = x ∧ r = (if AM j = y ∧ KD j = z then 0 else 1) ∧ sv G u h b am kd n (vp_updL B j x) (vp_updL AM j y) (upd KD j z)) ∨ ((k = 0 ∨ B (k - 1) ≠ x) ∧ n = 8 ∧ r = 0 ∧ u = f) ∨ ((k = 0 ∨ B (k - 1) ≠ x) ∧ n < 8 ∧ r = 1 ∧ sv G u h b am kd (n + 1) (vp_updL (sh B k n) k x) (vp_updL (sh AM k n) k y) (upd (sh KD k n) k z)))) ∧ hE [h, b, am, kd] f u) (hB G (hA f s.heap.size)) (hA f s.heap.size)) #[.ref h, .long x, .long y, .int z] s 0 0 (hA f s.heap.size)) (F0 m 69 ls []) := by
    intro k ls hk hle hgt hkx H locs hP hS hl
    have loop : n < 8 → ∀ (d i : Nat) (fi : hm) (ls : Array Slot), i < k + d → k ≤ i → i ≤ n → sv G fi h b am kd n (sh B i n) (sh AM i n) (sh KD i n) → hE [h, b, am, kd] f fi → ∀ (H : Heap) (locs : List Loc), hH G (hA f s.heap.size) fi H → va_S (hA f s.heap.size) s.heap H locs → lv_has ls 8 [(7, .int (nI i)), (6, .int (nI k - 1)), (5, .int z), (3, .long y), (1, .long x), (0, .ref h)] → W p l e { frames := 1, cells := 0, slots := 0, locals := 40 } s m #[.ref h, .long x, .long y, .int z] below meth c H locs 0 0 (MQ below (va_Qi (fun r u => (∃ k, k ≤ n ∧ (∀ j, j < k → B j ≤ x) ∧ (k < n → ¬ B k ≤ x) ∧ ((∃ j, k = j + 1 ∧ B j = x ∧ r = (if AM j = y ∧ KD j = z then 0 else 1) ∧ sv G u h b am kd n (vp_updL B j x) (vp_updL AM j y) (upd KD j z)) ∨ ((k = 0 ∨ B (k - 1) ≠ x) ∧ n = 8 ∧ r = 0 ∧ u = f) ∨ ((k = 0 ∨ B (k - 1) ≠ x) ∧ n < 8 ∧ r = 1 ∧ sv G u h b am kd (n + 1) (vp_updL (sh B k n) k x) (vp_updL (sh AM k n) k y) (upd (sh KD k n) k z)))) ∧ hE [h, b, am, kd] f u) (hB G (hA f s.heap.size)) (hA f s.heap.size)) #[.ref h, .long x, .long y, .int z] s 0 0 (hA f s.heap.size)) (F0 m 86 ls []) := by
      intro hn8 d
      induction d with
      | zero => intro i fi ls h1 h2; exact absurd h1 (by omega)
      | succ d ih =>
        intro i fi ls h1 h2 h3 hsi hEi H locs hP hS hl
        refine lv_iload hx hb d_S_tell_86 (lv_at hl 0 rfl) ?_
        refine lv_iload hx hb d_S_tell_88 (lv_at hl 1 rfl) ?_
        refine lv_iconst (v := 1) hx hb d_S_tell_90 (by decide) ?_
        refine lv_iadd hx hb d_S_tell_91 ?_
        refine g_eqi (y := nI k) (Int32.sub_add_cancel (nI k) 1) ?_
        refine lv_icmp_le (tgt := 134) hx hb d_S_tell_92 (by decide) (fun c_92 => ?_) (fun c_92 => ?_)
        · have q_92 : k = i := by have := (nI_leI (by omega) (by omega)).mp c_92; omega
          subst q_92
          refine lv_aload_n hx hb d_S_tell_134 rfl (lv_at hl 5 rfl) ?_
          refine lv_iload hx hb d_S_tell_135 (lv_at hl 1 rfl) ?_
          refine lv_iconst (v := 1) hx hb d_S_tell_137 (by decide) ?_
          refine lv_iadd hx hb d_S_tell_138 ?_
          refine g_eqi (y := nI k) (Int32.sub_add_cancel (nI k) 1) ?_
          refine lv_lload_n hx hb d_S_tell_139 rfl (lv_at hl 4 rfl) ?_
          refine lv_lload_n hx hb d_S_tell_140 rfl (lv_at hl 3 rfl) ?_
          refine lv_iload hx hb d_S_tell_141 (lv_at hl 2 rfl) ?_
          refine g_callv (g_runV C hl.1 (ct_S_put fi h b am kd n (sh B k n) (sh AM k n) (sh KD k n) hsi hne k (by omega) x y z _) (cx_V C 4 wd_360 wd_362 wp_6 wd_9 wd_363 rfl rfl (by decide +kernel) ⟨Nat.le_of_ble_eq_true rfl, Nat.le_of_ble_eq_true rfl⟩) hP hsi.1 rfl rfl rfl (Nat.le_of_ble_eq_true rfl) d_S_tell_143 ⟨Nat.le_of_ble_eq_true rfl, Nat.le_of_ble_eq_true rfl⟩) hP hS hA0 (fun f1 H locs hq hP hS => ?_)
          obtain ⟨⟨o5, a5, a6, a7⟩, hE1⟩ := hq
          refine lv_aload_n hx hb d_S_tell_146 rfl (lv_at hl 5 rfl) ?_
          refine lv_dup hx hb d_S_tell_147 rfl ?_
          refine g_get C i_S hP o5 rfl 3 (by decide) wd_163 rfl rfl d_S_tell_148 ?_
          refine lv_iconst (v := 1) hx hb d_S_tell_151 (by decide) ?_
          refine lv_iadd hx hb d_S_tell_152 ?_
          refine g_eqi (y := nI (n + 1)) (nI_1 n) ?_
          refine g_put C i_S t_S t_S_ok n_S hP hS o5 rfl 3 (by decide) wd_163 rfl rfl rfl (rfl) (Nat.le_of_ble_eq_true rfl) d_S_tell_153 (fun H locs hP hS => ?_)
          obtain ⟨f3, ef3⟩ : ∃ z99, z99 = va_up f1 h (some (ob 2 [.ref b, .ref am, .ref kd, .int (nI (n + 1))])) := ⟨_, rfl⟩
          replace hP : hH G (hA f s.heap.size) f3 H := by rw [ef3]; exact hP
          have o5_f3 : f3 h = some (ob 2 [.ref b, .ref am, .ref kd, .int (nI (n + 1))]) := by rw [ef3]; exact va_up_self _ _ _
          have a5_f3 := (hm_up (v := some (ob 2 [.ref b, .ref am, .ref kd, .int (nI (n + 1))])) ef3 (hm_ne a5 o5 (by simp))).trans a5
          have a6_f3 := (hm_up (v := some (ob 2 [.ref b, .ref am, .ref kd, .int (nI (n + 1))])) ef3 (hm_ne a6 o5 (by simp))).trans a6
          have a7_f3 := (hm_up (v := some (ob 2 [.ref b, .ref am, .ref kd, .int (nI (n + 1))])) ef3 (hm_ne a7 o5 (by simp))).trans a7
          refine lv_iconst (v := 1) hx hb d_S_tell_156 (by decide) ?_
          exact g_zret C (by first | exact Or.inl rfl | exact Or.inr rfl) hP hS (⟨⟨k, hk, hle, hgt, Or.inr (Or.inr ⟨hkx, hn8, rfl, o5_f3, a5_f3, a6_f3, a7_f3⟩)⟩, by rw [ef3]; exact (hEi.trans (hE1.mono (by simp))).up (by simp)⟩) (Nat.le_of_ble_eq_true rfl) (Nat.le_of_ble_eq_true rfl) d_S_tell_157
        · have q_92 : ¬ i ≤ k := fun z9 => c_92 ((nI_leI (by omega) (by omega)).mpr z9)
          obtain ⟨i2, rfl⟩ : ∃ j, i = j + 1 := ⟨i - 1, by omega⟩
          refine lv_aload_n hx hb d_S_tell_95 rfl (lv_at hl 5 rfl) ?_
          refine lv_iload hx hb d_S_tell_96 (lv_at hl 0 rfl) ?_
          refine lv_aload_n hx hb d_S_tell_98 rfl (lv_at hl 5 rfl) ?_
          refine g_get C i_S hP hsi.1 rfl 0 (by decide) wd_156 rfl rfl d_S_tell_99 ?_
          refine lv_iload hx hb d_S_tell_102 (lv_at hl 0 rfl) ?_
          refine lv_iconst (v := 1) hx hb d_S_tell_104 (by decide) ?_
          refine lv_isub hx hb d_S_tell_105 ?_
          refine g_eqi (y := nI i2) (nI_pred i2) ?_
          refine g_laldN C hP hsi.2.1 (j := i2) (by omega) (by decide) d_S_tell_106 ?_
          refine lv_aload_n hx hb d_S_tell_107 rfl (lv_at hl 5 rfl) ?_
          refine g_get C i_S hP hsi.1 rfl 1 (by decide) wd_158 rfl rfl d_S_tell_108 ?_
          refine lv_iload hx hb d_S_tell_111 (lv_at hl 0 rfl) ?_
          refine lv_iconst (v := 1) hx hb d_S_tell_113 (by decide) ?_
          refine lv_isub hx hb d_S_tell_114 ?_
          refine g_eqi (y := nI i2) (nI_pred i2) ?_
          refine g_laldN C hP hsi.2.2.1 (j := i2) (by omega) (by decide) d_S_tell_115 ?_
          refine lv_aload_n hx hb d_S_tell_116 rfl (lv_at hl 5 rfl) ?_
          refine g_get C i_S hP hsi.1 rfl 2 (by decide) wd_160 rfl rfl d_S_tell_117 ?_
          refine lv_iload hx hb d_S_tell_120 (lv_at hl 0 rfl) ?_
          refine lv_iconst (v := 1) hx hb d_S_tell_122 (by decide) ?_
          refine lv_isub hx hb d_S_tell_123 ?_
          refine g_eqi (y := nI i2) (nI_pred i2) ?_
          refine g_ialdN C hP hsi.2.2.2 (j := i2) (by omega) (by decide) d_S_tell_124 ?_
          refine g_callv (g_runV C hl.1 (ct_S_put fi h b am kd n (sh B (i2 + 1) n) (sh AM (i2 + 1) n) (sh KD (i2 + 1) n) hsi hne (i2 + 1) (by omega) (sh B (i2 + 1) n i2) (sh AM (i2 + 1) n i2) (sh KD (i2 + 1) n i2) _) (cx_V C 4 wd_360 wd_362 wp_6 wd_9 wd_363 rfl rfl (by decide +kernel) ⟨Nat.le_of_ble_eq_true rfl, Nat.le_of_ble_eq_true rfl⟩) hP hsi.1 rfl rfl rfl (Nat.le_of_ble_eq_true rfl) d_S_tell_125 ⟨Nat.le_of_ble_eq_true rfl, Nat.le_of_ble_eq_true rfl⟩) hP hS hA0 (fun f4 H locs hq hP hS => ?_)
          obtain ⟨hsv1, hE1⟩ := hq
          refine lv_iinc (v := nI i2) (lv' := [(7, .int (nI i2)), (6, .int (nI k - 1)), (5, .int z), (3, .long y), (1, .long x), (0, .ref h)]) hx hb d_S_tell_128 hl (k := 0) rfl (pk_m1 i2) (by decide) rfl (fun ls hl => ?_)
          refine lv_goto (tgt := 86) hx hb d_S_tell_131 (by decide) ?_
          rw [sh_L (by omega), sh_L (by omega), sh_I (by omega)] at hsv1
          exact ih i2 f4 ls (by omega) (by omega) (by omega) hsv1 (hEi.trans (hE1.mono (by simp))) H locs hP hS (lv_sub hl [0, 1, 2, 3, 4, 5] rfl)
    refine lv_aload_n hx hb d_S_tell_69 rfl (lv_at hl 4 rfl) ?_
    refine g_get C i_S hP o1 rfl 3 (by decide) wd_163 rfl rfl d_S_tell_70 ?_
    refine lv_bipush (v := 8) hx hb d_S_tell_73 (by decide) ?_
    refine lv_icmp_lt (tgt := 80) hx hb d_S_tell_75 (by decide) (fun c_75 => ?_) (fun c_75 => ?_)
    · have hn8 : n < 8 := by have := (nI_ltI (b := 8) (by omega) (by omega)).mp c_75; omega
      refine lv_aload_n hx hb d_S_tell_80 rfl (lv_at hl 4 rfl) ?_
      refine g_get C i_S hP o1 rfl 3 (by decide) wd_163 rfl rfl d_S_tell_81 ?_
      refine lv_istore (lv' := [(7, .int (nI n)), (6, .int (nI k - 1)), (5, .int z), (3, .long y), (1, .long x), (0, .ref h)]) hx hb d_S_tell_84 hl (by decide) rfl (fun ls hl => ?_)
      exact loop hn8 (n + 1) n f ls (by omega) (by omega) (by omega) (by rw [sh_n, sh_n, sh_n]; exact ⟨o1, a1, a2, a3⟩) hE.rf H locs hP hS (lv_sub hl [0, 1, 2, 3, 4, 5] rfl)
    · have hn8 : n = 8 := by have : ¬ n < 8 := fun z9 => c_75 ((nI_ltI (b := 8) (by omega) (by omega)).mpr z9); omega
      refine lv_iconst (v := 0) hx hb d_S_tell_78 (by decide) ?_
      exact g_zret C (by first | exact Or.inl rfl | exact Or.inr rfl) hP hS (⟨⟨k, hk, hle, hgt, Or.inr (Or.inl ⟨hkx, hn8, rfl, rfl⟩)⟩, hE.rf⟩) (Nat.le_of_ble_eq_true rfl) (Nat.le_of_ble_eq_true rfl) d_S_tell_79
  refine lv_aload_n hx hb d_S_tell_0 rfl (lv_at hl 0 rfl) ?_
  refine lv_lload_n hx hb d_S_tell_1 rfl (lv_at hl 1 rfl) ?_
  refine g_calli (g_runV C hl.1 (ct_S_stepOf f h b am kd n B AM KD ⟨o1, a1, a2, a3⟩ hn x _) (cx_V C 1 wd_356 wd_357 wd_358 wd_9 wd_359 rfl rfl (by decide +kernel) ⟨Nat.le_of_ble_eq_true rfl, Nat.le_of_ble_eq_true rfl⟩) hP o1 rfl rfl rfl (Nat.le_of_ble_eq_true rfl) d_S_tell_2 ⟨Nat.le_of_ble_eq_true rfl, Nat.le_of_ble_eq_true rfl⟩) hP hS hA0 (fun r2 f1 H locs hq hP hS => ?_)
  obtain ⟨⟨k, hk, rfl, hle, hgt⟩, hu⟩ := hq
  rw [hu] at hP
  refine lv_istore (lv' := [(6, .int (nI k - 1)), (0, .ref h), (1, .long x), (3, .long y), (5, .int z)]) hx hb d_S_tell_5 hl (by decide) rfl (fun ls hl => ?_)
  refine lv_iload hx hb d_S_tell_7 (lv_at hl 0 rfl) ?_
  refine lv_iconst (v := (-1)) hx hb d_S_tell_9 (by decide) ?_
  refine lv_icmp_eq (tgt := 69) hx hb d_S_tell_10 (by decide) (fun c_10 => ?_) (fun c_10 => ?_)
  · have q_10 : k = 0 := nI_m1 (by omega) c_10
    exact tail k ls hk hle hgt (by first | exact Or.inl q_10 | exact Or.inr q_22) H locs hP hS (lv_sub hl [0, 4, 3, 2, 1] rfl)
  · have q_10 : k ≠ 0 := fun z9 => c_10 (by rw [z9]; rfl)
    obtain ⟨j, rfl⟩ : ∃ j, k = j + 1 := ⟨k - 1, by omega⟩
    refine lv_aload_n hx hb d_S_tell_13 rfl (lv_at hl 1 rfl) ?_
    refine g_get C i_S hP o1 rfl 0 (by decide) wd_156 rfl rfl d_S_tell_14 ?_
    refine lv_iload hx hb d_S_tell_17 (lv_at hl 0 rfl) ?_
    refine g_eqi (y := nI j) (nI_pred j) ?_
    refine g_laldN C hP a1 (j := j) (by omega) (by decide) d_S_tell_19 ?_
    refine lv_lload_n hx hb d_S_tell_20 rfl (lv_at hl 2 rfl) ?_
    refine W.lcmp hx hb d_S_tell_21 ?_
    refine lv_if_ne (tgt := 69) hx hb d_S_tell_22 (by decide) (fun c_22 => ?_) (fun c_22 => ?_)
    · have c_22 := fun z => c_22 ((lg_cmp_eq _ _).mpr z)
      have q_22 : B j ≠ x := c_22
      exact tail (j + 1) ls hk hle hgt (by first | exact Or.inl q_10 | exact Or.inr q_22) H locs hP hS (lv_sub hl [0, 4, 3, 2, 1] rfl)
    · have c_22 := (lg_cmp_eq _ _).mp c_22
      have q_22 : B j = x := c_22
      refine lv_aload_n hx hb d_S_tell_25 rfl (lv_at hl 1 rfl) ?_
      refine g_get C i_S hP o1 rfl 1 (by decide) wd_158 rfl rfl d_S_tell_26 ?_
      refine lv_iload hx hb d_S_tell_29 (lv_at hl 0 rfl) ?_
      refine g_eqi (y := nI j) (nI_pred j) ?_
      refine g_laldN C hP a2 (j := j) (by omega) (by decide) d_S_tell_31 ?_
      refine lv_lload_n hx hb d_S_tell_32 rfl (lv_at hl 3 rfl) ?_
      refine W.lcmp hx hb d_S_tell_33 ?_
      refine lv_if_ne (tgt := 49) hx hb d_S_tell_34 (by decide) (fun c_34 => ?_) (fun c_34 => ?_)
      · have c_34 := fun z => c_34 ((lg_cmp_eq _ _).mpr z)
        have q_34 : ¬ (AM j = y ∧ KD j = z) := fun z9 => c_34 z9.1
        refine lv_iconst (v := 1) hx hb d_S_tell_49 (by decide) ?_
        refine lv_goto (tgt := 54) hx hb d_S_tell_50 (by decide) ?_
        refine lv_istore (lv' := [(7, .int 1), (6, .int (nI (j + 1) - 1)), (0, .ref h), (1, .long x), (3, .long y), (5, .int z)]) hx hb d_S_tell_54 hl (by decide) rfl (fun ls hl => ?_)
        refine lv_aload_n hx hb d_S_tell_56 rfl (lv_at hl 2 rfl) ?_
        refine lv_iload hx hb d_S_tell_57 (lv_at hl 1 rfl) ?_
        refine g_eqi (y := nI j) (nI_pred j) ?_
        refine lv_lload_n hx hb d_S_tell_59 rfl (lv_at hl 3 rfl) ?_
        refine lv_lload_n hx hb d_S_tell_60 rfl (lv_at hl 4 rfl) ?_
        refine lv_iload hx hb d_S_tell_61 (lv_at hl 5 rfl) ?_
        refine g_callv (g_runV C hl.1 (ct_S_put f h b am kd n B AM KD ⟨o1, a1, a2, a3⟩ hne j (by omega) x y z _) (cx_V C 4 wd_360 wd_362 wp_6 wd_9 wd_363 rfl rfl (by decide +kernel) ⟨Nat.le_of_ble_eq_true rfl, Nat.le_of_ble_eq_true rfl⟩) hP o1 rfl rfl rfl (Nat.le_of_ble_eq_true rfl) d_S_tell_63 ⟨Nat.le_of_ble_eq_true rfl, Nat.le_of_ble_eq_true rfl⟩) hP hS hA0 (fun f3 H locs hq hP hS => ?_)
        obtain ⟨hsv1, hE1⟩ := hq
        refine lv_iload hx hb d_S_tell_66 (lv_at hl 0 rfl) ?_
        exact g_zret C (by first | exact Or.inl rfl | exact Or.inr rfl) hP hS (⟨⟨j + 1, hk, hle, hgt, Or.inl ⟨j, rfl, q_22, by rw [if_neg q_34], hsv1⟩⟩, hE1.mono (by simp)⟩) (Nat.le_of_ble_eq_true rfl) (Nat.le_of_ble_eq_true rfl) d_S_tell_68
      · have c_34 := (lg_cmp_eq _ _).mp c_34
        have q_34 : AM j = y := c_34
        refine lv_aload_n hx hb d_S_tell_37 rfl (lv_at hl 1 rfl) ?_
        refine g_get C i_S hP o1 rfl 2 (by decide) wd_160 rfl rfl d_S_tell_38 ?_
        refine lv_iload hx hb d_S_tell_41 (lv_at hl 0 rfl) ?_
        refine g_eqi (y := nI j) (nI_pred j) ?_
        refine g_ialdN C hP a3 (j := j) (by omega) (by decide) d_S_tell_43 ?_
        refine lv_iload hx hb d_S_tell_44 (lv_at hl 4 rfl) ?_
        refine lv_icmp_eq (tgt := 53) hx hb d_S_tell_46 (by decide) (fun c_46 => ?_) (fun c_46 => ?_)
        · have q_46 : AM j = y ∧ KD j = z := ⟨q_34, c_46⟩
          refine lv_iconst (v := 0) hx hb d_S_tell_53 (by decide) ?_
          refine lv_istore (lv' := [(7, .int 0), (6, .int (nI (j + 1) - 1)), (0, .ref h), (1, .long x), (3, .long y), (5, .int z)]) hx hb d_S_tell_54 hl (by decide) rfl (fun ls hl => ?_)
          refine lv_aload_n hx hb d_S_tell_56 rfl (lv_at hl 2 rfl) ?_
          refine lv_iload hx hb d_S_tell_57 (lv_at hl 1 rfl) ?_
          refine g_eqi (y := nI j) (nI_pred j) ?_
          refine lv_lload_n hx hb d_S_tell_59 rfl (lv_at hl 3 rfl) ?_
          refine lv_lload_n hx hb d_S_tell_60 rfl (lv_at hl 4 rfl) ?_
          refine lv_iload hx hb d_S_tell_61 (lv_at hl 5 rfl) ?_
          refine g_callv (g_runV C hl.1 (ct_S_put f h b am kd n B AM KD ⟨o1, a1, a2, a3⟩ hne j (by omega) x y z _) (cx_V C 4 wd_360 wd_362 wp_6 wd_9 wd_363 rfl rfl (by decide +kernel) ⟨Nat.le_of_ble_eq_true rfl, Nat.le_of_ble_eq_true rfl⟩) hP o1 rfl rfl rfl (Nat.le_of_ble_eq_true rfl) d_S_tell_63 ⟨Nat.le_of_ble_eq_true rfl, Nat.le_of_ble_eq_true rfl⟩) hP hS hA0 (fun f5 H locs hq hP hS => ?_)
          obtain ⟨hsv1, hE1⟩ := hq
          refine lv_iload hx hb d_S_tell_66 (lv_at hl 0 rfl) ?_
          exact g_zret C (by first | exact Or.inl rfl | exact Or.inr rfl) hP hS (⟨⟨j + 1, hk, hle, hgt, Or.inl ⟨j, rfl, q_22, by rw [if_pos q_46], hsv1⟩⟩, hE1.mono (by simp)⟩) (Nat.le_of_ble_eq_true rfl) (Nat.le_of_ble_eq_true rfl) d_S_tell_68
        · have q_34 : ¬ (AM j = y ∧ KD j = z) := fun z9 => c_46 z9.2
          refine lv_iconst (v := 1) hx hb d_S_tell_49 (by decide) ?_
          refine lv_goto (tgt := 54) hx hb d_S_tell_50 (by decide) ?_
          refine lv_istore (lv' := [(7, .int 1), (6, .int (nI (j + 1) - 1)), (0, .ref h), (1, .long x), (3, .long y), (5, .int z)]) hx hb d_S_tell_54 hl (by decide) rfl (fun ls hl => ?_)
          refine lv_aload_n hx hb d_S_tell_56 rfl (lv_at hl 2 rfl) ?_
          refine lv_iload hx hb d_S_tell_57 (lv_at hl 1 rfl) ?_
          refine g_eqi (y := nI j) (nI_pred j) ?_
          refine lv_lload_n hx hb d_S_tell_59 rfl (lv_at hl 3 rfl) ?_
          refine lv_lload_n hx hb d_S_tell_60 rfl (lv_at hl 4 rfl) ?_
          refine lv_iload hx hb d_S_tell_61 (lv_at hl 5 rfl) ?_
          refine g_callv (g_runV C hl.1 (ct_S_put f h b am kd n B AM KD ⟨o1, a1, a2, a3⟩ hne j (by omega) x y z _) (cx_V C 4 wd_360 wd_362 wp_6 wd_9 wd_363 rfl rfl (by decide +kernel) ⟨Nat.le_of_ble_eq_true rfl, Nat.le_of_ble_eq_true rfl⟩) hP o1 rfl rfl rfl (Nat.le_of_ble_eq_true rfl) d_S_tell_63 ⟨Nat.le_of_ble_eq_true rfl, Nat.le_of_ble_eq_true rfl⟩) hP hS hA0 (fun f7 H locs hq hP hS => ?_)
          obtain ⟨hsv1, hE1⟩ := hq
          refine lv_iload hx hb d_S_tell_66 (lv_at hl 0 rfl) ?_
          exact g_zret C (by first | exact Or.inl rfl | exact Or.inr rfl) hP hS (⟨⟨j + 1, hk, hle, hgt, Or.inl ⟨j, rfl, q_22, by rw [if_neg q_34], hsv1⟩⟩, hE1.mono (by simp)⟩) (Nat.le_of_ble_eq_true rfl) (Nat.le_of_ble_eq_true rfl) d_S_tell_68
