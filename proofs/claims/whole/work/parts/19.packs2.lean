/-! Packs: addSums, add, firstSum. -/
/-- x is a sum of fewer than M packs of size t and of one of the old sums -/
def sp (w : Nat → Nat) (t M x : Nat) : Prop := ∃ j, j < M ∧ j * t ≤ x ∧ bi w (x - j * t) = true
theorem sp_step {w w0 : Nat → Nat} (hw : ∀ j, w j < 2 ^ 64) {t M u : Nat} (h : ∀ x, x < 20032 → (bi w x = true ↔ sp w0 t M x)) (hu : u = t * M) : ∀ x, x < 20032 → (bi (jn w (u / 64) (u % 64)) x = true ↔ sp w0 t (M * 2) x) := by
  intro x hx
  rw [jn_bit hw u x hx, Bool.or_eq_true, Bool.and_eq_true, decide_eq_true_eq, h x hx]
  constructor
  · rintro (⟨j, h1, h2, h3⟩ | ⟨h1, h2⟩)
    · exact ⟨j, by omega, h2, h3⟩
    · obtain ⟨j, h3, h4, h5⟩ := (h (x - u) (by omega)).mp h2
      have e : (j + M) * t = j * t + u := by rw [Nat.add_mul, hu, Nat.mul_comm M t]
      exact ⟨j + M, by omega, by omega, by rw [e, show x - (j * t + u) = x - u - j * t by omega]; exact h5⟩
  · rintro ⟨j, h1, h2, h3⟩
    by_cases hj : j < M
    · exact Or.inl ⟨j, hj, h2, h3⟩
    · obtain ⟨i, rfl⟩ : ∃ i, j = i + M := ⟨j - M, by omega⟩
      have e : (i + M) * t = i * t + u := by rw [Nat.add_mul, hu, Nat.mul_comm M t]
      rw [e] at h2 h3
      exact Or.inr ⟨by omega, (h (x - u) (by omega)).mpr ⟨i, by omega, by omega, by rw [show x - u - i * t = x - (i * t + u) by omega]; exact h3⟩⟩
theorem sp_end {w0 : Nat → Nat} {t M x : Nat} (hM : 20000 < t * M) (hx : x ≤ 20000) : sp w0 t M x ↔ ∃ j, j * t ≤ x ∧ bi w0 (x - j * t) = true := by
  constructor
  · rintro ⟨j, -, h2, h3⟩; exact ⟨j, h2, h3⟩
  · rintro ⟨j, h2, h3⟩
    refine ⟨j, ?_, h2, h3⟩
    rcases Nat.lt_or_ge j M with h | h
    · exact h
    · have : M * t ≤ j * t := Nat.mul_le_mul_right t h
      rw [Nat.mul_comm] at this
      omega
/-- the bits of no packs at all: 0 alone -/
def w_0 : Nat → Nat := fun j => if j = 0 then 1 else 0
theorem if_ci {t : Nat} (h : 1 ≤ t) (ht : t < 2 ^ 31) : (if nI t < (1 : Int32) then 1 else nI t) = nI t := by
  rw [if_neg (fun z : nI t < (1 : Int32) => absurd ((nI_ltI (b := 1) ht (by omega)).mp z) (by omega))]
set_option maxHeartbeats 4000000 in
set_option maxRecDepth 100000 in
theorem ct_K_addSums {l : Launch} {G : hG} (f : hm) (h sz n t : Nat) (sm : Option Nat) (w0 : Nat → Nat) (ht0 : 1 ≤ t) (ht : t ≤ 1000) (hw0 : ∀ j, w0 j < 2 ^ 64) (o1 : f h = some (ob 0 [.ref sz, .int (nI n), va_rf sm])) (hs0 : sm = none → w0 = w_0) (hs1 : ∀ q, sm = some q → f q = some (aL G 313 (fun j => lN (w0 j)))) : cv_ l G y_K_addSums w_K_addSums { frames := 1, cells := 1, slots := 313, locals := 40 } [.ref h, .int (nI t)] f (fun u => ∃ q w1, u h = some (ob 0 [.ref sz, .int (nI n), .ref q]) ∧ u q = some (aL G 313 (fun j => lN (w1 j))) ∧ (∀ j, w1 j < 2 ^ 64) ∧ (sm = some q ∨ (sm = none ∧ f q = none)) ∧ hE [h, q] f u ∧ (∀ x, x ≤ 20000 → (bi w1 x = true ↔ ∃ j, j * t ≤ x ∧ bi w0 (x - j * t) = true))) := by
  intro sz
  refine h_ofW (cc := c_K_addSums) (maxL := 3) (ret := none) (by decide) rfl (Nat.le_of_ble_eq_true rfl) ?_
  intro p e s m below meth c ls C hin hsz hP hl
  obtain ⟨hx, hb, hml, hown, -, -, -, -⟩ := id C
  subst hsz
  have hA0 : ∀ q, s.heap.size ≤ q → hA f s.heap.size q := hA.new
  have hS : va_S (hA f s.heap.size) s.heap s.heap [] := va_S.rf
  replace hl : lv_has ls 3 [(0, .ref h), (1, .int (nI t))] := hl
  have tail : ∀ (q : Nat) (fi : hm) (ls : Array Slot), (sm = some q ∨ (sm = none ∧ f q = none)) → fi h = some (ob 0 [.ref sz, .int (nI n), .ref q]) → fi q = some (aL G 313 (fun j => lN (w0 j))) → hE [h, q] f fi → ∀ (H : Heap) (locs : List Loc) (cells slots : Nat), cells ≤ 1 → slots ≤ 313 → hH G (hA f s.heap.size) fi H → va_S (hA f s.heap.size) s.heap H locs → lv_has ls 3 [(0, .ref h), (1, .int (nI t))] → W p l e { frames := 1, cells := 1, slots := 313, locals := 40 } s m #[.ref h, .int (nI t)] below meth c H locs cells slots (MQ below (va_Qv (fun u => ∃ q w1, u h = some (ob 0 [.ref sz, .int (nI n), .ref q]) ∧ u q = some (aL G 313 (fun j => lN (w1 j))) ∧ (∀ j, w1 j < 2 ^ 64) ∧ (sm = some q ∨ (sm = none ∧ f q = none)) ∧ hE [h, q] f u ∧ (∀ x, x ≤ 20000 → (bi w1 x = true ↔ ∃ j, j * t ≤ x ∧ bi w0 (x - j * t) = true))) (hB G (hA f s.heap.size)) (hA f s.heap.size)) #[.ref h, .int (nI t)] s 1 313 (hA f s.heap.size)) (F0 m 23 ls []) := by
    intro q fi ls hqs o2 a2 hEi H locs cells slots hc hs hP hS hl
    have loopz : ∀ (u M : Nat) (fi : hm) (w : Nat → Nat) (ls : Array Slot), 20000 < u → 1 ≤ u → u ≤ 40000 → u = t * M → (∀ j, w j < 2 ^ 64) → fi h = some (ob 0 [.ref sz, .int (nI n), .ref q]) → fi q = some (aL G 313 (fun j => lN (w j))) → hE [h, q] f fi → (∀ x, x < 20032 → (bi w x = true ↔ sp w0 t M x)) → ∀ (H : Heap) (locs : List Loc) (cells slots : Nat), cells ≤ 1 → slots ≤ 313 → hH G (hA f s.heap.size) fi H → va_S (hA f s.heap.size) s.heap H locs → lv_has ls 3 [(2, .int (nI u)), (0, .ref h)] → W p l e { frames := 1, cells := 1, slots := 313, locals := 40 } s m #[.ref h, .int (nI t)] below meth c H locs cells slots (MQ below (va_Qv (fun u => ∃ q w1, u h = some (ob 0 [.ref sz, .int (nI n), .ref q]) ∧ u q = some (aL G 313 (fun j => lN (w1 j))) ∧ (∀ j, w1 j < 2 ^ 64) ∧ (sm = some q ∨ (sm = none ∧ f q = none)) ∧ hE [h, q] f u ∧ (∀ x, x ≤ 20000 → (bi w1 x = true ↔ ∃ j, j * t ≤ x ∧ bi w0 (x - j * t) = true))) (hB G (hA f s.heap.size)) (hA f s.heap.size)) #[.ref h, .int (nI t)] s 1 313 (hA f s.heap.size)) (F0 m 29 ls []) := by
      intro u M fi w ls h1 h2 h3 hu hw o2 a2 hEi hsp H locs cells slots hc hs hP hS hl
      refine lv_iload_n hx hb d_K_addSums_29 rfl (lv_at hl 0 rfl) ?_
      refine lv_sipush (v := 20000) hx hb d_K_addSums_30 (by decide) ?_
      refine lv_icmp_gt (tgt := 51) hx hb d_K_addSums_33 (by decide) (fun c_33 => ?_) (fun c_33 => ?_)
      · have q_33 : 20000 < u := (nI_ltI (a := 20000) (by omega) (by omega)).mp c_33
        exact g_vret C hP hS (⟨q, w, o2, a2, hw, hqs, hEi, fun x hx => (hsp x (by omega)).trans (sp_end (by omega) hx)⟩) hc hs d_K_addSums_51
      · exact absurd ((nI_ltI (a := 20000) (by omega) (by omega)).mpr h1) c_33
    have loop : ∀ (d u M : Nat) (fi : hm) (w : Nat → Nat) (ls : Array Slot), 20000 < u + d → 1 ≤ u → u ≤ 40000 → u = t * M → (∀ j, w j < 2 ^ 64) → fi h = some (ob 0 [.ref sz, .int (nI n), .ref q]) → fi q = some (aL G 313 (fun j => lN (w j))) → hE [h, q] f fi → (∀ x, x < 20032 → (bi w x = true ↔ sp w0 t M x)) → ∀ (H : Heap) (locs : List Loc) (cells slots : Nat), cells ≤ 1 → slots ≤ 313 → hH G (hA f s.heap.size) fi H → va_S (hA f s.heap.size) s.heap H locs → lv_has ls 3 [(2, .int (nI u)), (0, .ref h)] → W p l e { frames := 1, cells := 1, slots := 313, locals := 40 } s m #[.ref h, .int (nI t)] below meth c H locs cells slots (MQ below (va_Qv (fun u => ∃ q w1, u h = some (ob 0 [.ref sz, .int (nI n), .ref q]) ∧ u q = some (aL G 313 (fun j => lN (w1 j))) ∧ (∀ j, w1 j < 2 ^ 64) ∧ (sm = some q ∨ (sm = none ∧ f q = none)) ∧ hE [h, q] f u ∧ (∀ x, x ≤ 20000 → (bi w1 x = true ↔ ∃ j, j * t ≤ x ∧ bi w0 (x - j * t) = true))) (hB G (hA f s.heap.size)) (hA f s.heap.size)) #[.ref h, .int (nI t)] s 1 313 (hA f s.heap.size)) (F0 m 29 ls []) := by
      intro d
      induction d with
      | zero => intro u M fi w ls h1 h2 h3 hu hw o2 a2 hEi hsp H locs cells slots hc hs hP hS hl; exact loopz u M fi w ls (by omega) h2 h3 hu hw o2 a2 hEi hsp H locs cells slots hc hs hP hS hl
      | succ d ih =>
        intro u M fi w ls h1 h2 h3 hu hw o2 a2 hEi hsp H locs cells slots hc hs hP hS hl
        refine lv_iload_n hx hb d_K_addSums_29 rfl (lv_at hl 0 rfl) ?_
        refine lv_sipush (v := 20000) hx hb d_K_addSums_30 (by decide) ?_
        refine lv_icmp_gt (tgt := 51) hx hb d_K_addSums_33 (by decide) (fun c_33 => ?_) (fun c_33 => ?_)
        · have q_33 : 20000 < u := (nI_ltI (a := 20000) (by omega) (by omega)).mp c_33
          exact g_vret C hP hS (⟨q, w, o2, a2, hw, hqs, hEi, fun x hx => (hsp x (by omega)).trans (sp_end (by omega) hx)⟩) hc hs d_K_addSums_51
        · have q_33 : ¬ 20000 < u := fun z9 => c_33 ((nI_ltI (a := 20000) (by omega) (by omega)).mpr z9)
          refine lv_aload_n hx hb d_K_addSums_36 rfl (lv_at hl 1 rfl) ?_
          refine g_get C i_K hP o2 rfl 2 (by decide) wd_182 rfl rfl d_K_addSums_37 ?_
          refine lv_iload_n hx hb d_K_addSums_40 rfl (lv_at hl 0 rfl) ?_
          refine g_callv (g_runS C hl.1 (ct_K_joinShifted fi q u w (by omega) hw a2 _) (cx_S C 2 wd_389 wd_390 wd_10 wd_391 rfl rfl (by decide +kernel) ⟨Nat.le_of_ble_eq_true rfl, Nat.le_of_ble_eq_true rfl⟩) hP rfl rfl (Nat.le_of_ble_eq_true rfl) d_K_addSums_41 ⟨hc, hs⟩) hP hS hA0 (fun f1 H locs hq hP hS => ?_)
          have o3 : f1 h = some (ob 0 [.ref sz, .int (nI n), .ref q]) := by rw [hq, va_up_ne _ _ (hm_ne o2 a2 (by simp))]; exact o2
          have a3 : f1 q = some (aL G 313 (fun j => lN (jn w (u / 64) (u % 64) j))) := by rw [hq, va_up_self]
          refine lv_iload_n hx hb d_K_addSums_44 rfl (lv_at hl 0 rfl) ?_
          refine lv_iconst (v := 2) hx hb d_K_addSums_45 (by decide) ?_
          refine lv_imul hx hb d_K_addSums_46 ?_
          refine g_eqi (y := nI (u * 2)) (pk_mul u 2) ?_
          refine lv_istore_n (lv' := [(2, .int (nI (u * 2))), (0, .ref h)]) hx hb d_K_addSums_47 rfl hl (by decide) rfl (fun ls hl => ?_)
          refine lv_goto (tgt := 29) hx hb d_K_addSums_48 (by decide) ?_
          exact ih (u * 2) (M * 2) f1 (jn w (u / 64) (u % 64)) ls (by omega) (by omega) (by omega) (by rw [hu, Nat.mul_assoc]) (fun j => jn_lt hw _ _ _) o3 a3 (fun x hx => by rw [hq, va_up_ne _ _ (fun z9 => hx (by rw [z9]; simp))]; exact hEi x hx) (sp_step hw hsp hu) H locs _ _ hc hs hP hS (lv_sub hl [0, 1] rfl)
    refine lv_iload_n hx hb d_K_addSums_23 rfl (lv_at hl 1 rfl) ?_
    refine lv_iconst (v := 1) hx hb d_K_addSums_24 (by decide) ?_
    refine va_mmax hx hb (hml.trans hl.1.symm) hown (C.w wd_386) (C.w wd_387) (C.w wd_13) (C.w wd_388) (Nat.le_of_ble_eq_true rfl) (Nat.le_of_ble_eq_true rfl) hc hs d_K_addSums_25 ?_
    refine g_eqi (y := nI t) (if_ci ht0 (by omega)) ?_
    refine lv_istore_n (lv' := [(2, .int (nI t)), (0, .ref h), (1, .int (nI t))]) hx hb d_K_addSums_28 rfl hl (by decide) rfl (fun ls hl => ?_)
    exact loop 20001 t 1 fi w0 ls (by omega) (by omega) (by omega) (by omega) hw0 o2 a2 hEi (fun x hx => ⟨fun z9 => ⟨0, by omega, by omega, by simpa using z9⟩, fun ⟨j, h1, h2, h3⟩ => by rw [show j = 0 by omega] at h3; simpa using h3⟩) H locs cells slots hc hs hP hS (lv_sub hl [0, 1] rfl)
  rcases sm with _ | q
  · refine lv_aload_n hx hb d_K_addSums_0 rfl (lv_at hl 0 rfl) ?_
    refine g_get C i_K hP o1 rfl 2 (by decide) wd_182 rfl rfl d_K_addSums_1 ?_
    refine lv_ifnonnullN hx hb d_K_addSums_4 ?_
    refine lv_aload_n hx hb d_K_addSums_7 rfl (lv_at hl 0 rfl) ?_
    refine lv_sipush (v := 313) hx hb d_K_addSums_8 (by decide) ?_
    refine g_newL C wd_57 hP hS hA0 313 (by decide) (by decide) (by decide) (Nat.le_of_ble_eq_true rfl) (Nat.le_of_ble_eq_true rfl) d_K_addSums_11 (fun q1 H hnq1 hP hS => ?_)
    obtain ⟨f2, ef2⟩ : ∃ z99, z99 = va_up f q1 (some (aL G 313 (fun _ => 0))) := ⟨_, rfl⟩
    replace hP : hH G (hA f s.heap.size) f2 H := by rw [ef2]; exact hP
    have o1_f2 := (hm_up (v := some (aL G 313 (fun _ => 0))) ef2 (hm_nn o1 hnq1)).trans o1
    have o_q1_f2 : f2 q1 = some (aL G 313 (fun _ => 0)) := by rw [ef2]; exact va_up_self _ _ _
    refine g_put C i_K t_K t_K_ok n_K hP hS o1_f2 rfl 2 (by decide) wd_182 rfl rfl rfl (rfl) (Nat.le_of_ble_eq_true rfl) d_K_addSums_13 (fun H locs hP hS => ?_)
    obtain ⟨f3, ef3⟩ : ∃ z99, z99 = va_up f2 h (some (ob 0 [.ref sz, .int (nI n), .ref q1])) := ⟨_, rfl⟩
    replace hP : hH G (hA f s.heap.size) f3 H := by rw [ef3]; exact hP
    have o1_f3 : f3 h = some (ob 0 [.ref sz, .int (nI n), .ref q1]) := by rw [ef3]; exact va_up_self _ _ _
    have o_q1_f3 := (hm_up (v := some (ob 0 [.ref sz, .int (nI n), .ref q1])) ef3 (hm_ne o_q1_f2 o1_f2 (by simp))).trans o_q1_f2
    refine lv_aload_n hx hb d_K_addSums_16 rfl (lv_at hl 0 rfl) ?_
    refine g_get C i_K hP o1_f3 rfl 2 (by decide) wd_182 rfl rfl d_K_addSums_17 ?_
    refine lv_iconst (v := 0) hx hb d_K_addSums_20 (by decide) ?_
    refine lv_lconst (v := 1) hx hb d_K_addSums_21 (by decide) ?_
    refine g_lastN C hP hS o_q1_f3 (j := 0) (by omega) (by decide) d_K_addSums_22 (fun H locs hP hS => ?_)
    obtain ⟨g5, eg5⟩ : ∃ z99, z99 = vp_updL (fun _ => 0) 0 1 := ⟨_, rfl⟩
    rw [← eg5] at hP
    obtain ⟨f4, ef4⟩ : ∃ z99, z99 = va_up f3 q1 (some (aL G 313 g5)) := ⟨_, rfl⟩
    replace hP : hH G (hA f s.heap.size) f4 H := by rw [ef4]; exact hP
    have o1_f4 := (hm_up (v := some (aL G 313 g5)) ef4 (hm_ne o1_f3 o_q1_f3 (by simp))).trans o1_f3
    have o_q1_f4 : f4 q1 = some (aL G 313 g5) := by rw [ef4]; exact va_up_self _ _ _
    exact tail q1 f4 ls (Or.inr ⟨rfl, hnq1⟩) o1_f4 (by rw [o_q1_f4, eg5]; congr 2; funext j; unfold vp_updL; rw [hs0 rfl, w_0]; by_cases hj : j = 0; rw [if_pos hj, if_pos hj]; rfl; rw [if_neg hj, if_neg hj]; rfl) (by rw [ef4]; refine hE.up ?_ (by simp); rw [ef3]; refine hE.up ?_ (by simp); rw [ef2]; refine hE.up ?_ (by simp); exact hE.rf) _ _ _ _ (Nat.le_of_ble_eq_true rfl) (Nat.le_of_ble_eq_true rfl) hP hS (lv_sub hl [0, 1] rfl)
  · refine lv_aload_n hx hb d_K_addSums_0 rfl (lv_at hl 0 rfl) ?_
    refine g_get C i_K hP o1 rfl 2 (by decide) wd_182 rfl rfl d_K_addSums_1 ?_
    refine lv_ifnonnull (tgt := 23) hx hb d_K_addSums_4 (by decide) ?_
    exact tail q f ls (Or.inl rfl) o1 (hs1 q rfl) hE.rf _ _ _ _ (Nat.zero_le _) (Nat.zero_le _) hP hS (lv_sub hl [0, 1] rfl)
set_option maxHeartbeats 4000000 in
set_option maxRecDepth 100000 in
theorem ct_K_add {l : Launch} {G : hG} (f : hm) (h sz n t : Nat) (PK : Nat → Int32) (sm : Option Nat) (w0 : Nat → Nat) (hn : n ≤ 6) (ht0 : 1 ≤ t) (ht : t ≤ 1000) (hw0 : ∀ j, w0 j < 2 ^ 64) (o1 : f h = some (ob 0 [.ref sz, .int (nI n), va_rf sm])) (a1 : f sz = some (aI G 6 PK)) (hs0 : sm = none → w0 = w_0) (hs1 : ∀ q, sm = some q → f q = some (aL G 313 (fun j => lN (w0 j)))) : ci_ l G y_K_add w_K_add { frames := 2, cells := 1, slots := 313, locals := 70 } [.ref h, .int (nI t)] f (fun r u => (r = 0 ∧ u = f ∧ (n = 6 ∨ ∃ i, i < n ∧ PK i = nI t)) ∨ (r = 1 ∧ n < 6 ∧ (∀ i, i < n → PK i ≠ nI t) ∧ ∃ q w1, u h = some (ob 0 [.ref sz, .int (nI (n + 1)), .ref q]) ∧ u sz = some (aI G 6 (upd PK n (nI t))) ∧ u q = some (aL G 313 (fun j => lN (w1 j))) ∧ (∀ j, w1 j < 2 ^ 64) ∧ (sm = some q ∨ (sm = none ∧ f q = none)) ∧ hE [h, sz, q] f u ∧ (∀ x, x ≤ 20000 → (bi w1 x = true ↔ ∃ j, j * t ≤ x ∧ bi w0 (x - j * t) = true)))) := by
  intro sz
  refine h_ofW (cc := c_K_add) (maxL := 3) (ret := (some .boolean)) (by decide) rfl (Nat.le_of_ble_eq_true rfl) ?_
  intro p e s m below meth c ls C hin hsz hP hl
  obtain ⟨hx, hb, hml, hown, -, -, -, -⟩ := id C
  subst hsz
  have hA0 : ∀ q, s.heap.size ≤ q → hA f s.heap.size q := hA.new
  have hS : va_S (hA f s.heap.size) s.heap s.heap [] := va_S.rf
  replace hl : lv_has ls 3 [(0, .ref h), (1, .int (nI t))] := hl
  have loop : n < 6 → ∀ (d i : Nat) (ls : Array Slot), n < i + d → i ≤ n → (∀ j, j < i → PK j ≠ nI t) → lv_has ls 3 [(2, .int (nI i)), (0, .ref h), (1, .int (nI t))] → W p l e { frames := 2, cells := 1, slots := 313, locals := 70 } s m #[.ref h, .int (nI t)] below meth c s.heap [] 0 0 (MQ below (va_Qi (fun r u => (r = 0 ∧ u = f ∧ (n = 6 ∨ ∃ i, i < n ∧ PK i = nI t)) ∨ (r = 1 ∧ n < 6 ∧ (∀ i, i < n → PK i ≠ nI t) ∧ ∃ q w1, u h = some (ob 0 [.ref sz, .int (nI (n + 1)), .ref q]) ∧ u sz = some (aI G 6 (upd PK n (nI t))) ∧ u q = some (aL G 313 (fun j => lN (w1 j))) ∧ (∀ j, w1 j < 2 ^ 64) ∧ (sm = some q ∨ (sm = none ∧ f q = none)) ∧ hE [h, sz, q] f u ∧ (∀ x, x ≤ 20000 → (bi w1 x = true ↔ ∃ j, j * t ≤ x ∧ bi w0 (x - j * t) = true)))) (hB G (hA f s.heap.size)) (hA f s.heap.size)) #[.ref h, .int (nI t)] s 1 313 (hA f s.heap.size)) (F0 m 13 ls []) := by
    intro hn6 d
    induction d with
    | zero => intro i ls h1 h2; exact absurd h1 (by omega)
    | succ d ih =>
      intro i ls h1 h2 hall hl
      refine lv_iload_n hx hb d_K_add_13 rfl (lv_at hl 0 rfl) ?_
      refine lv_aload_n hx hb d_K_add_14 rfl (lv_at hl 1 rfl) ?_
      refine g_get C i_K hP o1 rfl 1 (by decide) wd_181 rfl rfl d_K_add_15 ?_
      refine lv_icmp_ge (tgt := 39) hx hb d_K_add_18 (by decide) (fun c_18 => ?_) (fun c_18 => ?_)
      · have q_18 : i = n := by have := (nI_leI (by omega) (by omega)).mp c_18; omega
        refine lv_aload_n hx hb d_K_add_39 rfl (lv_at hl 1 rfl) ?_
        refine g_get C i_K hP o1 rfl 0 (by decide) wd_180 rfl rfl d_K_add_40 ?_
        refine lv_aload_n hx hb d_K_add_43 rfl (lv_at hl 1 rfl) ?_
        refine g_get C i_K hP o1 rfl 1 (by decide) wd_181 rfl rfl d_K_add_44 ?_
        refine lv_iload_n hx hb d_K_add_47 rfl (lv_at hl 2 rfl) ?_
        refine g_iastN C hP hS a1 (j := n) (by omega) (by decide) d_K_add_48 (fun H locs hP hS => ?_)
        obtain ⟨g2, eg2⟩ : ∃ z99, z99 = upd PK n (nI t) := ⟨_, rfl⟩
        rw [← eg2] at hP
        obtain ⟨f1, ef1⟩ : ∃ z99, z99 = va_up f sz (some (aI G 6 g2)) := ⟨_, rfl⟩
        replace hP : hH G (hA f s.heap.size) f1 H := by rw [ef1]; exact hP
        have o1_f1 := (hm_up (v := some (aI G 6 g2)) ef1 (hm_ne o1 a1 (by simp))).trans o1
        have a1_f1 : f1 sz = some (aI G 6 g2) := by rw [ef1]; exact va_up_self _ _ _
        have hs8 : ∀ q, sm = some q → f1 q = some (aL G 313 (fun j => lN (w0 j))) := fun q hq9 => (hm_up ef1 (hm_ne (hs1 q hq9) a1 (by simp))).trans (hs1 q hq9)
        refine lv_aload_n hx hb d_K_add_49 rfl (lv_at hl 1 rfl) ?_
        refine lv_dup hx hb d_K_add_50 rfl ?_
        refine g_get C i_K hP o1_f1 rfl 1 (by decide) wd_181 rfl rfl d_K_add_51 ?_
        refine lv_iconst (v := 1) hx hb d_K_add_54 (by decide) ?_
        refine lv_iadd hx hb d_K_add_55 ?_
        refine g_eqi (y := nI (n + 1)) (nI_1 n) ?_
        refine g_put C i_K t_K t_K_ok n_K hP hS o1_f1 rfl 1 (by decide) wd_181 rfl rfl rfl (rfl) (Nat.le_of_ble_eq_true rfl) d_K_add_56 (fun H locs hP hS => ?_)
        obtain ⟨f3, ef3⟩ : ∃ z99, z99 = va_up f1 h (some (ob 0 [.ref sz, .int (nI (n + 1)), va_rf sm])) := ⟨_, rfl⟩
        replace hP : hH G (hA f s.heap.size) f3 H := by rw [ef3]; exact hP
        have o1_f3 : f3 h = some (ob 0 [.ref sz, .int (nI (n + 1)), va_rf sm]) := by rw [ef3]; exact va_up_self _ _ _
        have a1_f3 := (hm_up (v := some (ob 0 [.ref sz, .int (nI (n + 1)), va_rf sm])) ef3 (hm_ne a1_f1 o1_f1 (by simp))).trans a1_f1
        refine lv_aload_n hx hb d_K_add_59 rfl (lv_at hl 1 rfl) ?_
        refine lv_iload_n hx hb d_K_add_60 rfl (lv_at hl 2 rfl) ?_
        have hs9 : ∀ q, sm = some q → f3 q = some (aL G 313 (fun j => lN (w0 j))) := fun q hq9 => (hm_up ef3 (hm_ne (hs8 q hq9) o1_f1 (by simp))).trans (hs8 q hq9)
        refine g_callv (g_runV C hl.1 (ct_K_addSums f3 h sz (n + 1) t sm w0 ht0 ht hw0 o1_f3 hs0 hs9 _) (cx_V C 1 wd_382 wd_384 wp_7 wd_10 wd_385 rfl rfl (by decide +kernel) ⟨Nat.le_of_ble_eq_true rfl, Nat.le_of_ble_eq_true rfl⟩) hP o1_f3 rfl rfl rfl (Nat.le_of_ble_eq_true rfl) d_K_add_61 ⟨Nat.le_of_ble_eq_true rfl, Nat.le_of_ble_eq_true rfl⟩) hP hS hA0 (fun f4 H locs hq hP hS => ?_)
        obtain ⟨q, w1, o5, a5, hw1, hqs, hE5, hbi⟩ := hq
        have a6 : f4 sz = some (aI G 6 (upd PK n (nI t))) := (hE5 sz (ni_2 (hm_ne a1_f3 o1_f3 (by simp)) (by rcases hqs with z9 | z9; exact hm_ne a1_f3 (hs9 q z9) (by simp); exact hm_nn a1_f3 z9.2))).trans (by rw [a1_f3, eg2])
        refine lv_iconst (v := 1) hx hb d_K_add_64 (by decide) ?_
        exact g_zret C (by first | exact Or.inl rfl | exact Or.inr rfl) hP hS (Or.inr ⟨rfl, hn6, (by rw [← q_18]; exact hall), q, w1, o5, a6, a5, hw1, hqs.imp id (fun z9 => ⟨z9.1, (hm_nb ef1 (hm_nb ef3 z9.2 (by simp)).2 (by simp)).2⟩), (by rw [ef3, ef1] at hE5; exact hE.trans (S := [h, sz, q]) (hE.up (hE.up hE.rf (by simp)) (by simp)) (hE5.mono (by simp))), hbi⟩) (Nat.le_of_ble_eq_true rfl) (Nat.le_of_ble_eq_true rfl) d_K_add_65
      · have q_18 : ¬ n ≤ i := fun z9 => c_18 ((nI_leI (by omega) (by omega)).mpr z9)
        refine lv_aload_n hx hb d_K_add_21 rfl (lv_at hl 1 rfl) ?_
        refine g_get C i_K hP o1 rfl 0 (by decide) wd_180 rfl rfl d_K_add_22 ?_
        refine lv_iload_n hx hb d_K_add_25 rfl (lv_at hl 0 rfl) ?_
        refine g_ialdN C hP a1 (j := i) (by omega) (by decide) d_K_add_26 ?_
        refine lv_iload_n hx hb d_K_add_27 rfl (lv_at hl 2 rfl) ?_
        refine lv_icmp_ne (tgt := 33) hx hb d_K_add_28 (by decide) (fun c_28 => ?_) (fun c_28 => ?_)
        · have q_28 := c_28
          refine lv_iinc (v := nI (i + 1)) (lv' := [(2, .int (nI (i + 1))), (0, .ref h), (1, .int (nI t))]) hx hb d_K_add_33 hl (k := 0) rfl (nI_1 i) (by decide) rfl (fun ls hl => ?_)
          refine lv_goto (tgt := 13) hx hb d_K_add_36 (by decide) ?_
          exact ih (i + 1) ls (by omega) (by omega) (fun j hj => by rcases Nat.lt_succ_iff_lt_or_eq.mp hj with z9 | z9; exact hall j z9; rw [z9]; exact q_28) (lv_sub hl [0, 1, 2] rfl)
        · have q_28 := c_28
          refine lv_iconst (v := 0) hx hb d_K_add_31 (by decide) ?_
          exact g_zret C (by first | exact Or.inl rfl | exact Or.inr rfl) hP hS (Or.inl ⟨rfl, rfl, Or.inr ⟨i, by omega, q_28⟩⟩) (Nat.le_of_ble_eq_true rfl) (Nat.le_of_ble_eq_true rfl) d_K_add_32
  refine lv_aload_n hx hb d_K_add_0 rfl (lv_at hl 0 rfl) ?_
  refine g_get C i_K hP o1 rfl 1 (by decide) wd_181 rfl rfl d_K_add_1 ?_
  refine lv_bipush (v := 6) hx hb d_K_add_4 (by decide) ?_
  refine lv_icmp_lt (tgt := 11) hx hb d_K_add_6 (by decide) (fun c_6 => ?_) (fun c_6 => ?_)
  · have q_6 : n < 6 := (nI_ltI (b := 6) (by omega) (by omega)).mp c_6
    refine lv_iconst (v := 0) hx hb d_K_add_11 (by decide) ?_
    refine lv_istore_n (lv' := [(2, .int 0), (0, .ref h), (1, .int (nI t))]) hx hb d_K_add_12 rfl hl (by decide) rfl (fun ls hl => ?_)
    exact loop q_6 7 0 ls (by omega) (by omega) (fun _ z9 => absurd z9 (by omega)) (lv_sub hl [0, 1, 2] rfl)
  · have q_6 : n = 6 := by have : ¬ n < 6 := fun z9 => c_6 ((nI_ltI (b := 6) (by omega) (by omega)).mpr z9); omega
    refine lv_iconst (v := 0) hx hb d_K_add_9 (by decide) ?_
    exact g_zret C (by first | exact Or.inl rfl | exact Or.inr rfl) hP hS (Or.inl ⟨rfl, rfl, Or.inl q_6⟩) (Nat.le_of_ble_eq_true rfl) (Nat.le_of_ble_eq_true rfl) d_K_add_10
theorem bi_no {w : Nat → Nat} {T x : Nat} (h : w (T / 64) / 2 ^ (T % 64) = 0) (h1 : T ≤ x) (h2 : x < (T / 64 + 1) * 64) : bi w x = false := by
  unfold bi
  have d1 : x / 64 = T / 64 := by omega
  rw [d1]
  have h3 : w (T / 64) < 2 ^ (T % 64) := by
    rcases Nat.lt_or_ge (w (T / 64)) (2 ^ (T % 64)) with z | z
    · exact z
    · have := Nat.div_pos z (Nat.two_pow_pos _)
      omega
  exact Nat.testBit_lt_two_pow (Nat.lt_of_lt_of_le h3 (Nat.pow_le_pow_right (by decide) (by omega)))
theorem wb_z {n : Nat} (hn : n < 2 ^ 64) (h : lN n = 0) : n = 0 := by
  have := wb_tn hn
  rw [h] at this
  exact this.symm
theorem bi_bit {w : Nat → Nat} {T : Nat} : w (T / 64) / 2 ^ (T % 64) % 2 = 0 ↔ bi w T = false := by
  unfold bi
  rw [Nat.testBit_eq_decide_div_mod_eq, decide_eq_false_iff_not]
  omega
theorem mn_l {a b : Nat} (ha : a ≤ b) (hb : b < 2 ^ 63) : (if lN b < lN a then lN b else lN a) = lN a := by
  rw [if_neg (fun z => absurd ((pk_lLT hb (by omega)).mp z) (by omega))]
theorem mx_0 {a : Nat} (ha : a < 2 ^ 63) : (if lN a < (0 : Int64) then (0 : Int64) else lN a) = lN a := by
  rw [if_neg (fun z : lN a < (0 : Int64) => absurd ((pk_lLT (b := 0) ha (by omega)).mp z) (by omega))]
theorem mx_m1 {a : Nat} (ha : a < 2 ^ 63) : (if lN a < (-1 : Int64) then (-1 : Int64) else lN a) = lN a := by
  rw [if_neg (fun z : lN a < (-1 : Int64) => by
    rw [Int64.lt_iff_toInt_lt, pk_lT ha] at z
    have : (-1 : Int64).toInt = -1 := by decide
    omega)]
set_option maxHeartbeats 4000000 in
set_option maxRecDepth 100000 in
theorem ct_K_firstSum {l : Launch} {G : hG} (f : hm) (h : Nat) (v0 v1 : Value) (sm : Option Nat) (w : Nat → Nat) (hw : ∀ j, w j < 2 ^ 64) (o1 : f h = some (ob 0 [v0, v1, va_rf sm])) (hs1 : ∀ q, sm = some q → f q = some (aL G 313 (fun j => lN (w j)))) (F E : Nat) (hF : F ≤ 20000) (hE : E ≤ 20000) : ci_ l G y_K_firstSum w_K_firstSum { frames := 1, cells := 0, slots := 0, locals := 40 } [.ref h, .long (lN F), .long (lN E)] f (fun r u => ((∃ T, F ≤ T ∧ T ≤ E ∧ (sm = none ∨ bi w T = true) ∧ (∀ x, F ≤ x → x < T → ¬ (sm = none ∨ bi w x = true)) ∧ r = nI T) ∨ (r = -1 ∧ ∀ x, F ≤ x → x ≤ E → ¬ (sm = none ∨ bi w x = true))) ∧ u = f) := by
  intro sz
  refine h_ofW (cc := c_K_firstSum) (maxL := 9) (ret := (some .int)) (by decide) rfl (Nat.le_of_ble_eq_true rfl) ?_
  intro p e s m below meth c ls C hin hsz hP hl
  obtain ⟨hx, hb, hml, hown, -, -, -, -⟩ := id C
  subst hsz
  have hA0 : ∀ q, s.heap.size ≤ q → hA f s.heap.size q := hA.new
  have hS : va_S (hA f s.heap.size) s.heap s.heap [] := va_S.rf
  replace hl : lv_has ls 9 [(0, .ref h), (1, .long (lN F)), (3, .long (lN E))] := hl
  have hw63 : ∀ j, w j < 2 ^ 64 := hw
  rcases sm with _ | q
  · skip
    have loopz : ∀ (T : Nat) (ls : Array Slot), E < T → T ≤ 20032 → F ≤ T → (∀ x, F ≤ x → x < T → ¬ ((none : Option Nat) = none ∨ bi w x = true)) → lv_has ls 9 [(6, .int (nI E)), (5, .int (nI T)), (0, .ref h)] → W p l e { frames := 1, cells := 0, slots := 0, locals := 40 } s m #[.ref h, .long (lN F), .long (lN E)] below meth c s.heap [] 0 0 (MQ below (va_Qi (fun r u => ((∃ T, F ≤ T ∧ T ≤ E ∧ ((none : Option Nat) = none ∨ bi w T = true) ∧ (∀ x, F ≤ x → x < T → ¬ ((none : Option Nat) = none ∨ bi w x = true)) ∧ r = nI T) ∨ (r = -1 ∧ ∀ x, F ≤ x → x ≤ E → ¬ ((none : Option Nat) = none ∨ bi w x = true))) ∧ u = f) (hB G (hA f s.heap.size)) (hA f s.heap.size)) #[.ref h, .long (lN F), .long (lN E)] s 0 0 (hA f s.heap.size)) (F0 m 30 ls []) := by
      intro T ls h1 h2 h3 hno hl
      refine lv_iload hx hb d_K_firstSum_30 (lv_at hl 1 rfl) ?_
      refine lv_iload hx hb d_K_firstSum_32 (lv_at hl 0 rfl) ?_
      refine lv_icmp_gt (tgt := 107) hx hb d_K_firstSum_34 (by decide) (fun c_34 => ?_) (fun c_34 => ?_)
      · have q_34 : ¬ T ≤ E := by omega
        refine lv_iconst (v := (-1)) hx hb d_K_firstSum_107 (by decide) ?_
        exact g_iret C hP hS (⟨Or.inr ⟨rfl, fun x h1 h2 => hno x h1 (by omega)⟩, rfl⟩) (Nat.le_of_ble_eq_true rfl) (Nat.le_of_ble_eq_true rfl) d_K_firstSum_108
      · exact absurd ((nI_ltI (by omega) (by omega)).mpr h1) c_34
    have loop : ∀ (d T : Nat) (ls : Array Slot), E < T + d → T ≤ 20032 → F ≤ T → (∀ x, F ≤ x → x < T → ¬ ((none : Option Nat) = none ∨ bi w x = true)) → lv_has ls 9 [(6, .int (nI E)), (5, .int (nI T)), (0, .ref h)] → W p l e { frames := 1, cells := 0, slots := 0, locals := 40 } s m #[.ref h, .long (lN F), .long (lN E)] below meth c s.heap [] 0 0 (MQ below (va_Qi (fun r u => ((∃ T, F ≤ T ∧ T ≤ E ∧ ((none : Option Nat) = none ∨ bi w T = true) ∧ (∀ x, F ≤ x → x < T → ¬ ((none : Option Nat) = none ∨ bi w x = true)) ∧ r = nI T) ∨ (r = -1 ∧ ∀ x, F ≤ x → x ≤ E → ¬ ((none : Option Nat) = none ∨ bi w x = true))) ∧ u = f) (hB G (hA f s.heap.size)) (hA f s.heap.size)) #[.ref h, .long (lN F), .long (lN E)] s 0 0 (hA f s.heap.size)) (F0 m 30 ls []) := by
      intro d
      induction d with
      | zero => intro T ls h1 h2 h3 hno hl; exact loopz T ls (by omega) h2 h3 hno hl
      | succ d ih =>
        intro T ls h1 h2 h3 hno hl
        refine lv_iload hx hb d_K_firstSum_30 (lv_at hl 1 rfl) ?_
        refine lv_iload hx hb d_K_firstSum_32 (lv_at hl 0 rfl) ?_
        refine lv_icmp_gt (tgt := 107) hx hb d_K_firstSum_34 (by decide) (fun c_34 => ?_) (fun c_34 => ?_)
        · have q_34 : ¬ T ≤ E := fun z9 => absurd ((nI_ltI (by omega) (by omega)).mp c_34) (by omega)
          refine lv_iconst (v := (-1)) hx hb d_K_firstSum_107 (by decide) ?_
          exact g_iret C hP hS (⟨Or.inr ⟨rfl, fun x h1 h2 => hno x h1 (by omega)⟩, rfl⟩) (Nat.le_of_ble_eq_true rfl) (Nat.le_of_ble_eq_true rfl) d_K_firstSum_108
        · have q_34 : T ≤ E := by have : ¬ E < T := fun z9 => c_34 ((nI_ltI (by omega) (by omega)).mpr z9); omega
          refine lv_aload_n hx hb d_K_firstSum_37 rfl (lv_at hl 2 rfl) ?_
          refine g_get C i_K hP o1 rfl 2 (by decide) wd_182 rfl rfl d_K_firstSum_38 ?_
          refine lv_ifnonnullN hx hb d_K_firstSum_41 ?_
          refine lv_lconst (v := 1) hx hb d_K_firstSum_44 (by decide) ?_
          refine lv_goto (tgt := 64) hx hb d_K_firstSum_45 (by decide) ?_
          refine lv_lstore (lv' := [(7, .long 1), (6, .int (nI E)), (5, .int (nI T)), (0, .ref h)]) hx hb d_K_firstSum_64 hl (by decide) rfl (fun ls hl => ?_)
          refine lv_lload hx hb d_K_firstSum_66 (lv_at hl 0 rfl) ?_
          refine lv_lconst (v := 1) hx hb d_K_firstSum_68 (by decide) ?_
          refine lv_land hx hb d_K_firstSum_69 ?_
          refine g_eql (y := 1) (by decide) ?_
          refine lv_lconst (v := 0) hx hb d_K_firstSum_70 (by decide) ?_
          refine W.lcmp hx hb d_K_firstSum_71 ?_
          refine lv_if_eq (tgt := 78) hx hb d_K_firstSum_72 (by decide) (fun c_72 => ?_) (fun c_72 => ?_)
          · have c_72 := (lg_cmp_eq _ _).mp c_72
            exact absurd c_72 (by decide)
          · have c_72 := fun z => c_72 ((lg_cmp_eq _ _).mpr z)
            have q_72 : (none : Option Nat) = none ∨ bi w T = true := Or.inl rfl
            refine lv_iload hx hb d_K_firstSum_75 (lv_at hl 2 rfl) ?_
            exact g_iret C hP hS (⟨Or.inl ⟨T, by omega, by omega, q_72, hno, rfl⟩, rfl⟩) (Nat.le_of_ble_eq_true rfl) (Nat.le_of_ble_eq_true rfl) d_K_firstSum_77
    refine lv_lconst (v := 0) hx hb d_K_firstSum_0 (by decide) ?_
    refine lv_lload_n hx hb d_K_firstSum_1 rfl (lv_at hl 1 rfl) ?_
    refine lv_ldc2 hx hb hown (C.w wd_448) d_K_firstSum_2 ?_
    refine va_mmin_long hx hb (hml.trans hl.1.symm) hown (C.w wd_449) (C.w wd_442) (C.w wd_13) (C.w wd_443) (Nat.le_of_ble_eq_true rfl) (Nat.le_of_ble_eq_true rfl) (Nat.zero_le _) (Nat.zero_le _) d_K_firstSum_5 ?_
    refine g_eql (y := lN F) (mn_l (b := 20001) (by omega) (by omega)) ?_
    refine va_mmax_long hx hb (hml.trans hl.1.symm) hown (C.w wd_450) (C.w wd_282) (C.w wd_13) (C.w wd_283) (Nat.le_of_ble_eq_true rfl) (Nat.le_of_ble_eq_true rfl) (Nat.zero_le _) (Nat.zero_le _) d_K_firstSum_8 ?_
    refine g_eql (y := lN F) (by have := mx_0 (a := F) (by omega); first | exact this | (rw [if_pos_or_neg] )) ?_
    refine lv_l2i (v := (lN F).toInt32) hx hb d_K_firstSum_11 rfl ?_
    refine g_eqi (y := nI F) (lN_i F) ?_
    refine lv_istore (lv' := [(5, .int (nI F)), (0, .ref h), (1, .long (lN F)), (3, .long (lN E))]) hx hb d_K_firstSum_12 hl (by decide) rfl (fun ls hl => ?_)
    refine lv_ldc2 hx hb hown (C.w wd_451) d_K_firstSum_14 ?_
    refine lv_lload_n hx hb d_K_firstSum_17 rfl (lv_at hl 3 rfl) ?_
    refine lv_ldc2 hx hb hown (C.w wd_452) d_K_firstSum_18 ?_
    refine va_mmin_long hx hb (hml.trans hl.1.symm) hown (C.w wd_449) (C.w wd_442) (C.w wd_13) (C.w wd_443) (Nat.le_of_ble_eq_true rfl) (Nat.le_of_ble_eq_true rfl) (Nat.zero_le _) (Nat.zero_le _) d_K_firstSum_21 ?_
    refine g_eql (y := lN E) (mn_l (b := 20000) (by omega) (by omega)) ?_
    refine va_mmax_long hx hb (hml.trans hl.1.symm) hown (C.w wd_450) (C.w wd_282) (C.w wd_13) (C.w wd_283) (Nat.le_of_ble_eq_true rfl) (Nat.le_of_ble_eq_true rfl) (Nat.zero_le _) (Nat.zero_le _) d_K_firstSum_24 ?_
    refine g_eql (y := lN E) (mx_m1 (by omega)) ?_
    refine lv_l2i (v := (lN E).toInt32) hx hb d_K_firstSum_27 rfl ?_
    refine g_eqi (y := nI E) (lN_i E) ?_
    refine lv_istore (lv' := [(6, .int (nI E)), (5, .int (nI F)), (0, .ref h), (1, .long (lN F)), (3, .long (lN E))]) hx hb d_K_firstSum_28 hl (by decide) rfl (fun ls hl => ?_)
    exact loop (E + 1) F ls (by omega) (by omega) (Nat.le_refl F) (fun x h1 h2 => absurd h1 (by omega)) (lv_sub hl [0, 1, 2] rfl)
  · skip
    have loopz : ∀ (T : Nat) (ls : Array Slot), E < T → T ≤ 20032 → F ≤ T → (∀ x, F ≤ x → x < T → ¬ (some q = none ∨ bi w x = true)) → lv_has ls 9 [(6, .int (nI E)), (5, .int (nI T)), (0, .ref h)] → W p l e { frames := 1, cells := 0, slots := 0, locals := 40 } s m #[.ref h, .long (lN F), .long (lN E)] below meth c s.heap [] 0 0 (MQ below (va_Qi (fun r u => ((∃ T, F ≤ T ∧ T ≤ E ∧ (some q = none ∨ bi w T = true) ∧ (∀ x, F ≤ x → x < T → ¬ (some q = none ∨ bi w x = true)) ∧ r = nI T) ∨ (r = -1 ∧ ∀ x, F ≤ x → x ≤ E → ¬ (some q = none ∨ bi w x = true))) ∧ u = f) (hB G (hA f s.heap.size)) (hA f s.heap.size)) #[.ref h, .long (lN F), .long (lN E)] s 0 0 (hA f s.heap.size)) (F0 m 30 ls []) := by
      intro T ls h1 h2 h3 hno hl
      refine lv_iload hx hb d_K_firstSum_30 (lv_at hl 1 rfl) ?_
      refine lv_iload hx hb d_K_firstSum_32 (lv_at hl 0 rfl) ?_
      refine lv_icmp_gt (tgt := 107) hx hb d_K_firstSum_34 (by decide) (fun c_34 => ?_) (fun c_34 => ?_)
      · have q_34 : ¬ T ≤ E := by omega
        refine lv_iconst (v := (-1)) hx hb d_K_firstSum_107 (by decide) ?_
        exact g_iret C hP hS (⟨Or.inr ⟨rfl, fun x h1 h2 => hno x h1 (by omega)⟩, rfl⟩) (Nat.le_of_ble_eq_true rfl) (Nat.le_of_ble_eq_true rfl) d_K_firstSum_108
      · exact absurd ((nI_ltI (by omega) (by omega)).mpr h1) c_34
    have loop : ∀ (d T : Nat) (ls : Array Slot), E < T + d → T ≤ 20032 → F ≤ T → (∀ x, F ≤ x → x < T → ¬ (some q = none ∨ bi w x = true)) → lv_has ls 9 [(6, .int (nI E)), (5, .int (nI T)), (0, .ref h)] → W p l e { frames := 1, cells := 0, slots := 0, locals := 40 } s m #[.ref h, .long (lN F), .long (lN E)] below meth c s.heap [] 0 0 (MQ below (va_Qi (fun r u => ((∃ T, F ≤ T ∧ T ≤ E ∧ (some q = none ∨ bi w T = true) ∧ (∀ x, F ≤ x → x < T → ¬ (some q = none ∨ bi w x = true)) ∧ r = nI T) ∨ (r = -1 ∧ ∀ x, F ≤ x → x ≤ E → ¬ (some q = none ∨ bi w x = true))) ∧ u = f) (hB G (hA f s.heap.size)) (hA f s.heap.size)) #[.ref h, .long (lN F), .long (lN E)] s 0 0 (hA f s.heap.size)) (F0 m 30 ls []) := by
      intro d
      induction d with
      | zero => intro T ls h1 h2 h3 hno hl; exact loopz T ls (by omega) h2 h3 hno hl
      | succ d ih =>
        intro T ls h1 h2 h3 hno hl
        refine lv_iload hx hb d_K_firstSum_30 (lv_at hl 1 rfl) ?_
        refine lv_iload hx hb d_K_firstSum_32 (lv_at hl 0 rfl) ?_
        refine lv_icmp_gt (tgt := 107) hx hb d_K_firstSum_34 (by decide) (fun c_34 => ?_) (fun c_34 => ?_)
        · have q_34 : ¬ T ≤ E := fun z9 => absurd ((nI_ltI (by omega) (by omega)).mp c_34) (by omega)
          refine lv_iconst (v := (-1)) hx hb d_K_firstSum_107 (by decide) ?_
          exact g_iret C hP hS (⟨Or.inr ⟨rfl, fun x h1 h2 => hno x h1 (by omega)⟩, rfl⟩) (Nat.le_of_ble_eq_true rfl) (Nat.le_of_ble_eq_true rfl) d_K_firstSum_108
        · have q_34 : T ≤ E := by have : ¬ E < T := fun z9 => c_34 ((nI_ltI (by omega) (by omega)).mpr z9); omega
          refine lv_aload_n hx hb d_K_firstSum_37 rfl (lv_at hl 2 rfl) ?_
          refine g_get C i_K hP o1 rfl 2 (by decide) wd_182 rfl rfl d_K_firstSum_38 ?_
          refine lv_ifnonnull (tgt := 48) hx hb d_K_firstSum_41 (by decide) ?_
          refine lv_aload_n hx hb d_K_firstSum_48 rfl (lv_at hl 2 rfl) ?_
          refine g_get C i_K hP o1 rfl 2 (by decide) wd_182 rfl rfl d_K_firstSum_49 ?_
          refine lv_iload hx hb d_K_firstSum_52 (lv_at hl 1 rfl) ?_
          refine lv_bipush (v := 64) hx hb d_K_firstSum_54 (by decide) ?_
          refine lv_idiv hx hb d_K_firstSum_56 (by decide) ?_
          refine g_eqi (y := nI (T / 64)) (pk_div (d := 64) (by omega) (by omega) (by omega)) ?_
          refine g_laldN C hP (hs1 q rfl) (j := (T / 64)) (by omega) (by decide) d_K_firstSum_57 ?_
          refine lv_iload hx hb d_K_firstSum_58 (lv_at hl 1 rfl) ?_
          refine lv_bipush (v := 64) hx hb d_K_firstSum_60 (by decide) ?_
          refine lv_irem hx hb d_K_firstSum_62 (by decide) ?_
          refine g_eqi (y := nI (T % 64)) (pk_rem (d := 64) (by omega) (by omega) (by omega)) ?_
          refine lv_lushr (v := (((fun j => lN (w j)) (T / 64)).toUInt64 >>> ((nI (T % 64)).toInt64.toUInt64 &&& Int64.toUInt64 63)).toInt64) hx hb d_K_firstSum_63 rfl ?_
          refine g_eql (y := lN (w (T / 64) / 2 ^ (T % 64))) (wb_shr (hw _) (by omega)) ?_
          refine lv_lstore (lv' := [(7, .long (lN (w (T / 64) / 2 ^ (T % 64)))), (6, .int (nI E)), (5, .int (nI T)), (0, .ref h)]) hx hb d_K_firstSum_64 hl (by decide) rfl (fun ls hl => ?_)
          refine lv_lload hx hb d_K_firstSum_66 (lv_at hl 0 rfl) ?_
          refine lv_lconst (v := 1) hx hb d_K_firstSum_68 (by decide) ?_
          refine lv_land hx hb d_K_firstSum_69 ?_
          refine g_eql (y := lN (w (T / 64) / 2 ^ (T % 64) % 2)) (wb_a1 (Nat.lt_of_le_of_lt (Nat.div_le_self _ _) (hw _))) ?_
          refine lv_lconst (v := 0) hx hb d_K_firstSum_70 (by decide) ?_
          refine W.lcmp hx hb d_K_firstSum_71 ?_
          refine lv_if_eq (tgt := 78) hx hb d_K_firstSum_72 (by decide) (fun c_72 => ?_) (fun c_72 => ?_)
          · have c_72 := (lg_cmp_eq _ _).mp c_72
            have q_72 : bi w T = false := bi_bit.mp ((pk_lEQ (b := 0) (by omega) (by omega)).mp c_72)
            refine lv_lload hx hb d_K_firstSum_78 (lv_at hl 0 rfl) ?_
            refine lv_lconst (v := 0) hx hb d_K_firstSum_80 (by decide) ?_
            refine W.lcmp hx hb d_K_firstSum_81 ?_
            refine lv_if_ne (tgt := 98) hx hb d_K_firstSum_82 (by decide) (fun c_82 => ?_) (fun c_82 => ?_)
            · have c_82 := fun z => c_82 ((lg_cmp_eq _ _).mpr z)
              skip
              refine lv_iload hx hb d_K_firstSum_98 (lv_at hl 2 rfl) ?_
              refine lv_iconst (v := 1) hx hb d_K_firstSum_100 (by decide) ?_
              refine lv_iadd hx hb d_K_firstSum_101 ?_
              refine g_eqi (y := nI (T + 1)) (nI_1 T) ?_
              refine lv_istore (lv' := [(5, .int (nI (T + 1))), (7, .long (lN (w (T / 64) / 2 ^ (T % 64)))), (6, .int (nI E)), (0, .ref h)]) hx hb d_K_firstSum_102 hl (by decide) rfl (fun ls hl => ?_)
              refine lv_goto (tgt := 30) hx hb d_K_firstSum_104 (by decide) ?_
              exact ih (T + 1) ls (by omega) (by omega) (by omega) (fun x h1 h2 => by rcases Nat.lt_succ_iff_lt_or_eq.mp h2 with z9 | z9; exact hno x h1 z9; rw [z9, q_72]; simp) (lv_sub hl [2, 0, 3] rfl)
            · have c_82 := (lg_cmp_eq _ _).mp c_82
              have q_82 : w (T / 64) / 2 ^ (T % 64) = 0 := wb_z (Nat.lt_of_le_of_lt (Nat.div_le_self _ _) (hw _)) c_82
              refine lv_iload hx hb d_K_firstSum_85 (lv_at hl 2 rfl) ?_
              refine lv_bipush (v := 64) hx hb d_K_firstSum_87 (by decide) ?_
              refine lv_idiv hx hb d_K_firstSum_89 (by decide) ?_
              refine g_eqi (y := nI (T / 64)) (pk_div (d := 64) (by omega) (by omega) (by omega)) ?_
              refine lv_iconst (v := 1) hx hb d_K_firstSum_90 (by decide) ?_
              refine lv_iadd hx hb d_K_firstSum_91 ?_
              refine g_eqi (y := nI (T / 64 + 1)) (nI_1 _) ?_
              refine lv_bipush (v := 64) hx hb d_K_firstSum_92 (by decide) ?_
              refine lv_imul hx hb d_K_firstSum_94 ?_
              refine g_eqi (y := nI ((T / 64 + 1) * 64)) (pk_mul _ 64) ?_
              refine lv_goto (tgt := 102) hx hb d_K_firstSum_95 (by decide) ?_
              refine lv_istore (lv' := [(5, .int (nI ((T / 64 + 1) * 64))), (7, .long (lN (w (T / 64) / 2 ^ (T % 64)))), (6, .int (nI E)), (0, .ref h)]) hx hb d_K_firstSum_102 hl (by decide) rfl (fun ls hl => ?_)
              refine lv_goto (tgt := 30) hx hb d_K_firstSum_104 (by decide) ?_
              exact ih ((T / 64 + 1) * 64) ls (by omega) (by omega) (by omega) (fun x h1 h2 => by rcases Nat.lt_or_ge x T with z9 | z9; exact hno x h1 z9; rw [bi_no q_82 z9 h2]; simp) (lv_sub hl [2, 0, 3] rfl)
          · have c_72 := fun z => c_72 ((lg_cmp_eq _ _).mpr z)
            have q_72 : some q = none ∨ bi w T = true := Or.inr (by rcases h9 : bi w T with _ | _; exact absurd (by rw [bi_bit.mpr h9]; rfl) c_72; rfl)
            refine lv_iload hx hb d_K_firstSum_75 (lv_at hl 2 rfl) ?_
            exact g_iret C hP hS (⟨Or.inl ⟨T, by omega, by omega, q_72, hno, rfl⟩, rfl⟩) (Nat.le_of_ble_eq_true rfl) (Nat.le_of_ble_eq_true rfl) d_K_firstSum_77
    refine lv_lconst (v := 0) hx hb d_K_firstSum_0 (by decide) ?_
    refine lv_lload_n hx hb d_K_firstSum_1 rfl (lv_at hl 1 rfl) ?_
    refine lv_ldc2 hx hb hown (C.w wd_448) d_K_firstSum_2 ?_
    refine va_mmin_long hx hb (hml.trans hl.1.symm) hown (C.w wd_449) (C.w wd_442) (C.w wd_13) (C.w wd_443) (Nat.le_of_ble_eq_true rfl) (Nat.le_of_ble_eq_true rfl) (Nat.zero_le _) (Nat.zero_le _) d_K_firstSum_5 ?_
    refine g_eql (y := lN F) (mn_l (b := 20001) (by omega) (by omega)) ?_
    refine va_mmax_long hx hb (hml.trans hl.1.symm) hown (C.w wd_450) (C.w wd_282) (C.w wd_13) (C.w wd_283) (Nat.le_of_ble_eq_true rfl) (Nat.le_of_ble_eq_true rfl) (Nat.zero_le _) (Nat.zero_le _) d_K_firstSum_8 ?_
    refine g_eql (y := lN F) (by have := mx_0 (a := F) (by omega); first | exact this | (rw [if_pos_or_neg] )) ?_
    refine lv_l2i (v := (lN F).toInt32) hx hb d_K_firstSum_11 rfl ?_
    refine g_eqi (y := nI F) (lN_i F) ?_
    refine lv_istore (lv' := [(5, .int (nI F)), (0, .ref h), (1, .long (lN F)), (3, .long (lN E))]) hx hb d_K_firstSum_12 hl (by decide) rfl (fun ls hl => ?_)
    refine lv_ldc2 hx hb hown (C.w wd_451) d_K_firstSum_14 ?_
    refine lv_lload_n hx hb d_K_firstSum_17 rfl (lv_at hl 3 rfl) ?_
    refine lv_ldc2 hx hb hown (C.w wd_452) d_K_firstSum_18 ?_
    refine va_mmin_long hx hb (hml.trans hl.1.symm) hown (C.w wd_449) (C.w wd_442) (C.w wd_13) (C.w wd_443) (Nat.le_of_ble_eq_true rfl) (Nat.le_of_ble_eq_true rfl) (Nat.zero_le _) (Nat.zero_le _) d_K_firstSum_21 ?_
    refine g_eql (y := lN E) (mn_l (b := 20000) (by omega) (by omega)) ?_
    refine va_mmax_long hx hb (hml.trans hl.1.symm) hown (C.w wd_450) (C.w wd_282) (C.w wd_13) (C.w wd_283) (Nat.le_of_ble_eq_true rfl) (Nat.le_of_ble_eq_true rfl) (Nat.zero_le _) (Nat.zero_le _) d_K_firstSum_24 ?_
    refine g_eql (y := lN E) (mx_m1 (by omega)) ?_
    refine lv_l2i (v := (lN E).toInt32) hx hb d_K_firstSum_27 rfl ?_
    refine g_eqi (y := nI E) (lN_i E) ?_
    refine lv_istore (lv' := [(6, .int (nI E)), (5, .int (nI F)), (0, .ref h), (1, .long (lN F)), (3, .long (lN E))]) hx hb d_K_firstSum_28 hl (by decide) rfl (fun ls hl => ?_)
    exact loop (E + 1) F ls (by omega) (by omega) (Nat.le_refl F) (fun x h1 h2 => absurd h1 (by omega)) (lv_sub hl [0, 1, 2] rfl)
