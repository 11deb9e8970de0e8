/-! PartBook: what is looked at before anything is done. -/
def fr (a b : Int64) : Prop := (0 ≤ a ∧ a ≤ 1000000000) ∧ (1 ≤ b ∧ b ≤ 1000000)
set_option maxHeartbeats 4000000 in
set_option maxRecDepth 100000 in
theorem ct_B_checkNumber {l : Launch} {G : hG} {sa : xS} (hl0 : l.stackTraces = false) (f : hm) (x lo hi : Int64) : xv_ l G sa y_B_checkNumber w_B_checkNumber { frames := 6, cells := 1, slots := 6, locals := 82 } [.long x, .long lo, .long hi] f (fun u => u = f ∧ lo ≤ x ∧ x ≤ hi) (fun E => E = eA ∧ ¬ (lo ≤ x ∧ x ≤ hi)) := by
  intro sz
  refine x_ofW (cc := c_B_checkNumber) (maxL := 6) (ret := none) (by decide) rfl (Nat.le_of_ble_eq_true rfl) ?_
  intro p e s m below meth c ls C hex hN hZ hsz hP hl
  obtain ⟨hx, hb, hml, hown, -, -, -, -⟩ := id C
  subst hsz
  have hA0 : ∀ q, s.heap.size ≤ q → hA f s.heap.size q := hA.new
  have hS : va_S (hA f s.heap.size) s.heap s.heap [] := va_S.rf
  replace hl : lv_has ls 6 [(0, .long x), (2, .long lo), (4, .long hi)] := hl
  refine lv_lload_n hx hb d_B_checkNumber_0 rfl (lv_at hl 0 rfl) ?_
  refine lv_lload_n hx hb d_B_checkNumber_1 rfl (lv_at hl 1 rfl) ?_
  refine W.lcmp hx hb d_B_checkNumber_2 ?_
  refine lv_if_lt (tgt := 13) hx hb d_B_checkNumber_3 (by decide) (fun c_3 => ?_) (fun c_3 => ?_)
  · have c_3 := (lg_cmp_lt _ _).mp c_3
    exact x_throwA hl0 C hex hN hZ hP hS (⟨rfl, fun z9 => absurd z9 (by first | exact fun z8 => absurd z8.1 (Int64.not_le.mpr c_3) | exact fun z8 => c_10 z8.2)⟩) hl.1 d_B_checkNumber_13 d_B_checkNumber_16 d_B_checkNumber_17 d_B_checkNumber_19 d_B_checkNumber_22 (Nat.le_of_ble_eq_true rfl) (Nat.le_of_ble_eq_true rfl) (Nat.le_of_ble_eq_true rfl) (Nat.le_of_ble_eq_true rfl) (Nat.le_of_ble_eq_true rfl) (Nat.le_of_ble_eq_true rfl)
  · have c_3 := fun z => c_3 ((lg_cmp_lt _ _).mpr z)
    refine lv_lload_n hx hb d_B_checkNumber_6 rfl (lv_at hl 0 rfl) ?_
    refine lv_lload hx hb d_B_checkNumber_7 (lv_at hl 2 rfl) ?_
    refine W.lcmp hx hb d_B_checkNumber_9 ?_
    refine lv_if_le (tgt := 23) hx hb d_B_checkNumber_10 (by decide) (fun c_10 => ?_) (fun c_10 => ?_)
    · have c_10 := (lg_cmp_le _ _).mp c_10
      refine vx_ret ?_
      exact g_vret C hP hS (⟨rfl, Int64.not_lt.mp c_3, c_10⟩) (Nat.le_of_ble_eq_true rfl) (Nat.le_of_ble_eq_true rfl) d_B_checkNumber_23
    · have c_10 := fun z => c_10 ((lg_cmp_le _ _).mpr z)
      exact x_throwA hl0 C hex hN hZ hP hS (⟨rfl, fun z9 => absurd z9 (by first | exact fun z8 => absurd z8.1 (Int64.not_le.mpr c_3) | exact fun z8 => c_10 z8.2)⟩) hl.1 d_B_checkNumber_13 d_B_checkNumber_16 d_B_checkNumber_17 d_B_checkNumber_19 d_B_checkNumber_22 (Nat.le_of_ble_eq_true rfl) (Nat.le_of_ble_eq_true rfl) (Nat.le_of_ble_eq_true rfl) (Nat.le_of_ble_eq_true rfl) (Nat.le_of_ble_eq_true rfl) (Nat.le_of_ble_eq_true rfl)
set_option maxHeartbeats 4000000 in
set_option maxRecDepth 100000 in
theorem ct_B_checkIndex {l : Launch} {G : hG} {sa : xS} (hl0 : l.stackTraces = false) (f : hm) (x n : Int32) : xv_ l G sa y_B_checkIndex w_B_checkIndex { frames := 6, cells := 1, slots := 6, locals := 82 } [.int x, .int n] f (fun u => u = f ∧ ¬ x < 0 ∧ x < n) (fun E => E = eI ∧ ¬ (¬ x < 0 ∧ x < n)) := by
  intro sz
  refine x_ofW (cc := c_B_checkIndex) (maxL := 2) (ret := none) (by decide) rfl (Nat.le_of_ble_eq_true rfl) ?_
  intro p e s m below meth c ls C hex hN hZ hsz hP hl
  obtain ⟨hx, hb, hml, hown, -, -, -, -⟩ := id C
  subst hsz
  have hA0 : ∀ q, s.heap.size ≤ q → hA f s.heap.size q := hA.new
  have hS : va_S (hA f s.heap.size) s.heap s.heap [] := va_S.rf
  replace hl : lv_has ls 2 [(0, .int x), (1, .int n)] := hl
  refine lv_iload_n hx hb d_B_checkIndex_0 rfl (lv_at hl 0 rfl) ?_
  refine lv_if_lt (tgt := 9) hx hb d_B_checkIndex_1 (by decide) (fun c_1 => ?_) (fun c_1 => ?_)
  · exact x_throwI hl0 C hex hN hN.2.2.2.2.2.2.2 hZ hP hS (⟨rfl, fun z9 => by first | exact z9.1 c_1 | exact c_6 z9.2⟩) hl.1 d_B_checkIndex_9 d_B_checkIndex_12 d_B_checkIndex_13 d_B_checkIndex_15 d_B_checkIndex_18 (Nat.le_of_ble_eq_true rfl) (Nat.le_of_ble_eq_true rfl) (Nat.le_of_ble_eq_true rfl) (Nat.le_of_ble_eq_true rfl) (Nat.le_of_ble_eq_true rfl) (Nat.le_of_ble_eq_true rfl)
  · refine lv_iload_n hx hb d_B_checkIndex_4 rfl (lv_at hl 0 rfl) ?_
    refine lv_iload_n hx hb d_B_checkIndex_5 rfl (lv_at hl 1 rfl) ?_
    refine lv_icmp_lt (tgt := 19) hx hb d_B_checkIndex_6 (by decide) (fun c_6 => ?_) (fun c_6 => ?_)
    · refine vx_ret ?_
      exact g_vret C hP hS (⟨rfl, c_1, c_6⟩) (Nat.le_of_ble_eq_true rfl) (Nat.le_of_ble_eq_true rfl) d_B_checkIndex_19
    · exact x_throwI hl0 C hex hN hN.2.2.2.2.2.2.2 hZ hP hS (⟨rfl, fun z9 => by first | exact z9.1 c_1 | exact c_6 z9.2⟩) hl.1 d_B_checkIndex_9 d_B_checkIndex_12 d_B_checkIndex_13 d_B_checkIndex_15 d_B_checkIndex_18 (Nat.le_of_ble_eq_true rfl) (Nat.le_of_ble_eq_true rfl) (Nat.le_of_ble_eq_true rfl) (Nat.le_of_ble_eq_true rfl) (Nat.le_of_ble_eq_true rfl) (Nat.le_of_ble_eq_true rfl)
set_option maxHeartbeats 4000000 in
set_option maxRecDepth 100000 in
theorem ct_B_checkFraction {l : Launch} {G : hG} {sa : xS} (hl0 : l.stackTraces = false) (f : hm) (a b : Int64) : xv_ l G sa y_B_checkFraction w_B_checkFraction { frames := 7, cells := 2, slots := 12, locals := 120 } [.long a, .long b] f (fun u => u = f ∧ fr a b) (fun E => E = eA ∧ ¬ fr a b) := by
  intro sz
  refine x_ofW (cc := c_B_checkFraction) (maxL := 4) (ret := none) (by decide) rfl (Nat.le_of_ble_eq_true rfl) ?_
  intro p e s m below meth c ls C hex hN hZ hsz hP hl
  obtain ⟨hx, hb, hml, hown, -, -, -, -⟩ := id C
  subst hsz
  have hA0 : ∀ q, s.heap.size ≤ q → hA f s.heap.size q := hA.new
  have hS : va_S (hA f s.heap.size) s.heap s.heap [] := va_S.rf
  replace hl : lv_has ls 4 [(0, .long a), (2, .long b)] := hl
  refine lv_lload_n hx hb d_B_checkFraction_0 rfl (lv_at hl 0 rfl) ?_
  refine lv_lconst (v := 0) hx hb d_B_checkFraction_1 (by decide) ?_
  refine lv_ldc2 hx hb hown (C.w wd_266) d_B_checkFraction_2 ?_
  refine x_callv (x_runS C hN hZ hl.1 (ct_B_checkNumber (sa := sa) hl0 f a 0 1000000000 _) (cx_S C 3 wd_75 wd_76 wd_1 wd_77 rfl rfl (by decide +kernel) ⟨Nat.le_of_ble_eq_true rfl, Nat.le_of_ble_eq_true rfl⟩) hP hS hA0 rfl rfl (Nat.le_of_ble_eq_true rfl) d_B_checkFraction_5 ⟨Nat.le_of_ble_eq_true rfl, Nat.le_of_ble_eq_true rfl⟩) hP hS hA0 (fun E ce q9 H locs hE hP hS h1 h2 h3 => x_out C hex hP hS (⟨hE.1, fun z9 => hE.2 z9.1⟩) h1 h2 h3 (Nat.le_of_ble_eq_true rfl) (Nat.le_of_ble_eq_true rfl)) (fun f1 H locs hq hP hS => ?_)
  obtain ⟨hu, q1⟩ := hq
  rw [hu] at hP
  refine lv_lload_n hx hb d_B_checkFraction_8 rfl (lv_at hl 1 rfl) ?_
  refine lv_lconst (v := 1) hx hb d_B_checkFraction_9 (by decide) ?_
  refine lv_ldc2 hx hb hown (C.w wd_267) d_B_checkFraction_10 ?_
  refine x_callv (x_runS C hN hZ hl.1 (ct_B_checkNumber (sa := sa) hl0 f b 1 1000000 _) (cx_S C 3 wd_75 wd_76 wd_1 wd_77 rfl rfl (by decide +kernel) ⟨Nat.le_of_ble_eq_true rfl, Nat.le_of_ble_eq_true rfl⟩) hP hS hA0 rfl rfl (Nat.le_of_ble_eq_true rfl) d_B_checkFraction_13 ⟨Nat.le_of_ble_eq_true rfl, Nat.le_of_ble_eq_true rfl⟩) hP hS hA0 (fun E ce q9 H locs hE hP hS h1 h2 h3 => x_out C hex hP hS (⟨hE.1, fun z9 => hE.2 z9.2⟩) h1 h2 h3 (Nat.le_of_ble_eq_true rfl) (Nat.le_of_ble_eq_true rfl)) (fun f3 H locs hq hP hS => ?_)
  obtain ⟨hu, q2⟩ := hq
  rw [hu] at hP
  refine vx_ret ?_
  exact g_vret C hP hS (⟨rfl, q1, q2⟩) (Nat.le_of_ble_eq_true rfl) (Nat.le_of_ble_eq_true rfl) d_B_checkFraction_16
set_option maxHeartbeats 4000000 in
set_option maxRecDepth 100000 in
theorem ct_B_partOf {l : Launch} {G : hG} {sa : xS} (hl0 : l.stackTraces = false) (f : hm) (x : Nat) (i0 : Int32) (pa n : Nat) (v2 v3 v4 v5 v6 v7 : Value) (PA : Nat → Option Nat) (pt : Nat → Nat) (hn : n ≤ 40) (o1 : f x = some (ob 3 [.ref pa, .int (nI n), v2, v3, v4, v5, v6, v7])) (a1 : f pa = some (aP G 40 PA)) (hpt : ∀ j, j < n → PA j = some (pt j)) : xq_ l G sa y_B_partOf w_B_partOf { frames := 6, cells := 1, slots := 6, locals := 82 } [.ref x, .int i0] f (fun r u => u = f ∧ ∃ j, j < n ∧ i0 = nI j ∧ r = some (pt j)) (fun E => E = eI ∧ ¬ ∃ j, j < n ∧ i0 = nI j) := by
  intro sz
  refine x_ofW (cc := c_B_partOf) (maxL := 3) (ret := (some (.object "PartBook$Part"))) (by decide) rfl (Nat.le_of_ble_eq_true rfl) ?_
  intro p e s m below meth c ls C hex hN hZ hsz hP hl
  obtain ⟨hx, hb, hml, hown, -, -, -, -⟩ := id C
  subst hsz
  have hA0 : ∀ q, s.heap.size ≤ q → hA f s.heap.size q := hA.new
  have hS : va_S (hA f s.heap.size) s.heap s.heap [] := va_S.rf
  replace hl : lv_has ls 3 [(0, .ref x), (1, .int i0)] := hl
  refine lv_iload_n hx hb d_B_partOf_0 rfl (lv_at hl 1 rfl) ?_
  refine lv_if_lt (tgt := 21) hx hb d_B_partOf_1 (by decide) (fun c_1 => ?_) (fun c_1 => ?_)
  · refine lv_null hx hb d_B_partOf_21 ?_
    refine lv_astore_nN (lv' := [(2, .null), (0, .ref x), (1, .int i0)]) hx hb d_B_partOf_22 rfl hl (by decide) rfl (fun ls hl => ?_)
    refine lv_aload_nN hx hb d_B_partOf_23 rfl (lv_at hl 0 rfl) ?_
    refine lv_ifnonnullN hx hb d_B_partOf_24 ?_
    exact x_throwI hl0 C hex hN hN.2.2.2.2.2.2.1 hZ hP hS (⟨rfl, fun ⟨j, h8, h9⟩ => by first | exact nI_pos (by omega) (h9 ▸ c_1) | exact nI_ge h8 (by omega) (h9 ▸ c_9)⟩) hl.1 d_B_partOf_27 d_B_partOf_30 d_B_partOf_31 d_B_partOf_33 d_B_partOf_36 (Nat.le_of_ble_eq_true rfl) (Nat.le_of_ble_eq_true rfl) (Nat.le_of_ble_eq_true rfl) (Nat.le_of_ble_eq_true rfl) (Nat.le_of_ble_eq_true rfl) (Nat.le_of_ble_eq_true rfl)
  · refine lv_iload_n hx hb d_B_partOf_4 rfl (lv_at hl 1 rfl) ?_
    refine lv_aload_n hx hb d_B_partOf_5 rfl (lv_at hl 0 rfl) ?_
    refine g_get C i_B hP o1 rfl 1 (by decide) wd_32 rfl rfl d_B_partOf_6 ?_
    refine lv_icmp_ge (tgt := 21) hx hb d_B_partOf_9 (by decide) (fun c_9 => ?_) (fun c_9 => ?_)
    · refine lv_null hx hb d_B_partOf_21 ?_
      refine lv_astore_nN (lv' := [(2, .null), (0, .ref x), (1, .int i0)]) hx hb d_B_partOf_22 rfl hl (by decide) rfl (fun ls hl => ?_)
      refine lv_aload_nN hx hb d_B_partOf_23 rfl (lv_at hl 0 rfl) ?_
      refine lv_ifnonnullN hx hb d_B_partOf_24 ?_
      exact x_throwI hl0 C hex hN hN.2.2.2.2.2.2.1 hZ hP hS (⟨rfl, fun ⟨j, h8, h9⟩ => by first | exact nI_pos (by omega) (h9 ▸ c_1) | exact nI_ge h8 (by omega) (h9 ▸ c_9)⟩) hl.1 d_B_partOf_27 d_B_partOf_30 d_B_partOf_31 d_B_partOf_33 d_B_partOf_36 (Nat.le_of_ble_eq_true rfl) (Nat.le_of_ble_eq_true rfl) (Nat.le_of_ble_eq_true rfl) (Nat.le_of_ble_eq_true rfl) (Nat.le_of_ble_eq_true rfl) (Nat.le_of_ble_eq_true rfl)
    · obtain ⟨j, hj, rfl⟩ : ∃ j, j < n ∧ i0 = nI j := by rcases pk_ix i0 (n := n) (by omega) with z9 | z9 | z9; exact absurd z9 c_1; exact absurd z9 c_9; exact z9
      refine lv_aload_n hx hb d_B_partOf_12 rfl (lv_at hl 0 rfl) ?_
      refine g_get C i_B hP o1 rfl 0 (by decide) wd_31 rfl rfl d_B_partOf_13 ?_
      refine lv_iload_n hx hb d_B_partOf_16 rfl (lv_at hl 1 rfl) ?_
      refine g_aaldN C hP a1 (j := j) (by omega) (by decide) d_B_partOf_17 ?_
      refine g_eqq (y := pt j) (hpt j hj) ?_
      refine lv_goto (tgt := 22) hx hb d_B_partOf_18 (by decide) ?_
      refine lv_astore_n (lv' := [(2, .ref (pt j)), (0, .ref x), (1, .int (nI j))]) hx hb d_B_partOf_22 rfl hl (by decide) rfl (fun ls hl => ?_)
      refine lv_aload_n hx hb d_B_partOf_23 rfl (lv_at hl 0 rfl) ?_
      refine lv_ifnonnull (tgt := 37) hx hb d_B_partOf_24 (by decide) ?_
      refine lv_aload_n hx hb d_B_partOf_37 rfl (lv_at hl 0 rfl) ?_
      refine vx_ret ?_
      exact g_qret (v := some (pt j)) C hP hS (⟨rfl, j, hj, rfl, rfl⟩) (Nat.le_of_ble_eq_true rfl) (Nat.le_of_ble_eq_true rfl) d_B_partOf_38
