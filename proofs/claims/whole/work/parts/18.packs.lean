/-! Packs: the bits of the sums. -/
theorem nIm1_lt {k a : Nat} (hk : k < 2 ^ 31) (ha : a < 2 ^ 31) : nI k - 1 < nI a ↔ k ≤ a := by
  cases k with
  | zero =>
    refine ⟨fun _ => Nat.zero_le a, fun _ => ?_⟩
    rw [Int32.lt_iff_toInt_lt, nI_toInt ha]
    show (-1 : Int) < _
    omega
  | succ i =>
    rw [nI_pred, nI_ltI (by omega) ha]
    exact Iff.rfl
/-- the words w, each with itself shifted by ap words and bt bits -/
def jn (w : Nat → Nat) (ap bt j : Nat) : Nat := if ap ≤ j ∧ j < 313 then w j ||| (if bt ≠ 0 ∧ ap < j then w (j - ap) * 2 ^ bt % 2 ^ 64 ||| w (j - ap - 1) / 2 ^ (64 - bt) else w (j - ap) * 2 ^ bt % 2 ^ 64) else w j
theorem jn_lt {w : Nat → Nat} (hw : ∀ j, w j < 2 ^ 64) (ap bt j : Nat) : jn w ap bt j < 2 ^ 64 := by
  unfold jn
  have h1 : ∀ x : Nat, x % 2 ^ 64 < 2 ^ 64 := fun x => Nat.mod_lt _ (by decide)
  have h2 : ∀ x y : Nat, w x / y < 2 ^ 64 := fun x y => Nat.lt_of_le_of_lt (Nat.div_le_self _ _) (hw x)
  split
  · refine Nat.or_lt_two_pow (hw _) ?_
    split
    · exact Nat.or_lt_two_pow (h1 _) (h2 _ _)
    · exact h1 _
  · exact hw j
/-- the bit of a number of pieces -/
def bi (w : Nat → Nat) (t : Nat) : Bool := (w (t / 64)).testBit (t % 64)
theorem jn_bit {w : Nat → Nat} (hw : ∀ j, w j < 2 ^ 64) (s t : Nat) (ht : t < 20032) : bi (jn w (s / 64) (s % 64)) t = (bi w t || (decide (s ≤ t) && bi w (t - s))) := by
  have e1 := Nat.div_add_mod s 64
  have e2 := Nat.div_add_mod t 64
  have e3 := Nat.div_add_mod (t - s) 64
  have m1 := Nat.mod_lt s (show 0 < 64 by decide)
  have m2 := Nat.mod_lt t (show 0 < 64 by decide)
  have m3 := Nat.mod_lt (t - s) (show 0 < 64 by decide)
  unfold bi jn
  generalize hq : s / 64 = ap at *
  generalize hr : s % 64 = bt at *
  generalize hj : t / 64 = j at *
  generalize hi : t % 64 = i at *
  by_cases hap : ap ≤ j
  · rw [if_pos ⟨hap, by omega⟩, Nat.testBit_or]
    have hsh : ∀ x : Nat, (x * 2 ^ bt % 2 ^ 64).testBit i = (decide (bt ≤ i) && x.testBit (i - bt)) := by
      intro x
      rw [Nat.testBit_mod_two_pow, ← Nat.shiftLeft_eq, Nat.testBit_shiftLeft]
      simp [m2]
    by_cases hb : bt ≤ i
    · have hst : s ≤ t := by omega
      have d1 : (t - s) / 64 = j - ap := by omega
      have d2 : (t - s) % 64 = i - bt := by omega
      rw [d1, d2]
      by_cases hc : bt ≠ 0 ∧ ap < j
      · rw [if_pos hc, Nat.testBit_or, hsh]
        have hz : (w (j - ap - 1) / 2 ^ (64 - bt)).testBit i = false := by
          rw [Nat.testBit_div_two_pow]
          exact Nat.testBit_lt_two_pow (Nat.lt_of_lt_of_le (hw _) (Nat.pow_le_pow_right (by decide) (by omega)))
        rw [hz]; simp [hb, hst]
      · rw [if_neg hc, hsh]; simp [hb, hst]
    · by_cases hc : bt ≠ 0 ∧ ap < j
      · have hst : s ≤ t := by omega
        have d1 : (t - s) / 64 = j - ap - 1 := by omega
        have d2 : (t - s) % 64 = i + 64 - bt := by omega
        rw [d1, d2, if_pos hc, Nat.testBit_or, hsh, Nat.testBit_div_two_pow]
        have d3 : i + (64 - bt) = i + 64 - bt := by omega
        simp [hb, hst, d3]
      · have hst : ¬ s ≤ t := by omega
        rw [if_neg hc, hsh]; simp [hb, hst]
  · rw [if_neg (by omega)]
    have hst : ¬ s ≤ t := by omega
    simp [hst]
set_option maxHeartbeats 4000000 in
set_option maxRecDepth 100000 in
theorem ct_K_joinShifted {l : Launch} {G : hG} (f : hm) (a t : Nat) (w : Nat → Nat) (ht : t ≤ 20000) (hw : ∀ j, w j < 2 ^ 64) (o1 : f a = some (aL G 313 (fun j => lN (w j)))) : cv_ l G y_K_joinShifted w_K_joinShifted { frames := 0, cells := 0, slots := 0, locals := 0 } [.ref a, .int (nI t)] f (fun u => u = va_up f a (some (aL G 313 (fun j => lN (jn w (t / 64) (t % 64) j))))) := by
  intro sz
  refine h_ofW (cc := c_K_joinShifted) (maxL := 7) (ret := none) (by decide) rfl (Nat.le_of_ble_eq_true rfl) ?_
  intro p e s m below meth c ls C hin hsz hP hl
  obtain ⟨hx, hb, hml, hown, -, -, -, -⟩ := id C
  subst hsz
  have hA0 : ∀ q, s.heap.size ≤ q → hA f s.heap.size q := hA.new
  have hS : va_S (hA f s.heap.size) s.heap s.heap [] := va_S.rf
  replace hl : lv_has ls 7 [(0, .ref a), (1, .int (nI t))] := hl
  have loop : ∀ (d k : Nat) (fi : hm) (ls : Array Slot), k < t / 64 + d → t / 64 ≤ k → k ≤ 313 → fi a = some (aL G 313 (fun j => lN (if k ≤ j then jn w (t / 64) (t % 64) j else w j))) → (∀ q, q ≠ a → fi q = f q) → ∀ (H : Heap) (locs : List Loc), hH G (hA f s.heap.size) fi H → va_S (hA f s.heap.size) s.heap H locs → lv_has ls 7 [(4, .int (nI k - 1)), (3, .int (nI (t % 64))), (2, .int (nI (t / 64))), (0, .ref a)] → W p l e { frames := 0, cells := 0, slots := 0, locals := 0 } s m #[.ref a, .int (nI t)] below meth c H locs 0 0 (MQ below (va_Qv (fun u => u = va_up f a (some (aL G 313 (fun j => lN (jn w (t / 64) (t % 64) j))))) (hB G (hA f s.heap.size)) (hA f s.heap.size)) #[.ref a, .int (nI t)] s 0 0 (hA f s.heap.size)) (F0 m 16 ls []) := by
    intro d
    induction d with
    | zero => intro k fi ls h1 h2; exact absurd h1 (by omega)
    | succ d ih =>
      intro k fi ls h1 h2 h3 o1 hEi H locs hP hS hl
      refine lv_iload hx hb d_K_joinShifted_16 (lv_at hl 0 rfl) ?_
      refine lv_iload_n hx hb d_K_joinShifted_18 rfl (lv_at hl 2 rfl) ?_
      refine lv_icmp_lt (tgt := 75) hx hb d_K_joinShifted_19 (by decide) (fun c_19 => ?_) (fun c_19 => ?_)
      · have q_19 : k = t / 64 := by have := (nIm1_lt (by omega) (by omega)).mp c_19; omega
        exact g_vret C hP hS (by funext q; by_cases hq : q = a; rw [hq, o1, va_up_self]; congr 2; funext j; by_cases hj : k ≤ j; rw [if_pos hj]; rw [if_neg hj, jn, if_neg (by omega)]; rw [va_up_ne _ _ hq, hEi q hq]) (Nat.le_of_ble_eq_true rfl) (Nat.le_of_ble_eq_true rfl) d_K_joinShifted_75
      · have q_19 : ¬ k ≤ t / 64 := fun z9 => c_19 ((nIm1_lt (by omega) (by omega)).mpr z9)
        obtain ⟨i, rfl⟩ : ∃ j, k = j + 1 := ⟨k - 1, by omega⟩
        refine lv_aload_n hx hb d_K_joinShifted_22 rfl (lv_at hl 3 rfl) ?_
        refine lv_iload hx hb d_K_joinShifted_23 (lv_at hl 0 rfl) ?_
        refine g_eqi (y := nI i) (nI_pred i) ?_
        refine lv_iload_n hx hb d_K_joinShifted_25 rfl (lv_at hl 2 rfl) ?_
        refine lv_isub hx hb d_K_joinShifted_26 ?_
        refine g_eqi (y := nI (i - t / 64)) (pk_sub (by omega)) ?_
        refine g_laldN C hP o1 (j := (i - t / 64)) (by omega) (by decide) d_K_joinShifted_27 ?_
        refine g_eql (y := lN (w (i - t / 64))) (by show lN (if i + 1 ≤ i - t / 64 then _ else _) = _; rw [if_neg (by omega)]) ?_
        refine lv_iload_n hx hb d_K_joinShifted_28 rfl (lv_at hl 1 rfl) ?_
        refine lv_lshl (v := (lN (w (i - t / 64))) <<< ((nI (t % 64)).toInt64 &&& 63)) hx hb d_K_joinShifted_29 rfl ?_
        refine g_eql (y := lN (w (i - t / 64) * 2 ^ (t % 64) % 2 ^ 64)) ((wb_shl _ (by omega)).trans (wb_mod _)) ?_
        refine lv_lstore (lv' := [(5, .long (lN (w (i - t / 64) * 2 ^ (t % 64) % 2 ^ 64))), (4, .int (nI (i + 1) - 1)), (3, .int (nI (t % 64))), (2, .int (nI (t / 64))), (0, .ref a)]) hx hb d_K_joinShifted_30 hl (by decide) rfl (fun ls hl => ?_)
        refine lv_iload_n hx hb d_K_joinShifted_32 rfl (lv_at hl 2 rfl) ?_
        refine lv_if_eq (tgt := 60) hx hb d_K_joinShifted_33 (by decide) (fun c_33 => ?_) (fun c_33 => ?_)
        · have q_c : ¬ (t % 64 ≠ 0 ∧ t / 64 < i) := fun z9 => absurd ((nI_eq (b := 0) (by omega) (by omega)).mp c_33) z9.1
          refine lv_aload_n hx hb d_K_joinShifted_60 rfl (lv_at hl 4 rfl) ?_
          refine lv_iload hx hb d_K_joinShifted_61 (lv_at hl 1 rfl) ?_
          refine g_eqi (y := nI i) (nI_pred i) ?_
          refine lv_dup2_11 hx hb d_K_joinShifted_63 rfl rfl ?_
          refine g_laldN C hP o1 (j := i) (by omega) (by decide) d_K_joinShifted_64 ?_
          refine g_eql (y := lN (w i)) (by show lN (if i + 1 ≤ i then _ else _) = _; rw [if_neg (by omega)]) ?_
          refine lv_lload hx hb d_K_joinShifted_65 (lv_at hl 0 rfl) ?_
          refine lv_lor hx hb d_K_joinShifted_67 ?_
          refine g_eql (y := lN (w i ||| (w (i - t / 64) * 2 ^ (t % 64) % 2 ^ 64))) (wb_or (hw _) (by first | exact (Nat.mod_lt _ (by decide)) | exact Nat.or_lt_two_pow (Nat.mod_lt _ (by decide)) (Nat.lt_of_le_of_lt (Nat.div_le_self _ _) (hw _)))) ?_
          refine g_lastN C hP hS o1 (j := i) (by omega) (by decide) d_K_joinShifted_68 (fun H locs hP hS => ?_)
          obtain ⟨g2, eg2⟩ : ∃ z99, z99 = vp_updL (fun j => lN (if i + 1 ≤ j then jn w (t / 64) (t % 64) j else w j)) i (lN (w i ||| (w (i - t / 64) * 2 ^ (t % 64) % 2 ^ 64))) := ⟨_, rfl⟩
          rw [← eg2] at hP
          obtain ⟨f1, ef1⟩ : ∃ z99, z99 = va_up fi a (some (aL G 313 g2)) := ⟨_, rfl⟩
          replace hP : hH G (hA f s.heap.size) f1 H := by rw [ef1]; exact hP
          have o1_f1 : f1 a = some (aL G 313 g2) := by rw [ef1]; exact va_up_self _ _ _
          refine lv_iinc (v := nI i - 1) (lv' := [(4, .int (nI i - 1)), (5, .long (lN (w (i - t / 64) * 2 ^ (t % 64) % 2 ^ 64))), (3, .int (nI (t % 64))), (2, .int (nI (t / 64))), (0, .ref a)]) hx hb d_K_joinShifted_69 hl (k := 1) rfl (by rw [nI_pred, Int32.sub_eq_add_neg]; rfl) (by decide) rfl (fun ls hl => ?_)
          refine lv_goto (tgt := 16) hx hb d_K_joinShifted_72 (by decide) ?_
          exact ih i f1 ls (by omega) (by omega) (by omega) (by rw [o1_f1, eg2]; congr 2; funext j; unfold vp_updL; by_cases hj : j = i; rw [if_pos hj, hj, if_pos (Nat.le_refl i), jn, if_pos (by omega), if_neg q_c]; rw [if_neg hj]; show lN (if i + 1 ≤ j then _ else _) = _; by_cases h9 : i + 1 ≤ j; rw [if_pos h9, if_pos (by omega)]; rw [if_neg h9, if_neg (by omega)]) (fun q hq => (hm_up ef1 hq).trans (hEi q hq)) H locs hP hS (lv_sub hl [0, 2, 3, 4] rfl)
        · have q_33 : t % 64 ≠ 0 := fun z9 => c_33 (by rw [z9]; rfl)
          refine lv_iload hx hb d_K_joinShifted_36 (lv_at hl 1 rfl) ?_
          refine g_eqi (y := nI i) (nI_pred i) ?_
          refine lv_iload_n hx hb d_K_joinShifted_38 rfl (lv_at hl 3 rfl) ?_
          refine lv_icmp_le (tgt := 60) hx hb d_K_joinShifted_39 (by decide) (fun c_39 => ?_) (fun c_39 => ?_)
          · have q_c : ¬ (t % 64 ≠ 0 ∧ t / 64 < i) := fun z9 => absurd ((nI_leI (by omega) (by omega)).mp c_39) (by omega)
            refine lv_aload_n hx hb d_K_joinShifted_60 rfl (lv_at hl 4 rfl) ?_
            refine lv_iload hx hb d_K_joinShifted_61 (lv_at hl 1 rfl) ?_
            refine g_eqi (y := nI i) (nI_pred i) ?_
            refine lv_dup2_11 hx hb d_K_joinShifted_63 rfl rfl ?_
            refine g_laldN C hP o1 (j := i) (by omega) (by decide) d_K_joinShifted_64 ?_
            refine g_eql (y := lN (w i)) (by show lN (if i + 1 ≤ i then _ else _) = _; rw [if_neg (by omega)]) ?_
            refine lv_lload hx hb d_K_joinShifted_65 (lv_at hl 0 rfl) ?_
            refine lv_lor hx hb d_K_joinShifted_67 ?_
            refine g_eql (y := lN (w i ||| (w (i - t / 64) * 2 ^ (t % 64) % 2 ^ 64))) (wb_or (hw _) (by first | exact (Nat.mod_lt _ (by decide)) | exact Nat.or_lt_two_pow (Nat.mod_lt _ (by decide)) (Nat.lt_of_le_of_lt (Nat.div_le_self _ _) (hw _)))) ?_
            refine g_lastN C hP hS o1 (j := i) (by omega) (by decide) d_K_joinShifted_68 (fun H locs hP hS => ?_)
            obtain ⟨g4, eg4⟩ : ∃ z99, z99 = vp_updL (fun j => lN (if i + 1 ≤ j then jn w (t / 64) (t % 64) j else w j)) i (lN (w i ||| (w (i - t / 64) * 2 ^ (t % 64) % 2 ^ 64))) := ⟨_, rfl⟩
            rw [← eg4] at hP
            obtain ⟨f3, ef3⟩ : ∃ z99, z99 = va_up fi a (some (aL G 313 g4)) := ⟨_, rfl⟩
            replace hP : hH G (hA f s.heap.size) f3 H := by rw [ef3]; exact hP
            have o1_f3 : f3 a = some (aL G 313 g4) := by rw [ef3]; exact va_up_self _ _ _
            refine lv_iinc (v := nI i - 1) (lv' := [(4, .int (nI i - 1)), (5, .long (lN (w (i - t / 64) * 2 ^ (t % 64) % 2 ^ 64))), (3, .int (nI (t % 64))), (2, .int (nI (t / 64))), (0, .ref a)]) hx hb d_K_joinShifted_69 hl (k := 1) rfl (by rw [nI_pred, Int32.sub_eq_add_neg]; rfl) (by decide) rfl (fun ls hl => ?_)
            refine lv_goto (tgt := 16) hx hb d_K_joinShifted_72 (by decide) ?_
            exact ih i f3 ls (by omega) (by omega) (by omega) (by rw [o1_f3, eg4]; congr 2; funext j; unfold vp_updL; by_cases hj : j = i; rw [if_pos hj, hj, if_pos (Nat.le_refl i), jn, if_pos (by omega), if_neg q_c]; rw [if_neg hj]; show lN (if i + 1 ≤ j then _ else _) = _; by_cases h9 : i + 1 ≤ j; rw [if_pos h9, if_pos (by omega)]; rw [if_neg h9, if_neg (by omega)]) (fun q hq => (hm_up ef3 hq).trans (hEi q hq)) H locs hP hS (lv_sub hl [0, 2, 3, 4] rfl)
          · have q_39 : t / 64 < i := by have : ¬ i ≤ t / 64 := fun z9 => c_39 ((nI_leI (by omega) (by omega)).mpr z9); omega
            refine lv_lload hx hb d_K_joinShifted_42 (lv_at hl 0 rfl) ?_
            refine lv_aload_n hx hb d_K_joinShifted_44 rfl (lv_at hl 4 rfl) ?_
            refine lv_iload hx hb d_K_joinShifted_45 (lv_at hl 1 rfl) ?_
            refine g_eqi (y := nI i) (nI_pred i) ?_
            refine lv_iload_n hx hb d_K_joinShifted_47 rfl (lv_at hl 3 rfl) ?_
            refine lv_isub hx hb d_K_joinShifted_48 ?_
            refine g_eqi (y := nI (i - t / 64)) (pk_sub (by omega)) ?_
            refine lv_iconst (v := 1) hx hb d_K_joinShifted_49 (by decide) ?_
            refine lv_isub hx hb d_K_joinShifted_50 ?_
            refine g_eqi (y := nI (i - t / 64 - 1)) (pk_sub (b := 1) (by omega)) ?_
            refine g_laldN C hP o1 (j := (i - t / 64 - 1)) (by omega) (by decide) d_K_joinShifted_51 ?_
            refine g_eql (y := lN (w (i - t / 64 - 1))) (by show lN (if i + 1 ≤ i - t / 64 - 1 then _ else _) = _; rw [if_neg (by omega)]) ?_
            refine lv_bipush (v := 64) hx hb d_K_joinShifted_52 (by decide) ?_
            refine lv_iload_n hx hb d_K_joinShifted_54 rfl (lv_at hl 2 rfl) ?_
            refine lv_isub hx hb d_K_joinShifted_55 ?_
            refine g_eqi (y := nI (64 - t % 64)) (pk_sub (a := 64) (by omega)) ?_
            refine lv_lushr (v := ((lN (w (i - t / 64 - 1))).toUInt64 >>> ((nI (64 - t % 64)).toInt64.toUInt64 &&& Int64.toUInt64 63)).toInt64) hx hb d_K_joinShifted_56 rfl ?_
            refine g_eql (y := lN (w (i - t / 64 - 1) / 2 ^ (64 - t % 64))) (wb_shr (hw _) (by omega)) ?_
            refine lv_lor hx hb d_K_joinShifted_57 ?_
            refine g_eql (y := lN (w (i - t / 64) * 2 ^ (t % 64) % 2 ^ 64 ||| w (i - t / 64 - 1) / 2 ^ (64 - t % 64))) (wb_or (Nat.mod_lt _ (by decide)) (Nat.lt_of_le_of_lt (Nat.div_le_self _ _) (hw _))) ?_
            refine lv_lstore (lv' := [(5, .long (lN (w (i - t / 64) * 2 ^ (t % 64) % 2 ^ 64 ||| w (i - t / 64 - 1) / 2 ^ (64 - t % 64)))), (4, .int (nI (i + 1) - 1)), (3, .int (nI (t % 64))), (2, .int (nI (t / 64))), (0, .ref a)]) hx hb d_K_joinShifted_58 hl (by decide) rfl (fun ls hl => ?_)
            refine lv_aload_n hx hb d_K_joinShifted_60 rfl (lv_at hl 4 rfl) ?_
            refine lv_iload hx hb d_K_joinShifted_61 (lv_at hl 1 rfl) ?_
            refine g_eqi (y := nI i) (nI_pred i) ?_
            refine lv_dup2_11 hx hb d_K_joinShifted_63 rfl rfl ?_
            refine g_laldN C hP o1 (j := i) (by omega) (by decide) d_K_joinShifted_64 ?_
            refine g_eql (y := lN (w i)) (by show lN (if i + 1 ≤ i then _ else _) = _; rw [if_neg (by omega)]) ?_
            refine lv_lload hx hb d_K_joinShifted_65 (lv_at hl 0 rfl) ?_
            refine lv_lor hx hb d_K_joinShifted_67 ?_
            refine g_eql (y := lN (w i ||| (w (i - t / 64) * 2 ^ (t % 64) % 2 ^ 64 ||| w (i - t / 64 - 1) / 2 ^ (64 - t % 64)))) (wb_or (hw _) (by first | exact (Nat.mod_lt _ (by decide)) | exact Nat.or_lt_two_pow (Nat.mod_lt _ (by decide)) (Nat.lt_of_le_of_lt (Nat.div_le_self _ _) (hw _)))) ?_
            refine g_lastN C hP hS o1 (j := i) (by omega) (by decide) d_K_joinShifted_68 (fun H locs hP hS => ?_)
            obtain ⟨g6, eg6⟩ : ∃ z99, z99 = vp_updL (fun j => lN (if i + 1 ≤ j then jn w (t / 64) (t % 64) j else w j)) i (lN (w i ||| (w (i - t / 64) * 2 ^ (t % 64) % 2 ^ 64 ||| w (i - t / 64 - 1) / 2 ^ (64 - t % 64)))) := ⟨_, rfl⟩
            rw [← eg6] at hP
            obtain ⟨f5, ef5⟩ : ∃ z99, z99 = va_up fi a (some (aL G 313 g6)) := ⟨_, rfl⟩
            replace hP : hH G (hA f s.heap.size) f5 H := by rw [ef5]; exact hP
            have o1_f5 : f5 a = some (aL G 313 g6) := by rw [ef5]; exact va_up_self _ _ _
            refine lv_iinc (v := nI i - 1) (lv' := [(4, .int (nI i - 1)), (5, .long (lN (w (i - t / 64) * 2 ^ (t % 64) % 2 ^ 64 ||| w (i - t / 64 - 1) / 2 ^ (64 - t % 64)))), (3, .int (nI (t % 64))), (2, .int (nI (t / 64))), (0, .ref a)]) hx hb d_K_joinShifted_69 hl (k := 1) rfl (by rw [nI_pred, Int32.sub_eq_add_neg]; rfl) (by decide) rfl (fun ls hl => ?_)
            refine lv_goto (tgt := 16) hx hb d_K_joinShifted_72 (by decide) ?_
            exact ih i f5 ls (by omega) (by omega) (by omega) (by rw [o1_f5, eg6]; congr 2; funext j; unfold vp_updL; by_cases hj : j = i; rw [if_pos hj, hj, if_pos (Nat.le_refl i), jn, if_pos (by omega), if_pos ⟨q_33, q_39⟩]; rw [if_neg hj]; show lN (if i + 1 ≤ j then _ else _) = _; by_cases h9 : i + 1 ≤ j; rw [if_pos h9, if_pos (by omega)]; rw [if_neg h9, if_neg (by omega)]) (fun q hq => (hm_up ef5 hq).trans (hEi q hq)) H locs hP hS (lv_sub hl [0, 2, 3, 4] rfl)
  refine lv_iload_n hx hb d_K_joinShifted_0 rfl (lv_at hl 1 rfl) ?_
  refine lv_bipush (v := 64) hx hb d_K_joinShifted_1 (by decide) ?_
  refine lv_idiv hx hb d_K_joinShifted_3 (by decide) ?_
  refine g_eqi (y := nI (t / 64)) (pk_div (d := 64) (by omega) (by omega) (by omega)) ?_
  refine lv_istore_n (lv' := [(2, .int (nI (t / 64))), (0, .ref a), (1, .int (nI t))]) hx hb d_K_joinShifted_4 rfl hl (by decide) rfl (fun ls hl => ?_)
  refine lv_iload_n hx hb d_K_joinShifted_5 rfl (lv_at hl 2 rfl) ?_
  refine lv_bipush (v := 64) hx hb d_K_joinShifted_6 (by decide) ?_
  refine lv_irem hx hb d_K_joinShifted_8 (by decide) ?_
  refine g_eqi (y := nI (t % 64)) (pk_rem (d := 64) (by omega) (by omega) (by omega)) ?_
  refine lv_istore_n (lv' := [(3, .int (nI (t % 64))), (2, .int (nI (t / 64))), (0, .ref a), (1, .int (nI t))]) hx hb d_K_joinShifted_9 rfl hl (by decide) rfl (fun ls hl => ?_)
  refine lv_aload_n hx hb d_K_joinShifted_10 rfl (lv_at hl 2 rfl) ?_
  refine g_alen C hP 1 (v := nI 313) o1 rfl rfl d_K_joinShifted_11 ?_
  refine lv_iconst (v := 1) hx hb d_K_joinShifted_12 (by decide) ?_
  refine lv_isub hx hb d_K_joinShifted_13 ?_
  refine lv_istore (lv' := [(4, .int ((nI 313) - 1)), (3, .int (nI (t % 64))), (2, .int (nI (t / 64))), (0, .ref a), (1, .int (nI t))]) hx hb d_K_joinShifted_14 hl (by decide) rfl (fun ls hl => ?_)
  exact loop 314 313 f ls (by omega) (by omega) (by omega) (by rw [o1]; congr 2; funext j; by_cases hj : 313 ≤ j; rw [if_pos hj, jn, if_neg (by omega)]; rw [if_neg hj]) (fun q hq => rfl) _ _ hP hS (lv_sub hl [0, 1, 2, 3] rfl)
