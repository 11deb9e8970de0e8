/-! The reference: value, price, life, pack, the state on a day. -/
def oB (i : Nat) : Option Nat → Int32
  | none => -1
  | some j => nI (8 * i + j)
set_option maxHeartbeats 4000000 in
set_option maxRecDepth 100000 in
theorem ct_M_stateOf {l : Launch} {G : hG} (f : hm) (y : Nat) (ca : Nat → Nat) (b : BD) (hok : bOK b) (th : Int32) (bc : Int64) (cp : Int32) (hm : mS G f y ca b th bc cp) (i : Nat) (hi : i < bN b) (d0 : Int64) : ci_ l G y_M_stateOf w_M_stateOf { frames := 0, cells := 0, slots := 0, locals := 0 } [.ref y, .int (nI i), .long d0] f (fun r u => (∃ v, stD (bD b i) d0 v ∧ v ≤ 3 ∧ r = nI v) ∧ u = f) := by
  intro sz
  refine h_ofW (cc := c_M_stateOf) (maxL := 6) (ret := (some .int)) (by decide) rfl (Nat.le_of_ble_eq_true rfl) ?_
  intro p e s m below meth c ls C hin hsz hP hl
  obtain ⟨hx, hb, hml, hown, -, -, -, -⟩ := id C
  subst hsz
  have hA0 : ∀ q, s.heap.size ≤ q → hA f s.heap.size q := hA.new
  have hS : va_S (hA f s.heap.size) s.heap s.heap [] := va_S.rf
  replace hl : lv_has ls 6 [(0, .ref y), (1, .int (nI i)), (2, .long d0)] := hl
  obtain ⟨MK, PL, AB, BE, AS, FP, PC, PF, PT, PU, RA, KC, PK, ST, DC, DY, DS, SU, hv, hR⟩ := hm
  have hNN : bN b ≤ 40 := hok.1.1
  have hRC : bRc b ≤ 10 := hok.1.2.1
  have hHC : bHc b ≤ 40 := hok.1.2.2
  have hDi := hok.2.1 i hi
  obtain ⟨hpc, K2, hrow, hcel⟩ := hR.2.2.2.2.2 i (by omega)
  have h8 := hDi.1.2.2.2.1
  have loop : ∀ (d j : Nat) (o : Option Nat) (ls : Array Slot), pN2 (bD b i) < j + d → j ≤ pN2 (bD b i) → (∀ jb, o = some jb → jb < j ∧ DY (8 * i + jb) ≤ d0) → (∀ j2, j2 < j → DY (8 * i + j2) ≤ d0 → ∃ jb, o = some jb ∧ DY (8 * i + j2) ≤ DY (8 * i + jb)) → lv_has ls 6 [(4, .int (oB i o)), (5, .int (nI (8 * i + j))), (0, .ref y), (1, .int (nI i)), (2, .long d0)] → W p l e { frames := 0, cells := 0, slots := 0, locals := 0 } s m #[.ref y, .int (nI i), .long d0] below meth c s.heap [] 0 0 (MQ below (va_Qi (fun r u => (∃ v, stD (bD b i) d0 v ∧ v ≤ 3 ∧ r = nI v) ∧ u = f) (hB G (hA f s.heap.size)) (hA f s.heap.size)) #[.ref y, .int (nI i), .long d0] s 0 0 (hA f s.heap.size)) (F0 m 9 ls []) := by
    intro d
    induction d with
    | zero => intro j o ls h1 h2; exact absurd h1 (by omega)
    | succ d ih =>
      intro j o ls h1 h2 h3 h4 hl
      refine lv_iload hx hb d_M_stateOf_9 (lv_at hl 1 rfl) ?_
      refine lv_bipush (v := 8) hx hb d_M_stateOf_11 (by decide) ?_
      refine lv_iload_n hx hb d_M_stateOf_13 rfl (lv_at hl 3 rfl) ?_
      refine lv_imul hx hb d_M_stateOf_14 ?_
      refine g_eqi (y := nI (8 * i)) (pk_mul _ _) ?_
      refine lv_aload_n hx hb d_M_stateOf_15 rfl (lv_at hl 2 rfl) ?_
      refine g_get C i_M hP hv.1 rfl 18 (by decide) wd_524 rfl rfl d_M_stateOf_16 ?_
      refine lv_iload_n hx hb d_M_stateOf_19 rfl (lv_at hl 3 rfl) ?_
      refine g_ialdN C hP hv.2.2.2.2.2.2.2.2.2.2.2.2.2.2.2.1 (j := i) (by omega) (by decide) d_M_stateOf_20 ?_
      refine g_eqi (y := nI (pN2 (bD b i))) (hpc) ?_
      refine lv_iadd hx hb d_M_stateOf_21 ?_
      refine g_eqi (y := nI (8 * i + pN2 (bD b i))) (nI_add _ _) ?_
      refine lv_icmp_ge (tgt := 71) hx hb d_M_stateOf_22 (by decide) (fun c_22 => ?_) (fun c_22 => ?_)
      · have hjn : j = pN2 (bD b i) := by have := (nI_leI (by omega) (by omega)).mp c_22; omega
        subst hjn
        refine lv_iload hx hb d_M_stateOf_71 (lv_at hl 0 rfl) ?_
        refine lv_iconst (v := (-1)) hx hb d_M_stateOf_73 (by decide) ?_
        refine lv_icmp_ne (tgt := 81) hx hb d_M_stateOf_74 (by decide) (fun c_74 => ?_) (fun c_74 => ?_)
        · obtain ⟨jb, rfl⟩ : ∃ jb, o = some jb := by rcases o with _ | jb; exact absurd rfl c_74; exact ⟨jb, rfl⟩
          have hjb := h3 jb rfl
          refine lv_aload_n hx hb d_M_stateOf_81 rfl (lv_at hl 2 rfl) ?_
          refine g_get C i_M hP hv.1 rfl 20 (by decide) wd_526 rfl rfl d_M_stateOf_82 ?_
          refine lv_iload hx hb d_M_stateOf_85 (lv_at hl 0 rfl) ?_
          refine g_ialdN C hP hv.2.2.2.2.2.2.2.2.2.2.2.2.2.2.2.2.2.1 (j := (8 * i + jb)) (by omega) (by decide) d_M_stateOf_87 ?_
          refine g_eqi (y := nI (K2 jb)) (hcel jb (by omega)) ?_
          exact g_iret C hP hS (⟨⟨K2 jb, (st_row hDi hrow).2 jb hjb.1 hjb.2 (fun j2 h9 h7 => by obtain ⟨jb2, e9, h6⟩ := h4 j2 h9 h7; cases e9; exact h6), by obtain ⟨k, g1, -, g3⟩ := hrow.1 jb hjb.1; rw [g3]; exact hDi.2.2.2.2.1 k g1, rfl⟩, rfl⟩) (Nat.le_of_ble_eq_true rfl) (Nat.le_of_ble_eq_true rfl) d_M_stateOf_88
        · have q_o : o = none := by rcases o with _ | jb; rfl; exact absurd c_74 (nI_nm1 (by have := (h3 jb rfl).1; omega))
          refine lv_iconst (v := 0) hx hb d_M_stateOf_77 (by decide) ?_
          refine lv_goto (tgt := 88) hx hb d_M_stateOf_78 (by decide) ?_
          exact g_iret C hP hS (⟨⟨0, (st_row hDi hrow).1 (fun j2 h9 h7 => by obtain ⟨jb, e9, -⟩ := h4 j2 h9 h7; rw [q_o] at e9; cases e9), by omega, rfl⟩, rfl⟩) (Nat.le_of_ble_eq_true rfl) (Nat.le_of_ble_eq_true rfl) d_M_stateOf_88
      · have hjn : j < pN2 (bD b i) := Nat.lt_of_not_le (fun z9 => c_22 ((nI_leI (by omega) (by omega)).mpr (by omega)))
        refine lv_aload_n hx hb d_M_stateOf_25 rfl (lv_at hl 2 rfl) ?_
        refine g_get C i_M hP hv.1 rfl 19 (by decide) wd_525 rfl rfl d_M_stateOf_26 ?_
        refine lv_iload hx hb d_M_stateOf_29 (lv_at hl 1 rfl) ?_
        refine g_laldN C hP hv.2.2.2.2.2.2.2.2.2.2.2.2.2.2.2.2.1 (j := (8 * i + j)) (by omega) (by decide) d_M_stateOf_31 ?_
        refine lv_lload_n hx hb d_M_stateOf_32 rfl (lv_at hl 4 rfl) ?_
        refine W.lcmp hx hb d_M_stateOf_33 ?_
        refine lv_if_gt (tgt := 65) hx hb d_M_stateOf_34 (by decide) (fun c_34 => ?_) (fun c_34 => ?_)
        · have c_34 := (lg_cmp_gt _ _).mp c_34
          have hkeep : DY (8 * i + j) ≤ d0 → ∃ jb, o = some jb ∧ DY (8 * i + j) ≤ DY (8 * i + jb) := fun z9 => absurd c_34 (Int64.not_lt.mpr z9)
          refine lv_iinc (v := nI (8 * i + (j + 1))) (lv' := [(5, .int (nI (8 * i + (j + 1)))), (4, .int (oB i o)), (0, .ref y), (1, .int (nI i)), (2, .long d0)]) hx hb d_M_stateOf_65 hl (k := 1) rfl (nI_1 _) (by decide) rfl (fun ls hl => ?_)
          refine lv_goto (tgt := 9) hx hb d_M_stateOf_68 (by decide) ?_
          exact ih (j + 1) o ls (by omega) (by omega) (fun jb h9 => ⟨by have := (h3 jb h9).1; omega, (h3 jb h9).2⟩) (fun j2 h9 h7 => by rcases Nat.lt_succ_iff_lt_or_eq.mp h9 with z9 | z9; exact h4 j2 z9 h7; rw [z9] at h7 ⊢; exact hkeep h7) (lv_sub hl [1, 0, 2, 3, 4] rfl)
        · have c_34 := fun z => c_34 ((lg_cmp_gt _ _).mpr z)
          have c_34 := Int64.not_lt.mp c_34
          refine lv_iload hx hb d_M_stateOf_37 (lv_at hl 0 rfl) ?_
          refine lv_iconst (v := (-1)) hx hb d_M_stateOf_39 (by decide) ?_
          refine lv_icmp_eq (tgt := 61) hx hb d_M_stateOf_40 (by decide) (fun c_40 => ?_) (fun c_40 => ?_)
          · have q_o : o = none := by rcases o with _ | jb; rfl; exact absurd c_40 (nI_nm1 (by have := (h3 jb rfl).1; omega))
            have hbig : ∀ j2, j2 < j → DY (8 * i + j2) ≤ d0 → DY (8 * i + j2) ≤ DY (8 * i + j) := fun j2 h9 h7 => by obtain ⟨jb, e9, -⟩ := h4 j2 h9 h7; rw [q_o] at e9; cases e9
            refine lv_iload hx hb d_M_stateOf_61 (lv_at hl 1 rfl) ?_
            refine lv_istore (lv' := [(4, .int (nI (8 * i + j))), (5, .int (nI (8 * i + j))), (0, .ref y), (1, .int (nI i)), (2, .long d0)]) hx hb d_M_stateOf_63 hl (by decide) rfl (fun ls hl => ?_)
            refine lv_iinc (v := nI (8 * i + (j + 1))) (lv' := [(5, .int (nI (8 * i + (j + 1)))), (4, .int (nI (8 * i + j))), (0, .ref y), (1, .int (nI i)), (2, .long d0)]) hx hb d_M_stateOf_65 hl (k := 1) rfl (nI_1 _) (by decide) rfl (fun ls hl => ?_)
            refine lv_goto (tgt := 9) hx hb d_M_stateOf_68 (by decide) ?_
            exact ih (j + 1) (some j) ls (by omega) (by omega) (fun jb h9 => by cases h9; exact ⟨by omega, c_34⟩) (fun j2 h9 h7 => ⟨j, rfl, by rcases Nat.lt_succ_iff_lt_or_eq.mp h9 with z9 | z9; exact hbig j2 z9 h7; rw [z9]; exact Int64.le_refl _⟩) (lv_sub hl [1, 0, 2, 3, 4] rfl)
          · obtain ⟨jb, rfl⟩ : ∃ jb, o = some jb := by rcases o with _ | jb; exact absurd rfl c_40; exact ⟨jb, rfl⟩
            have hjb := h3 jb rfl
            refine lv_aload_n hx hb d_M_stateOf_43 rfl (lv_at hl 2 rfl) ?_
            refine g_get C i_M hP hv.1 rfl 19 (by decide) wd_525 rfl rfl d_M_stateOf_44 ?_
            refine lv_iload hx hb d_M_stateOf_47 (lv_at hl 1 rfl) ?_
            refine g_laldN C hP hv.2.2.2.2.2.2.2.2.2.2.2.2.2.2.2.2.1 (j := (8 * i + j)) (by omega) (by decide) d_M_stateOf_49 ?_
            refine lv_aload_n hx hb d_M_stateOf_50 rfl (lv_at hl 2 rfl) ?_
            refine g_get C i_M hP hv.1 rfl 19 (by decide) wd_525 rfl rfl d_M_stateOf_51 ?_
            refine lv_iload hx hb d_M_stateOf_54 (lv_at hl 0 rfl) ?_
            refine g_laldN C hP hv.2.2.2.2.2.2.2.2.2.2.2.2.2.2.2.2.1 (j := (8 * i + jb)) (by omega) (by decide) d_M_stateOf_56 ?_
            refine W.lcmp hx hb d_M_stateOf_57 ?_
            refine lv_if_le (tgt := 65) hx hb d_M_stateOf_58 (by decide) (fun c_58 => ?_) (fun c_58 => ?_)
            · have c_58 := (lg_cmp_le _ _).mp c_58
              have hkeep : DY (8 * i + j) ≤ d0 → ∃ jb2, some jb = some jb2 ∧ DY (8 * i + j) ≤ DY (8 * i + jb2) := fun _ => ⟨jb, rfl, c_58⟩
              refine lv_iinc (v := nI (8 * i + (j + 1))) (lv' := [(5, .int (nI (8 * i + (j + 1)))), (4, .int (nI (8 * i + jb))), (0, .ref y), (1, .int (nI i)), (2, .long d0)]) hx hb d_M_stateOf_65 hl (k := 1) rfl (nI_1 _) (by decide) rfl (fun ls hl => ?_)
              refine lv_goto (tgt := 9) hx hb d_M_stateOf_68 (by decide) ?_
              exact ih (j + 1) (some jb) ls (by omega) (by omega) (fun jb h9 => ⟨by have := (h3 jb h9).1; omega, (h3 jb h9).2⟩) (fun j2 h9 h7 => by rcases Nat.lt_succ_iff_lt_or_eq.mp h9 with z9 | z9; exact h4 j2 z9 h7; rw [z9] at h7 ⊢; exact hkeep h7) (lv_sub hl [1, 0, 2, 3, 4] rfl)
            · have c_58 := fun z => c_58 ((lg_cmp_le _ _).mpr z)
              have hbig : ∀ j2, j2 < j → DY (8 * i + j2) ≤ d0 → DY (8 * i + j2) ≤ DY (8 * i + j) := fun j2 h9 h7 => by obtain ⟨jb2, e9, h6⟩ := h4 j2 h9 h7; cases e9; exact Int64.le_trans h6 (Int64.le_of_lt (Int64.not_le.mp c_58))
              refine lv_iload hx hb d_M_stateOf_61 (lv_at hl 1 rfl) ?_
              refine lv_istore (lv' := [(4, .int (nI (8 * i + j))), (5, .int (nI (8 * i + j))), (0, .ref y), (1, .int (nI i)), (2, .long d0)]) hx hb d_M_stateOf_63 hl (by decide) rfl (fun ls hl => ?_)
              refine lv_iinc (v := nI (8 * i + (j + 1))) (lv' := [(5, .int (nI (8 * i + (j + 1)))), (4, .int (nI (8 * i + j))), (0, .ref y), (1, .int (nI i)), (2, .long d0)]) hx hb d_M_stateOf_65 hl (k := 1) rfl (nI_1 _) (by decide) rfl (fun ls hl => ?_)
              refine lv_goto (tgt := 9) hx hb d_M_stateOf_68 (by decide) ?_
              exact ih (j + 1) (some j) ls (by omega) (by omega) (fun jb h9 => by cases h9; exact ⟨by omega, c_34⟩) (fun j2 h9 h7 => ⟨j, rfl, by rcases Nat.lt_succ_iff_lt_or_eq.mp h9 with z9 | z9; exact hbig j2 z9 h7; rw [z9]; exact Int64.le_refl _⟩) (lv_sub hl [1, 0, 2, 3, 4] rfl)
  refine lv_iconst (v := (-1)) hx hb d_M_stateOf_0 (by decide) ?_
  refine lv_istore (lv' := [(4, .int (-1)), (0, .ref y), (1, .int (nI i)), (2, .long d0)]) hx hb d_M_stateOf_1 hl (by decide) rfl (fun ls hl => ?_)
  refine lv_bipush (v := 8) hx hb d_M_stateOf_3 (by decide) ?_
  refine lv_iload_n hx hb d_M_stateOf_5 rfl (lv_at hl 2 rfl) ?_
  refine lv_imul hx hb d_M_stateOf_6 ?_
  refine g_eqi (y := nI (8 * i + 0)) (pk_mul _ _) ?_
  refine lv_istore (lv' := [(5, .int (nI (8 * i + 0))), (4, .int (-1)), (0, .ref y), (1, .int (nI i)), (2, .long d0)]) hx hb d_M_stateOf_7 hl (by decide) rfl (fun ls hl => ?_)
  exact loop 9 0 none ls (by omega) (by omega) (fun jb h9 => by cases h9) (fun j2 h9 => absurd h9 (by omega)) (lv_sub hl [1, 0, 2, 3, 4] rfl)
set_option maxHeartbeats 4000000 in
set_option maxRecDepth 100000 in
theorem ct_M_state {l : Launch} {G : hG} (f : hm) (y : Nat) (ca : Nat → Nat) (b : BD) (hok : bOK b) (th : Int32) (bc : Int64) (cp : Int32) (hm : mS G f y ca b th bc cp) (p0 : Int32) (d0 : Int64) (r0 : Int32) (b1 : BD) (hK0 : okx p0 (bN b) → True → K_state b p0 d0 r0 ∧ b1 = b) : ci_ l G y_M_state w_M_state { frames := 2, cells := 0, slots := 0, locals := 120 } [.ref y, .int p0, .long d0] f (fun r u => ∃ th2 b2 bc2 cp2, mS G u y ca b2 th2 bc2 cp2 ∧ mp (okx p0 (bN b)) (True) b b1 (r = r0) th2 b2) := by
  intro sz
  refine h_ofW (cc := c_M_state) (maxL := 4) (ret := (some .int)) (by decide) rfl (Nat.le_of_ble_eq_true rfl) ?_
  intro p e s m below meth c ls C hin hsz hP hl
  obtain ⟨hx, hb, hml, hown, -, -, -, -⟩ := id C
  subst hsz
  have hA0 : ∀ q, s.heap.size ≤ q → hA f s.heap.size q := hA.new
  have hS : va_S (hA f s.heap.size) s.heap s.heap [] := va_S.rf
  replace hl : lv_has ls 4 [(0, .ref y), (1, .int p0), (2, .long d0)] := hl
  obtain ⟨MK, PL, AB, BE, AS, FP, PC, PF, PT, PU, RA, KC, PK, ST, DC, DY, DS, SU, hv, hR⟩ := hm
  have hNN : bN b ≤ 40 := hok.1.1
  have hRC : bRc b ≤ 10 := hok.1.2.1
  have hHC : bHc b ≤ 40 := hok.1.2.2
  refine lv_aload_n hx hb d_M_state_0 rfl (lv_at hl 0 rfl) ?_
  refine lv_aload_n hx hb d_M_state_1 rfl (lv_at hl 0 rfl) ?_
  refine lv_iload_n hx hb d_M_state_2 rfl (lv_at hl 1 rfl) ?_
  refine g_calli (g_runV C hl.1 (ct_M_isPart f y ca b hok th bc cp ⟨MK, PL, AB, BE, AS, FP, PC, PF, PT, PU, RA, KC, PK, ST, DC, DY, DS, SU, hv, hR⟩ p0 _) (cx_V C 1 wd_605 wd_607 wp_14 wd_3 wd_608 rfl rfl (by decide +kernel) ⟨Nat.le_of_ble_eq_true rfl, Nat.le_of_ble_eq_true rfl⟩) hP hv.1 rfl rfl rfl (Nat.le_of_ble_eq_true rfl) d_M_state_3 ⟨Nat.le_of_ble_eq_true rfl, Nat.le_of_ble_eq_true rfl⟩) hP hS hA0 (fun r2 f1 H locs hq hP hS => ?_)
  obtain ⟨hzP, hu⟩ := hq
  rw [hu] at hP
  refine lv_if_eq (tgt := 13) hx hb d_M_state_6 (by decide) (fun c_6 => ?_) (fun c_6 => ?_)
  · refine lv_iconst (v := 1) hx hb d_M_state_13 (by decide) ?_
    have hB : ¬ (okx p0 (bN b)) := fun z9 => bz_f hzP c_6 z9
    refine g_put C i_M t_M t_M_ok n_M hP hS hv.1 rfl 0 (by decide) wd_506 rfl rfl rfl (rfl) (Nat.le_of_ble_eq_true rfl) d_M_state_14 (fun H locs hP hS => ?_)
    obtain ⟨f3, ef3⟩ : ∃ z99, z99 = va_up f y (some (ob 4 [.int 1, .int (nI (bN b)), .ref (ca 0), .ref (ca 1), .ref (ca 2), .ref (ca 3), .int (nI (bRc b)), .ref (ca 4), .int (nI (bHc b)), .ref (ca 5), .ref (ca 6), .ref (ca 7), .ref (ca 8), .ref (ca 9), .ref (ca 10), .ref (ca 11), .ref (ca 12), .ref (ca 13), .ref (ca 14), .ref (ca 15), .ref (ca 16), .ref (ca 17), .long bc, .int cp])) := ⟨_, rfl⟩
    replace hP : hH G (hA f s.heap.size) f3 H := by rw [ef3]; exact hP
    have hv_f3 : mv G f3 y ca 1 (nI (bN b)) (nI (bRc b)) (nI (bHc b)) bc cp MK PL AB BE AS FP PC PF PT PU RA KC PK ST DC DY DS SU := by rw [ef3]; exact mv_y hv _ _ _ _ _ _
    refine lv_aload_n hx hb d_M_state_17 rfl (lv_at hl 0 rfl) ?_
    refine g_get C i_M hP hv_f3.1 rfl 0 (by decide) wd_506 rfl rfl d_M_state_18 ?_
    refine lv_if_ne (tgt := 33) hx hb d_M_state_21 (by decide) (fun c_21 => ?_) (fun c_21 => ?_)
    · refine lv_iconst (v := 0) hx hb d_M_state_33 (by decide) ?_
      exact g_iret C hP hS (⟨1, b, bc, cp, ⟨MK, PL, AB, BE, AS, FP, PC, PF, PT, PU, RA, KC, PK, ST, DC, DY, DS, SU, hv_f3, hR⟩, Or.inr (Or.inr ⟨hB, rfl, rfl⟩)⟩) (Nat.le_of_ble_eq_true rfl) (Nat.le_of_ble_eq_true rfl) d_M_state_34
    · exact absurd c_21 (by decide)
  · refine lv_iconst (v := 0) hx hb d_M_state_9 (by decide) ?_
    refine lv_goto (tgt := 14) hx hb d_M_state_10 (by decide) ?_
    have hI : okx p0 (bN b) := bz_t hzP c_6
    have hN : True := trivial
    obtain ⟨⟨i, v0, hi, rfl, hsd, hr0⟩, eb⟩ := hK0 hI hN
    refine g_put C i_M t_M t_M_ok n_M hP hS hv.1 rfl 0 (by decide) wd_506 rfl rfl rfl (rfl) (Nat.le_of_ble_eq_true rfl) d_M_state_14 (fun H locs hP hS => ?_)
    obtain ⟨f4, ef4⟩ : ∃ z99, z99 = va_up f y (some (ob 4 [.int 0, .int (nI (bN b)), .ref (ca 0), .ref (ca 1), .ref (ca 2), .ref (ca 3), .int (nI (bRc b)), .ref (ca 4), .int (nI (bHc b)), .ref (ca 5), .ref (ca 6), .ref (ca 7), .ref (ca 8), .ref (ca 9), .ref (ca 10), .ref (ca 11), .ref (ca 12), .ref (ca 13), .ref (ca 14), .ref (ca 15), .ref (ca 16), .ref (ca 17), .long bc, .int cp])) := ⟨_, rfl⟩
    replace hP : hH G (hA f s.heap.size) f4 H := by rw [ef4]; exact hP
    have hv_f4 : mv G f4 y ca 0 (nI (bN b)) (nI (bRc b)) (nI (bHc b)) bc cp MK PL AB BE AS FP PC PF PT PU RA KC PK ST DC DY DS SU := by rw [ef4]; exact mv_y hv _ _ _ _ _ _
    refine lv_aload_n hx hb d_M_state_17 rfl (lv_at hl 0 rfl) ?_
    refine g_get C i_M hP hv_f4.1 rfl 0 (by decide) wd_506 rfl rfl d_M_state_18 ?_
    refine lv_if_ne (tgt := 33) hx hb d_M_state_21 (by decide) (fun c_21 => ?_) (fun c_21 => ?_)
    · exact absurd c_21 (by decide)
    · refine lv_aload_n hx hb d_M_state_24 rfl (lv_at hl 0 rfl) ?_
      refine lv_iload_n hx hb d_M_state_25 rfl (lv_at hl 1 rfl) ?_
      refine lv_lload_n hx hb d_M_state_26 rfl (lv_at hl 2 rfl) ?_
      refine g_calli (g_runV C hl.1 (ct_M_stateOf f4 y ca b hok 0 bc cp ⟨MK, PL, AB, BE, AS, FP, PC, PF, PT, PU, RA, KC, PK, ST, DC, DY, DS, SU, hv_f4, hR⟩ i hi d0 _) (cx_V C 2 wd_717 wd_719 wp_24 wd_3 wd_720 rfl rfl (by decide +kernel) ⟨Nat.le_of_ble_eq_true rfl, Nat.le_of_ble_eq_true rfl⟩) hP hv_f4.1 rfl rfl rfl (Nat.le_of_ble_eq_true rfl) d_M_state_27 ⟨Nat.le_of_ble_eq_true rfl, Nat.le_of_ble_eq_true rfl⟩) hP hS hA0 (fun r6 f5 H locs hq hP hS => ?_)
      obtain ⟨⟨v, hs2, -, rfl⟩, hu⟩ := hq
      rw [hu] at hP
      refine lv_goto (tgt := 34) hx hb d_M_state_30 (by decide) ?_
      exact g_iret C hP hS (⟨0, b, bc, cp, ⟨MK, PL, AB, BE, AS, FP, PC, PF, PT, PU, RA, KC, PK, ST, DC, DY, DS, SU, hv_f4, hR⟩, Or.inl ⟨hI, hN, rfl, eb.symm, by rw [hr0, stD_uni hs2 hsd]⟩⟩) (Nat.le_of_ble_eq_true rfl) (Nat.le_of_ble_eq_true rfl) d_M_state_34
set_option maxHeartbeats 4000000 in
set_option maxRecDepth 100000 in
theorem ct_M_price {l : Launch} {G : hG} (f : hm) (y : Nat) (ca : Nat → Nat) (b : BD) (hok : bOK b) (th : Int32) (bc : Int64) (cp : Int32) (hm : mS G f y ca b th bc cp) (p0 : Int32) (m0 : Int32) (c0 : Int64) (u0 : Int32) (r0 : Int32) (b1 : BD) (hK0 : I_price b p0 u0 → N_price m0 c0 → K_price b p0 m0 c0 u0 r0 b1) : ci_ l G y_M_price w_M_price { frames := 2, cells := 0, slots := 0, locals := 120 } [.ref y, .int p0, .int m0, .long c0, .int u0] f (fun r u => ∃ th2 b2 bc2 cp2, mS G u y ca b2 th2 bc2 cp2 ∧ mp (I_price b p0 u0) (N_price m0 c0) b b1 (r = r0) th2 b2) := by
  intro sz
  refine h_ofW (cc := c_M_price) (maxL := 8) (ret := (some .boolean)) (by decide) rfl (Nat.le_of_ble_eq_true rfl) ?_
  intro p e s m below meth c ls C hin hsz hP hl
  obtain ⟨hx, hb, hml, hown, -, -, -, -⟩ := id C
  subst hsz
  have hA0 : ∀ q, s.heap.size ≤ q → hA f s.heap.size q := hA.new
  have hS : va_S (hA f s.heap.size) s.heap s.heap [] := va_S.rf
  replace hl : lv_has ls 8 [(0, .ref y), (1, .int p0), (2, .int m0), (3, .long c0), (5, .int u0)] := hl
  obtain ⟨MK, PL, AB, BE, AS, FP, PC, PF, PT, PU, RA, KC, PK, ST, DC, DY, DS, SU, hv, hR⟩ := hm
  have hNN : bN b ≤ 40 := hok.1.1
  have hRC : bRc b ≤ 10 := hok.1.2.1
  have hHC : bHc b ≤ 40 := hok.1.2.2
  refine lv_iload_n hx hb d_M_price_0 rfl (lv_at hl 2 rfl) ?_
  refine lv_iconst (v := 1) hx hb d_M_price_1 (by decide) ?_
  refine lv_icmp_lt (tgt := 30) hx hb d_M_price_2 (by decide) (fun c_2 => ?_) (fun c_2 => ?_)
  · refine lv_iconst (v := 0) hx hb d_M_price_30 (by decide) ?_
    have hG : ¬ (N_price m0 c0) := fun z9 => by first | exact Int32.not_lt.mpr z9.1.1 c_2 | exact Int32.not_lt.mpr z9.1.2 c_9 | exact Int64.not_lt.mpr z9.2.1 c_15 | exact Int64.not_lt.mpr z9.2.2 c_23
    refine lv_istore (lv' := [(6, .int 0), (0, .ref y), (1, .int p0), (2, .int m0), (3, .long c0), (5, .int u0)]) hx hb d_M_price_31 hl (by decide) rfl (fun ls hl => ?_)
    refine lv_aload_n hx hb d_M_price_33 rfl (lv_at hl 1 rfl) ?_
    refine lv_aload_n hx hb d_M_price_34 rfl (lv_at hl 1 rfl) ?_
    refine lv_iload_n hx hb d_M_price_35 rfl (lv_at hl 2 rfl) ?_
    refine g_calli (g_runV C hl.1 (ct_M_isPart f y ca b hok th bc cp ⟨MK, PL, AB, BE, AS, FP, PC, PF, PT, PU, RA, KC, PK, ST, DC, DY, DS, SU, hv, hR⟩ p0 _) (cx_V C 1 wd_605 wd_607 wp_14 wd_3 wd_608 rfl rfl (by decide +kernel) ⟨Nat.le_of_ble_eq_true rfl, Nat.le_of_ble_eq_true rfl⟩) hP hv.1 rfl rfl rfl (Nat.le_of_ble_eq_true rfl) d_M_price_36 ⟨Nat.le_of_ble_eq_true rfl, Nat.le_of_ble_eq_true rfl⟩) hP hS hA0 (fun r2 f1 H locs hq hP hS => ?_)
    obtain ⟨hzP, hu⟩ := hq
    rw [hu] at hP
    refine lv_if_eq (tgt := 50) hx hb d_M_price_39 (by decide) (fun c_39 => ?_) (fun c_39 => ?_)
    · refine lv_iconst (v := 1) hx hb d_M_price_50 (by decide) ?_
      refine lv_goto (tgt := 64) hx hb d_M_price_51 (by decide) ?_
      have hB : ¬ (I_price b p0 u0) := fun z9 => by first | exact bz_f hzP c_39 z9.1 | exact bz_f hzC c_47 z9.2
      refine g_put C i_M t_M t_M_ok n_M hP hS hv.1 rfl 0 (by decide) wd_506 rfl rfl rfl (rfl) (Nat.le_of_ble_eq_true rfl) d_M_price_64 (fun H locs hP hS => ?_)
      obtain ⟨f3, ef3⟩ : ∃ z99, z99 = va_up f y (some (ob 4 [.int 1, .int (nI (bN b)), .ref (ca 0), .ref (ca 1), .ref (ca 2), .ref (ca 3), .int (nI (bRc b)), .ref (ca 4), .int (nI (bHc b)), .ref (ca 5), .ref (ca 6), .ref (ca 7), .ref (ca 8), .ref (ca 9), .ref (ca 10), .ref (ca 11), .ref (ca 12), .ref (ca 13), .ref (ca 14), .ref (ca 15), .ref (ca 16), .ref (ca 17), .long bc, .int cp])) := ⟨_, rfl⟩
      replace hP : hH G (hA f s.heap.size) f3 H := by rw [ef3]; exact hP
      have hv_f3 : mv G f3 y ca 1 (nI (bN b)) (nI (bRc b)) (nI (bHc b)) bc cp MK PL AB BE AS FP PC PF PT PU RA KC PK ST DC DY DS SU := by rw [ef3]; exact mv_y hv _ _ _ _ _ _
      refine lv_aload_n hx hb d_M_price_67 rfl (lv_at hl 1 rfl) ?_
      refine g_get C i_M hP hv_f3.1 rfl 0 (by decide) wd_506 rfl rfl d_M_price_68 ?_
      refine lv_if_eq (tgt := 76) hx hb d_M_price_71 (by decide) (fun c_71 => ?_) (fun c_71 => ?_)
      · exact absurd c_71 (by decide)
      · refine lv_iconst (v := 0) hx hb d_M_price_74 (by decide) ?_
        exact g_zret C (by first | exact Or.inl rfl | exact Or.inr rfl) hP hS (⟨1, b, bc, cp, ⟨MK, PL, AB, BE, AS, FP, PC, PF, PT, PU, RA, KC, PK, ST, DC, DY, DS, SU, hv_f3, hR⟩, Or.inr (Or.inr ⟨hB, rfl, rfl⟩)⟩) (Nat.le_of_ble_eq_true rfl) (Nat.le_of_ble_eq_true rfl) d_M_price_75
    · refine lv_iload hx hb d_M_price_42 (lv_at hl 5 rfl) ?_
      refine g_calli (g_runS C hl.1 (ct_M_isCurrency f u0 _) (cx_S C 1 wd_671 wd_672 wd_3 wd_673 rfl rfl (by decide +kernel) ⟨Nat.le_of_ble_eq_true rfl, Nat.le_of_ble_eq_true rfl⟩) hP rfl rfl (Nat.le_of_ble_eq_true rfl) d_M_price_44 ⟨Nat.le_of_ble_eq_true rfl, Nat.le_of_ble_eq_true rfl⟩) hP hS hA0 (fun r5 f4 H locs hq hP hS => ?_)
      obtain ⟨hzC, hu⟩ := hq
      rw [hu] at hP
      refine lv_if_ne (tgt := 54) hx hb d_M_price_47 (by decide) (fun c_47 => ?_) (fun c_47 => ?_)
      · refine lv_iload hx hb d_M_price_54 (lv_at hl 0 rfl) ?_
        refine lv_if_eq (tgt := 63) hx hb d_M_price_56 (by decide) (fun c_56 => ?_) (fun c_56 => ?_)
        · refine lv_iconst (v := 2) hx hb d_M_price_63 (by decide) ?_
          have hI : I_price b p0 u0 := ⟨bz_t hzP c_39, bz_t hzC c_47⟩
          have hB : ¬ (N_price m0 c0) := fun z9 => hG z9
          refine g_put C i_M t_M t_M_ok n_M hP hS hv.1 rfl 0 (by decide) wd_506 rfl rfl rfl (rfl) (Nat.le_of_ble_eq_true rfl) d_M_price_64 (fun H locs hP hS => ?_)
          obtain ⟨f6, ef6⟩ : ∃ z99, z99 = va_up f y (some (ob 4 [.int 2, .int (nI (bN b)), .ref (ca 0), .ref (ca 1), .ref (ca 2), .ref (ca 3), .int (nI (bRc b)), .ref (ca 4), .int (nI (bHc b)), .ref (ca 5), .ref (ca 6), .ref (ca 7), .ref (ca 8), .ref (ca 9), .ref (ca 10), .ref (ca 11), .ref (ca 12), .ref (ca 13), .ref (ca 14), .ref (ca 15), .ref (ca 16), .ref (ca 17), .long bc, .int cp])) := ⟨_, rfl⟩
          replace hP : hH G (hA f s.heap.size) f6 H := by rw [ef6]; exact hP
          have hv_f6 : mv G f6 y ca 2 (nI (bN b)) (nI (bRc b)) (nI (bHc b)) bc cp MK PL AB BE AS FP PC PF PT PU RA KC PK ST DC DY DS SU := by rw [ef6]; exact mv_y hv _ _ _ _ _ _
          refine lv_aload_n hx hb d_M_price_67 rfl (lv_at hl 1 rfl) ?_
          refine g_get C i_M hP hv_f6.1 rfl 0 (by decide) wd_506 rfl rfl d_M_price_68 ?_
          refine lv_if_eq (tgt := 76) hx hb d_M_price_71 (by decide) (fun c_71 => ?_) (fun c_71 => ?_)
          · exact absurd c_71 (by decide)
          · refine lv_iconst (v := 0) hx hb d_M_price_74 (by decide) ?_
            exact g_zret C (by first | exact Or.inl rfl | exact Or.inr rfl) hP hS (⟨2, b, bc, cp, ⟨MK, PL, AB, BE, AS, FP, PC, PF, PT, PU, RA, KC, PK, ST, DC, DY, DS, SU, hv_f6, hR⟩, Or.inr (Or.inl ⟨hI, hB, rfl, rfl⟩)⟩) (Nat.le_of_ble_eq_true rfl) (Nat.le_of_ble_eq_true rfl) d_M_price_75
        · exact absurd c_56 (by decide)
      · refine lv_iconst (v := 1) hx hb d_M_price_50 (by decide) ?_
        refine lv_goto (tgt := 64) hx hb d_M_price_51 (by decide) ?_
        have hB : ¬ (I_price b p0 u0) := fun z9 => by first | exact bz_f hzP c_39 z9.1 | exact bz_f hzC c_47 z9.2
        refine g_put C i_M t_M t_M_ok n_M hP hS hv.1 rfl 0 (by decide) wd_506 rfl rfl rfl (rfl) (Nat.le_of_ble_eq_true rfl) d_M_price_64 (fun H locs hP hS => ?_)
        obtain ⟨f7, ef7⟩ : ∃ z99, z99 = va_up f y (some (ob 4 [.int 1, .int (nI (bN b)), .ref (ca 0), .ref (ca 1), .ref (ca 2), .ref (ca 3), .int (nI (bRc b)), .ref (ca 4), .int (nI (bHc b)), .ref (ca 5), .ref (ca 6), .ref (ca 7), .ref (ca 8), .ref (ca 9), .ref (ca 10), .ref (ca 11), .ref (ca 12), .ref (ca 13), .ref (ca 14), .ref (ca 15), .ref (ca 16), .ref (ca 17), .long bc, .int cp])) := ⟨_, rfl⟩
        replace hP : hH G (hA f s.heap.size) f7 H := by rw [ef7]; exact hP
        have hv_f7 : mv G f7 y ca 1 (nI (bN b)) (nI (bRc b)) (nI (bHc b)) bc cp MK PL AB BE AS FP PC PF PT PU RA KC PK ST DC DY DS SU := by rw [ef7]; exact mv_y hv _ _ _ _ _ _
        refine lv_aload_n hx hb d_M_price_67 rfl (lv_at hl 1 rfl) ?_
        refine g_get C i_M hP hv_f7.1 rfl 0 (by decide) wd_506 rfl rfl d_M_price_68 ?_
        refine lv_if_eq (tgt := 76) hx hb d_M_price_71 (by decide) (fun c_71 => ?_) (fun c_71 => ?_)
        · exact absurd c_71 (by decide)
        · refine lv_iconst (v := 0) hx hb d_M_price_74 (by decide) ?_
          exact g_zret C (by first | exact Or.inl rfl | exact Or.inr rfl) hP hS (⟨1, b, bc, cp, ⟨MK, PL, AB, BE, AS, FP, PC, PF, PT, PU, RA, KC, PK, ST, DC, DY, DS, SU, hv_f7, hR⟩, Or.inr (Or.inr ⟨hB, rfl, rfl⟩)⟩) (Nat.le_of_ble_eq_true rfl) (Nat.le_of_ble_eq_true rfl) d_M_price_75
  · refine lv_iload_n hx hb d_M_price_5 rfl (lv_at hl 2 rfl) ?_
    refine lv_sipush (v := 10000) hx hb d_M_price_6 (by decide) ?_
    refine lv_icmp_gt (tgt := 30) hx hb d_M_price_9 (by decide) (fun c_9 => ?_) (fun c_9 => ?_)
    · refine lv_iconst (v := 0) hx hb d_M_price_30 (by decide) ?_
      have hG : ¬ (N_price m0 c0) := fun z9 => by first | exact Int32.not_lt.mpr z9.1.1 c_2 | exact Int32.not_lt.mpr z9.1.2 c_9 | exact Int64.not_lt.mpr z9.2.1 c_15 | exact Int64.not_lt.mpr z9.2.2 c_23
      refine lv_istore (lv' := [(6, .int 0), (0, .ref y), (1, .int p0), (2, .int m0), (3, .long c0), (5, .int u0)]) hx hb d_M_price_31 hl (by decide) rfl (fun ls hl => ?_)
      refine lv_aload_n hx hb d_M_price_33 rfl (lv_at hl 1 rfl) ?_
      refine lv_aload_n hx hb d_M_price_34 rfl (lv_at hl 1 rfl) ?_
      refine lv_iload_n hx hb d_M_price_35 rfl (lv_at hl 2 rfl) ?_
      refine g_calli (g_runV C hl.1 (ct_M_isPart f y ca b hok th bc cp ⟨MK, PL, AB, BE, AS, FP, PC, PF, PT, PU, RA, KC, PK, ST, DC, DY, DS, SU, hv, hR⟩ p0 _) (cx_V C 1 wd_605 wd_607 wp_14 wd_3 wd_608 rfl rfl (by decide +kernel) ⟨Nat.le_of_ble_eq_true rfl, Nat.le_of_ble_eq_true rfl⟩) hP hv.1 rfl rfl rfl (Nat.le_of_ble_eq_true rfl) d_M_price_36 ⟨Nat.le_of_ble_eq_true rfl, Nat.le_of_ble_eq_true rfl⟩) hP hS hA0 (fun r9 f8 H locs hq hP hS => ?_)
      obtain ⟨hzP, hu⟩ := hq
      rw [hu] at hP
      refine lv_if_eq (tgt := 50) hx hb d_M_price_39 (by decide) (fun c_39 => ?_) (fun c_39 => ?_)
      · refine lv_iconst (v := 1) hx hb d_M_price_50 (by decide) ?_
        refine lv_goto (tgt := 64) hx hb d_M_price_51 (by decide) ?_
        have hB : ¬ (I_price b p0 u0) := fun z9 => by first | exact bz_f hzP c_39 z9.1 | exact bz_f hzC c_47 z9.2
        refine g_put C i_M t_M t_M_ok n_M hP hS hv.1 rfl 0 (by decide) wd_506 rfl rfl rfl (rfl) (Nat.le_of_ble_eq_true rfl) d_M_price_64 (fun H locs hP hS => ?_)
        obtain ⟨f10, ef10⟩ : ∃ z99, z99 = va_up f y (some (ob 4 [.int 1, .int (nI (bN b)), .ref (ca 0), .ref (ca 1), .ref (ca 2), .ref (ca 3), .int (nI (bRc b)), .ref (ca 4), .int (nI (bHc b)), .ref (ca 5), .ref (ca 6), .ref (ca 7), .ref (ca 8), .ref (ca 9), .ref (ca 10), .ref (ca 11), .ref (ca 12), .ref (ca 13), .ref (ca 14), .ref (ca 15), .ref (ca 16), .ref (ca 17), .long bc, .int cp])) := ⟨_, rfl⟩
        replace hP : hH G (hA f s.heap.size) f10 H := by rw [ef10]; exact hP
        have hv_f10 : mv G f10 y ca 1 (nI (bN b)) (nI (bRc b)) (nI (bHc b)) bc cp MK PL AB BE AS FP PC PF PT PU RA KC PK ST DC DY DS SU := by rw [ef10]; exact mv_y hv _ _ _ _ _ _
        refine lv_aload_n hx hb d_M_price_67 rfl (lv_at hl 1 rfl) ?_
        refine g_get C i_M hP hv_f10.1 rfl 0 (by decide) wd_506 rfl rfl d_M_price_68 ?_
        refine lv_if_eq (tgt := 76) hx hb d_M_price_71 (by decide) (fun c_71 => ?_) (fun c_71 => ?_)
        · exact absurd c_71 (by decide)
        · refine lv_iconst (v := 0) hx hb d_M_price_74 (by decide) ?_
          exact g_zret C (by first | exact Or.inl rfl | exact Or.inr rfl) hP hS (⟨1, b, bc, cp, ⟨MK, PL, AB, BE, AS, FP, PC, PF, PT, PU, RA, KC, PK, ST, DC, DY, DS, SU, hv_f10, hR⟩, Or.inr (Or.inr ⟨hB, rfl, rfl⟩)⟩) (Nat.le_of_ble_eq_true rfl) (Nat.le_of_ble_eq_true rfl) d_M_price_75
      · refine lv_iload hx hb d_M_price_42 (lv_at hl 5 rfl) ?_
        refine g_calli (g_runS C hl.1 (ct_M_isCurrency f u0 _) (cx_S C 1 wd_671 wd_672 wd_3 wd_673 rfl rfl (by decide +kernel) ⟨Nat.le_of_ble_eq_true rfl, Nat.le_of_ble_eq_true rfl⟩) hP rfl rfl (Nat.le_of_ble_eq_true rfl) d_M_price_44 ⟨Nat.le_of_ble_eq_true rfl, Nat.le_of_ble_eq_true rfl⟩) hP hS hA0 (fun r12 f11 H locs hq hP hS => ?_)
        obtain ⟨hzC, hu⟩ := hq
        rw [hu] at hP
        refine lv_if_ne (tgt := 54) hx hb d_M_price_47 (by decide) (fun c_47 => ?_) (fun c_47 => ?_)
        · refine lv_iload hx hb d_M_price_54 (lv_at hl 0 rfl) ?_
          refine lv_if_eq (tgt := 63) hx hb d_M_price_56 (by decide) (fun c_56 => ?_) (fun c_56 => ?_)
          · refine lv_iconst (v := 2) hx hb d_M_price_63 (by decide) ?_
            have hI : I_price b p0 u0 := ⟨bz_t hzP c_39, bz_t hzC c_47⟩
            have hB : ¬ (N_price m0 c0) := fun z9 => hG z9
            refine g_put C i_M t_M t_M_ok n_M hP hS hv.1 rfl 0 (by decide) wd_506 rfl rfl rfl (rfl) (Nat.le_of_ble_eq_true rfl) d_M_price_64 (fun H locs hP hS => ?_)
            obtain ⟨f13, ef13⟩ : ∃ z99, z99 = va_up f y (some (ob 4 [.int 2, .int (nI (bN b)), .ref (ca 0), .ref (ca 1), .ref (ca 2), .ref (ca 3), .int (nI (bRc b)), .ref (ca 4), .int (nI (bHc b)), .ref (ca 5), .ref (ca 6), .ref (ca 7), .ref (ca 8), .ref (ca 9), .ref (ca 10), .ref (ca 11), .ref (ca 12), .ref (ca 13), .ref (ca 14), .ref (ca 15), .ref (ca 16), .ref (ca 17), .long bc, .int cp])) := ⟨_, rfl⟩
            replace hP : hH G (hA f s.heap.size) f13 H := by rw [ef13]; exact hP
            have hv_f13 : mv G f13 y ca 2 (nI (bN b)) (nI (bRc b)) (nI (bHc b)) bc cp MK PL AB BE AS FP PC PF PT PU RA KC PK ST DC DY DS SU := by rw [ef13]; exact mv_y hv _ _ _ _ _ _
            refine lv_aload_n hx hb d_M_price_67 rfl (lv_at hl 1 rfl) ?_
            refine g_get C i_M hP hv_f13.1 rfl 0 (by decide) wd_506 rfl rfl d_M_price_68 ?_
            refine lv_if_eq (tgt := 76) hx hb d_M_price_71 (by decide) (fun c_71 => ?_) (fun c_71 => ?_)
            · exact absurd c_71 (by decide)
            · refine lv_iconst (v := 0) hx hb d_M_price_74 (by decide) ?_
              exact g_zret C (by first | exact Or.inl rfl | exact Or.inr rfl) hP hS (⟨2, b, bc, cp, ⟨MK, PL, AB, BE, AS, FP, PC, PF, PT, PU, RA, KC, PK, ST, DC, DY, DS, SU, hv_f13, hR⟩, Or.inr (Or.inl ⟨hI, hB, rfl, rfl⟩)⟩) (Nat.le_of_ble_eq_true rfl) (Nat.le_of_ble_eq_true rfl) d_M_price_75
          · exact absurd c_56 (by decide)
        · refine lv_iconst (v := 1) hx hb d_M_price_50 (by decide) ?_
          refine lv_goto (tgt := 64) hx hb d_M_price_51 (by decide) ?_
          have hB : ¬ (I_price b p0 u0) := fun z9 => by first | exact bz_f hzP c_39 z9.1 | exact bz_f hzC c_47 z9.2
          refine g_put C i_M t_M t_M_ok n_M hP hS hv.1 rfl 0 (by decide) wd_506 rfl rfl rfl (rfl) (Nat.le_of_ble_eq_true rfl) d_M_price_64 (fun H locs hP hS => ?_)
          obtain ⟨f14, ef14⟩ : ∃ z99, z99 = va_up f y (some (ob 4 [.int 1, .int (nI (bN b)), .ref (ca 0), .ref (ca 1), .ref (ca 2), .ref (ca 3), .int (nI (bRc b)), .ref (ca 4), .int (nI (bHc b)), .ref (ca 5), .ref (ca 6), .ref (ca 7), .ref (ca 8), .ref (ca 9), .ref (ca 10), .ref (ca 11), .ref (ca 12), .ref (ca 13), .ref (ca 14), .ref (ca 15), .ref (ca 16), .ref (ca 17), .long bc, .int cp])) := ⟨_, rfl⟩
          replace hP : hH G (hA f s.heap.size) f14 H := by rw [ef14]; exact hP
          have hv_f14 : mv G f14 y ca 1 (nI (bN b)) (nI (bRc b)) (nI (bHc b)) bc cp MK PL AB BE AS FP PC PF PT PU RA KC PK ST DC DY DS SU := by rw [ef14]; exact mv_y hv _ _ _ _ _ _
          refine lv_aload_n hx hb d_M_price_67 rfl (lv_at hl 1 rfl) ?_
          refine g_get C i_M hP hv_f14.1 rfl 0 (by decide) wd_506 rfl rfl d_M_price_68 ?_
          refine lv_if_eq (tgt := 76) hx hb d_M_price_71 (by decide) (fun c_71 => ?_) (fun c_71 => ?_)
          · exact absurd c_71 (by decide)
          · refine lv_iconst (v := 0) hx hb d_M_price_74 (by decide) ?_
            exact g_zret C (by first | exact Or.inl rfl | exact Or.inr rfl) hP hS (⟨1, b, bc, cp, ⟨MK, PL, AB, BE, AS, FP, PC, PF, PT, PU, RA, KC, PK, ST, DC, DY, DS, SU, hv_f14, hR⟩, Or.inr (Or.inr ⟨hB, rfl, rfl⟩)⟩) (Nat.le_of_ble_eq_true rfl) (Nat.le_of_ble_eq_true rfl) d_M_price_75
    · refine lv_lload_n hx hb d_M_price_12 rfl (lv_at hl 3 rfl) ?_
      refine lv_lconst (v := 1) hx hb d_M_price_13 (by decide) ?_
      refine W.lcmp hx hb d_M_price_14 ?_
      refine lv_if_lt (tgt := 30) hx hb d_M_price_15 (by decide) (fun c_15 => ?_) (fun c_15 => ?_)
      · have c_15 := (lg_cmp_lt _ _).mp c_15
        refine lv_iconst (v := 0) hx hb d_M_price_30 (by decide) ?_
        have hG : ¬ (N_price m0 c0) := fun z9 => by first | exact Int32.not_lt.mpr z9.1.1 c_2 | exact Int32.not_lt.mpr z9.1.2 c_9 | exact Int64.not_lt.mpr z9.2.1 c_15 | exact Int64.not_lt.mpr z9.2.2 c_23
        refine lv_istore (lv' := [(6, .int 0), (0, .ref y), (1, .int p0), (2, .int m0), (3, .long c0), (5, .int u0)]) hx hb d_M_price_31 hl (by decide) rfl (fun ls hl => ?_)
        refine lv_aload_n hx hb d_M_price_33 rfl (lv_at hl 1 rfl) ?_
        refine lv_aload_n hx hb d_M_price_34 rfl (lv_at hl 1 rfl) ?_
        refine lv_iload_n hx hb d_M_price_35 rfl (lv_at hl 2 rfl) ?_
        refine g_calli (g_runV C hl.1 (ct_M_isPart f y ca b hok th bc cp ⟨MK, PL, AB, BE, AS, FP, PC, PF, PT, PU, RA, KC, PK, ST, DC, DY, DS, SU, hv, hR⟩ p0 _) (cx_V C 1 wd_605 wd_607 wp_14 wd_3 wd_608 rfl rfl (by decide +kernel) ⟨Nat.le_of_ble_eq_true rfl, Nat.le_of_ble_eq_true rfl⟩) hP hv.1 rfl rfl rfl (Nat.le_of_ble_eq_true rfl) d_M_price_36 ⟨Nat.le_of_ble_eq_true rfl, Nat.le_of_ble_eq_true rfl⟩) hP hS hA0 (fun r16 f15 H locs hq hP hS => ?_)
        obtain ⟨hzP, hu⟩ := hq
        rw [hu] at hP
        refine lv_if_eq (tgt := 50) hx hb d_M_price_39 (by decide) (fun c_39 => ?_) (fun c_39 => ?_)
        · refine lv_iconst (v := 1) hx hb d_M_price_50 (by decide) ?_
          refine lv_goto (tgt := 64) hx hb d_M_price_51 (by decide) ?_
          have hB : ¬ (I_price b p0 u0) := fun z9 => by first | exact bz_f hzP c_39 z9.1 | exact bz_f hzC c_47 z9.2
          refine g_put C i_M t_M t_M_ok n_M hP hS hv.1 rfl 0 (by decide) wd_506 rfl rfl rfl (rfl) (Nat.le_of_ble_eq_true rfl) d_M_price_64 (fun H locs hP hS => ?_)
          obtain ⟨f17, ef17⟩ : ∃ z99, z99 = va_up f y (some (ob 4 [.int 1, .int (nI (bN b)), .ref (ca 0), .ref (ca 1), .ref (ca 2), .ref (ca 3), .int (nI (bRc b)), .ref (ca 4), .int (nI (bHc b)), .ref (ca 5), .ref (ca 6), .ref (ca 7), .ref (ca 8), .ref (ca 9), .ref (ca 10), .ref (ca 11), .ref (ca 12), .ref (ca 13), .ref (ca 14), .ref (ca 15), .ref (ca 16), .ref (ca 17), .long bc, .int cp])) := ⟨_, rfl⟩
          replace hP : hH G (hA f s.heap.size) f17 H := by rw [ef17]; exact hP
          have hv_f17 : mv G f17 y ca 1 (nI (bN b)) (nI (bRc b)) (nI (bHc b)) bc cp MK PL AB BE AS FP PC PF PT PU RA KC PK ST DC DY DS SU := by rw [ef17]; exact mv_y hv _ _ _ _ _ _
          refine lv_aload_n hx hb d_M_price_67 rfl (lv_at hl 1 rfl) ?_
          refine g_get C i_M hP hv_f17.1 rfl 0 (by decide) wd_506 rfl rfl d_M_price_68 ?_
          refine lv_if_eq (tgt := 76) hx hb d_M_price_71 (by decide) (fun c_71 => ?_) (fun c_71 => ?_)
          · exact absurd c_71 (by decide)
          · refine lv_iconst (v := 0) hx hb d_M_price_74 (by decide) ?_
            exact g_zret C (by first | exact Or.inl rfl | exact Or.inr rfl) hP hS (⟨1, b, bc, cp, ⟨MK, PL, AB, BE, AS, FP, PC, PF, PT, PU, RA, KC, PK, ST, DC, DY, DS, SU, hv_f17, hR⟩, Or.inr (Or.inr ⟨hB, rfl, rfl⟩)⟩) (Nat.le_of_ble_eq_true rfl) (Nat.le_of_ble_eq_true rfl) d_M_price_75
        · refine lv_iload hx hb d_M_price_42 (lv_at hl 5 rfl) ?_
          refine g_calli (g_runS C hl.1 (ct_M_isCurrency f u0 _) (cx_S C 1 wd_671 wd_672 wd_3 wd_673 rfl rfl (by decide +kernel) ⟨Nat.le_of_ble_eq_true rfl, Nat.le_of_ble_eq_true rfl⟩) hP rfl rfl (Nat.le_of_ble_eq_true rfl) d_M_price_44 ⟨Nat.le_of_ble_eq_true rfl, Nat.le_of_ble_eq_true rfl⟩) hP hS hA0 (fun r19 f18 H locs hq hP hS => ?_)
          obtain ⟨hzC, hu⟩ := hq
          rw [hu] at hP
          refine lv_if_ne (tgt := 54) hx hb d_M_price_47 (by decide) (fun c_47 => ?_) (fun c_47 => ?_)
          · refine lv_iload hx hb d_M_price_54 (lv_at hl 0 rfl) ?_
            refine lv_if_eq (tgt := 63) hx hb d_M_price_56 (by decide) (fun c_56 => ?_) (fun c_56 => ?_)
            · refine lv_iconst (v := 2) hx hb d_M_price_63 (by decide) ?_
              have hI : I_price b p0 u0 := ⟨bz_t hzP c_39, bz_t hzC c_47⟩
              have hB : ¬ (N_price m0 c0) := fun z9 => hG z9
              refine g_put C i_M t_M t_M_ok n_M hP hS hv.1 rfl 0 (by decide) wd_506 rfl rfl rfl (rfl) (Nat.le_of_ble_eq_true rfl) d_M_price_64 (fun H locs hP hS => ?_)
              obtain ⟨f20, ef20⟩ : ∃ z99, z99 = va_up f y (some (ob 4 [.int 2, .int (nI (bN b)), .ref (ca 0), .ref (ca 1), .ref (ca 2), .ref (ca 3), .int (nI (bRc b)), .ref (ca 4), .int (nI (bHc b)), .ref (ca 5), .ref (ca 6), .ref (ca 7), .ref (ca 8), .ref (ca 9), .ref (ca 10), .ref (ca 11), .ref (ca 12), .ref (ca 13), .ref (ca 14), .ref (ca 15), .ref (ca 16), .ref (ca 17), .long bc, .int cp])) := ⟨_, rfl⟩
              replace hP : hH G (hA f s.heap.size) f20 H := by rw [ef20]; exact hP
              have hv_f20 : mv G f20 y ca 2 (nI (bN b)) (nI (bRc b)) (nI (bHc b)) bc cp MK PL AB BE AS FP PC PF PT PU RA KC PK ST DC DY DS SU := by rw [ef20]; exact mv_y hv _ _ _ _ _ _
              refine lv_aload_n hx hb d_M_price_67 rfl (lv_at hl 1 rfl) ?_
              refine g_get C i_M hP hv_f20.1 rfl 0 (by decide) wd_506 rfl rfl d_M_price_68 ?_
              refine lv_if_eq (tgt := 76) hx hb d_M_price_71 (by decide) (fun c_71 => ?_) (fun c_71 => ?_)
              · exact absurd c_71 (by decide)
              · refine lv_iconst (v := 0) hx hb d_M_price_74 (by decide) ?_
                exact g_zret C (by first | exact Or.inl rfl | exact Or.inr rfl) hP hS (⟨2, b, bc, cp, ⟨MK, PL, AB, BE, AS, FP, PC, PF, PT, PU, RA, KC, PK, ST, DC, DY, DS, SU, hv_f20, hR⟩, Or.inr (Or.inl ⟨hI, hB, rfl, rfl⟩)⟩) (Nat.le_of_ble_eq_true rfl) (Nat.le_of_ble_eq_true rfl) d_M_price_75
            · exact absurd c_56 (by decide)
          · refine lv_iconst (v := 1) hx hb d_M_price_50 (by decide) ?_
            refine lv_goto (tgt := 64) hx hb d_M_price_51 (by decide) ?_
            have hB : ¬ (I_price b p0 u0) := fun z9 => by first | exact bz_f hzP c_39 z9.1 | exact bz_f hzC c_47 z9.2
            refine g_put C i_M t_M t_M_ok n_M hP hS hv.1 rfl 0 (by decide) wd_506 rfl rfl rfl (rfl) (Nat.le_of_ble_eq_true rfl) d_M_price_64 (fun H locs hP hS => ?_)
            obtain ⟨f21, ef21⟩ : ∃ z99, z99 = va_up f y (some (ob 4 [.int 1, .int (nI (bN b)), .ref (ca 0), .ref (ca 1), .ref (ca 2), .ref (ca 3), .int (nI (bRc b)), .ref (ca 4), .int (nI (bHc b)), .ref (ca 5), .ref (ca 6), .ref (ca 7), .ref (ca 8), .ref (ca 9), .ref (ca 10), .ref (ca 11), .ref (ca 12), .ref (ca 13), .ref (ca 14), .ref (ca 15), .ref (ca 16), .ref (ca 17), .long bc, .int cp])) := ⟨_, rfl⟩
            replace hP : hH G (hA f s.heap.size) f21 H := by rw [ef21]; exact hP
            have hv_f21 : mv G f21 y ca 1 (nI (bN b)) (nI (bRc b)) (nI (bHc b)) bc cp MK PL AB BE AS FP PC PF PT PU RA KC PK ST DC DY DS SU := by rw [ef21]; exact mv_y hv _ _ _ _ _ _
            refine lv_aload_n hx hb d_M_price_67 rfl (lv_at hl 1 rfl) ?_
            refine g_get C i_M hP hv_f21.1 rfl 0 (by decide) wd_506 rfl rfl d_M_price_68 ?_
            refine lv_if_eq (tgt := 76) hx hb d_M_price_71 (by decide) (fun c_71 => ?_) (fun c_71 => ?_)
            · exact absurd c_71 (by decide)
            · refine lv_iconst (v := 0) hx hb d_M_price_74 (by decide) ?_
              exact g_zret C (by first | exact Or.inl rfl | exact Or.inr rfl) hP hS (⟨1, b, bc, cp, ⟨MK, PL, AB, BE, AS, FP, PC, PF, PT, PU, RA, KC, PK, ST, DC, DY, DS, SU, hv_f21, hR⟩, Or.inr (Or.inr ⟨hB, rfl, rfl⟩)⟩) (Nat.le_of_ble_eq_true rfl) (Nat.le_of_ble_eq_true rfl) d_M_price_75
      · have c_15 := fun z => c_15 ((lg_cmp_lt _ _).mpr z)
        refine lv_lload_n hx hb d_M_price_18 rfl (lv_at hl 3 rfl) ?_
        refine lv_ldc2 hx hb hown (C.w wd_604) d_M_price_19 ?_
        refine W.lcmp hx hb d_M_price_22 ?_
        refine lv_if_gt (tgt := 30) hx hb d_M_price_23 (by decide) (fun c_23 => ?_) (fun c_23 => ?_)
        · have c_23 := (lg_cmp_gt _ _).mp c_23
          refine lv_iconst (v := 0) hx hb d_M_price_30 (by decide) ?_
          have hG : ¬ (N_price m0 c0) := fun z9 => by first | exact Int32.not_lt.mpr z9.1.1 c_2 | exact Int32.not_lt.mpr z9.1.2 c_9 | exact Int64.not_lt.mpr z9.2.1 c_15 | exact Int64.not_lt.mpr z9.2.2 c_23
          refine lv_istore (lv' := [(6, .int 0), (0, .ref y), (1, .int p0), (2, .int m0), (3, .long c0), (5, .int u0)]) hx hb d_M_price_31 hl (by decide) rfl (fun ls hl => ?_)
          refine lv_aload_n hx hb d_M_price_33 rfl (lv_at hl 1 rfl) ?_
          refine lv_aload_n hx hb d_M_price_34 rfl (lv_at hl 1 rfl) ?_
          refine lv_iload_n hx hb d_M_price_35 rfl (lv_at hl 2 rfl) ?_
          refine g_calli (g_runV C hl.1 (ct_M_isPart f y ca b hok th bc cp ⟨MK, PL, AB, BE, AS, FP, PC, PF, PT, PU, RA, KC, PK, ST, DC, DY, DS, SU, hv, hR⟩ p0 _) (cx_V C 1 wd_605 wd_607 wp_14 wd_3 wd_608 rfl rfl (by decide +kernel) ⟨Nat.le_of_ble_eq_true rfl, Nat.le_of_ble_eq_true rfl⟩) hP hv.1 rfl rfl rfl (Nat.le_of_ble_eq_true rfl) d_M_price_36 ⟨Nat.le_of_ble_eq_true rfl, Nat.le_of_ble_eq_true rfl⟩) hP hS hA0 (fun r23 f22 H locs hq hP hS => ?_)
          obtain ⟨hzP, hu⟩ := hq
          rw [hu] at hP
          refine lv_if_eq (tgt := 50) hx hb d_M_price_39 (by decide) (fun c_39 => ?_) (fun c_39 => ?_)
          · refine lv_iconst (v := 1) hx hb d_M_price_50 (by decide) ?_
            refine lv_goto (tgt := 64) hx hb d_M_price_51 (by decide) ?_
            have hB : ¬ (I_price b p0 u0) := fun z9 => by first | exact bz_f hzP c_39 z9.1 | exact bz_f hzC c_47 z9.2
            refine g_put C i_M t_M t_M_ok n_M hP hS hv.1 rfl 0 (by decide) wd_506 rfl rfl rfl (rfl) (Nat.le_of_ble_eq_true rfl) d_M_price_64 (fun H locs hP hS => ?_)
            obtain ⟨f24, ef24⟩ : ∃ z99, z99 = va_up f y (some (ob 4 [.int 1, .int (nI (bN b)), .ref (ca 0), .ref (ca 1), .ref (ca 2), .ref (ca 3), .int (nI (bRc b)), .ref (ca 4), .int (nI (bHc b)), .ref (ca 5), .ref (ca 6), .ref (ca 7), .ref (ca 8), .ref (ca 9), .ref (ca 10), .ref (ca 11), .ref (ca 12), .ref (ca 13), .ref (ca 14), .ref (ca 15), .ref (ca 16), .ref (ca 17), .long bc, .int cp])) := ⟨_, rfl⟩
            replace hP : hH G (hA f s.heap.size) f24 H := by rw [ef24]; exact hP
            have hv_f24 : mv G f24 y ca 1 (nI (bN b)) (nI (bRc b)) (nI (bHc b)) bc cp MK PL AB BE AS FP PC PF PT PU RA KC PK ST DC DY DS SU := by rw [ef24]; exact mv_y hv _ _ _ _ _ _
            refine lv_aload_n hx hb d_M_price_67 rfl (lv_at hl 1 rfl) ?_
            refine g_get C i_M hP hv_f24.1 rfl 0 (by decide) wd_506 rfl rfl d_M_price_68 ?_
            refine lv_if_eq (tgt := 76) hx hb d_M_price_71 (by decide) (fun c_71 => ?_) (fun c_71 => ?_)
            · exact absurd c_71 (by decide)
            · refine lv_iconst (v := 0) hx hb d_M_price_74 (by decide) ?_
              exact g_zret C (by first | exact Or.inl rfl | exact Or.inr rfl) hP hS (⟨1, b, bc, cp, ⟨MK, PL, AB, BE, AS, FP, PC, PF, PT, PU, RA, KC, PK, ST, DC, DY, DS, SU, hv_f24, hR⟩, Or.inr (Or.inr ⟨hB, rfl, rfl⟩)⟩) (Nat.le_of_ble_eq_true rfl) (Nat.le_of_ble_eq_true rfl) d_M_price_75
          · refine lv_iload hx hb d_M_price_42 (lv_at hl 5 rfl) ?_
            refine g_calli (g_runS C hl.1 (ct_M_isCurrency f u0 _) (cx_S C 1 wd_671 wd_672 wd_3 wd_673 rfl rfl (by decide +kernel) ⟨Nat.le_of_ble_eq_true rfl, Nat.le_of_ble_eq_true rfl⟩) hP rfl rfl (Nat.le_of_ble_eq_true rfl) d_M_price_44 ⟨Nat.le_of_ble_eq_true rfl, Nat.le_of_ble_eq_true rfl⟩) hP hS hA0 (fun r26 f25 H locs hq hP hS => ?_)
            obtain ⟨hzC, hu⟩ := hq
            rw [hu] at hP
            refine lv_if_ne (tgt := 54) hx hb d_M_price_47 (by decide) (fun c_47 => ?_) (fun c_47 => ?_)
            · refine lv_iload hx hb d_M_price_54 (lv_at hl 0 rfl) ?_
              refine lv_if_eq (tgt := 63) hx hb d_M_price_56 (by decide) (fun c_56 => ?_) (fun c_56 => ?_)
              · refine lv_iconst (v := 2) hx hb d_M_price_63 (by decide) ?_
                have hI : I_price b p0 u0 := ⟨bz_t hzP c_39, bz_t hzC c_47⟩
                have hB : ¬ (N_price m0 c0) := fun z9 => hG z9
                refine g_put C i_M t_M t_M_ok n_M hP hS hv.1 rfl 0 (by decide) wd_506 rfl rfl rfl (rfl) (Nat.le_of_ble_eq_true rfl) d_M_price_64 (fun H locs hP hS => ?_)
                obtain ⟨f27, ef27⟩ : ∃ z99, z99 = va_up f y (some (ob 4 [.int 2, .int (nI (bN b)), .ref (ca 0), .ref (ca 1), .ref (ca 2), .ref (ca 3), .int (nI (bRc b)), .ref (ca 4), .int (nI (bHc b)), .ref (ca 5), .ref (ca 6), .ref (ca 7), .ref (ca 8), .ref (ca 9), .ref (ca 10), .ref (ca 11), .ref (ca 12), .ref (ca 13), .ref (ca 14), .ref (ca 15), .ref (ca 16), .ref (ca 17), .long bc, .int cp])) := ⟨_, rfl⟩
                replace hP : hH G (hA f s.heap.size) f27 H := by rw [ef27]; exact hP
                have hv_f27 : mv G f27 y ca 2 (nI (bN b)) (nI (bRc b)) (nI (bHc b)) bc cp MK PL AB BE AS FP PC PF PT PU RA KC PK ST DC DY DS SU := by rw [ef27]; exact mv_y hv _ _ _ _ _ _
                refine lv_aload_n hx hb d_M_price_67 rfl (lv_at hl 1 rfl) ?_
                refine g_get C i_M hP hv_f27.1 rfl 0 (by decide) wd_506 rfl rfl d_M_price_68 ?_
                refine lv_if_eq (tgt := 76) hx hb d_M_price_71 (by decide) (fun c_71 => ?_) (fun c_71 => ?_)
                · exact absurd c_71 (by decide)
                · refine lv_iconst (v := 0) hx hb d_M_price_74 (by decide) ?_
                  exact g_zret C (by first | exact Or.inl rfl | exact Or.inr rfl) hP hS (⟨2, b, bc, cp, ⟨MK, PL, AB, BE, AS, FP, PC, PF, PT, PU, RA, KC, PK, ST, DC, DY, DS, SU, hv_f27, hR⟩, Or.inr (Or.inl ⟨hI, hB, rfl, rfl⟩)⟩) (Nat.le_of_ble_eq_true rfl) (Nat.le_of_ble_eq_true rfl) d_M_price_75
              · exact absurd c_56 (by decide)
            · refine lv_iconst (v := 1) hx hb d_M_price_50 (by decide) ?_
              refine lv_goto (tgt := 64) hx hb d_M_price_51 (by decide) ?_
              have hB : ¬ (I_price b p0 u0) := fun z9 => by first | exact bz_f hzP c_39 z9.1 | exact bz_f hzC c_47 z9.2
              refine g_put C i_M t_M t_M_ok n_M hP hS hv.1 rfl 0 (by decide) wd_506 rfl rfl rfl (rfl) (Nat.le_of_ble_eq_true rfl) d_M_price_64 (fun H locs hP hS => ?_)
              obtain ⟨f28, ef28⟩ : ∃ z99, z99 = va_up f y (some (ob 4 [.int 1, .int (nI (bN b)), .ref (ca 0), .ref (ca 1), .ref (ca 2), .ref (ca 3), .int (nI (bRc b)), .ref (ca 4), .int (nI (bHc b)), .ref (ca 5), .ref (ca 6), .ref (ca 7), .ref (ca 8), .ref (ca 9), .ref (ca 10), .ref (ca 11), .ref (ca 12), .ref (ca 13), .ref (ca 14), .ref (ca 15), .ref (ca 16), .ref (ca 17), .long bc, .int cp])) := ⟨_, rfl⟩
              replace hP : hH G (hA f s.heap.size) f28 H := by rw [ef28]; exact hP
              have hv_f28 : mv G f28 y ca 1 (nI (bN b)) (nI (bRc b)) (nI (bHc b)) bc cp MK PL AB BE AS FP PC PF PT PU RA KC PK ST DC DY DS SU := by rw [ef28]; exact mv_y hv _ _ _ _ _ _
              refine lv_aload_n hx hb d_M_price_67 rfl (lv_at hl 1 rfl) ?_
              refine g_get C i_M hP hv_f28.1 rfl 0 (by decide) wd_506 rfl rfl d_M_price_68 ?_
              refine lv_if_eq (tgt := 76) hx hb d_M_price_71 (by decide) (fun c_71 => ?_) (fun c_71 => ?_)
              · exact absurd c_71 (by decide)
              · refine lv_iconst (v := 0) hx hb d_M_price_74 (by decide) ?_
                exact g_zret C (by first | exact Or.inl rfl | exact Or.inr rfl) hP hS (⟨1, b, bc, cp, ⟨MK, PL, AB, BE, AS, FP, PC, PF, PT, PU, RA, KC, PK, ST, DC, DY, DS, SU, hv_f28, hR⟩, Or.inr (Or.inr ⟨hB, rfl, rfl⟩)⟩) (Nat.le_of_ble_eq_true rfl) (Nat.le_of_ble_eq_true rfl) d_M_price_75
        · have c_23 := fun z => c_23 ((lg_cmp_gt _ _).mpr z)
          refine lv_iconst (v := 1) hx hb d_M_price_26 (by decide) ?_
          refine lv_goto (tgt := 31) hx hb d_M_price_27 (by decide) ?_
          have hG : N_price m0 c0 := ⟨⟨Int32.not_lt.mp c_2, Int32.not_lt.mp c_9⟩, ⟨Int64.not_lt.mp c_15, Int64.not_lt.mp c_23⟩⟩
          refine lv_istore (lv' := [(6, .int 1), (0, .ref y), (1, .int p0), (2, .int m0), (3, .long c0), (5, .int u0)]) hx hb d_M_price_31 hl (by decide) rfl (fun ls hl => ?_)
          refine lv_aload_n hx hb d_M_price_33 rfl (lv_at hl 1 rfl) ?_
          refine lv_aload_n hx hb d_M_price_34 rfl (lv_at hl 1 rfl) ?_
          refine lv_iload_n hx hb d_M_price_35 rfl (lv_at hl 2 rfl) ?_
          refine g_calli (g_runV C hl.1 (ct_M_isPart f y ca b hok th bc cp ⟨MK, PL, AB, BE, AS, FP, PC, PF, PT, PU, RA, KC, PK, ST, DC, DY, DS, SU, hv, hR⟩ p0 _) (cx_V C 1 wd_605 wd_607 wp_14 wd_3 wd_608 rfl rfl (by decide +kernel) ⟨Nat.le_of_ble_eq_true rfl, Nat.le_of_ble_eq_true rfl⟩) hP hv.1 rfl rfl rfl (Nat.le_of_ble_eq_true rfl) d_M_price_36 ⟨Nat.le_of_ble_eq_true rfl, Nat.le_of_ble_eq_true rfl⟩) hP hS hA0 (fun r30 f29 H locs hq hP hS => ?_)
          obtain ⟨hzP, hu⟩ := hq
          rw [hu] at hP
          refine lv_if_eq (tgt := 50) hx hb d_M_price_39 (by decide) (fun c_39 => ?_) (fun c_39 => ?_)
          · refine lv_iconst (v := 1) hx hb d_M_price_50 (by decide) ?_
            refine lv_goto (tgt := 64) hx hb d_M_price_51 (by decide) ?_
            have hB : ¬ (I_price b p0 u0) := fun z9 => by first | exact bz_f hzP c_39 z9.1 | exact bz_f hzC c_47 z9.2
            refine g_put C i_M t_M t_M_ok n_M hP hS hv.1 rfl 0 (by decide) wd_506 rfl rfl rfl (rfl) (Nat.le_of_ble_eq_true rfl) d_M_price_64 (fun H locs hP hS => ?_)
            obtain ⟨f31, ef31⟩ : ∃ z99, z99 = va_up f y (some (ob 4 [.int 1, .int (nI (bN b)), .ref (ca 0), .ref (ca 1), .ref (ca 2), .ref (ca 3), .int (nI (bRc b)), .ref (ca 4), .int (nI (bHc b)), .ref (ca 5), .ref (ca 6), .ref (ca 7), .ref (ca 8), .ref (ca 9), .ref (ca 10), .ref (ca 11), .ref (ca 12), .ref (ca 13), .ref (ca 14), .ref (ca 15), .ref (ca 16), .ref (ca 17), .long bc, .int cp])) := ⟨_, rfl⟩
            replace hP : hH G (hA f s.heap.size) f31 H := by rw [ef31]; exact hP
            have hv_f31 : mv G f31 y ca 1 (nI (bN b)) (nI (bRc b)) (nI (bHc b)) bc cp MK PL AB BE AS FP PC PF PT PU RA KC PK ST DC DY DS SU := by rw [ef31]; exact mv_y hv _ _ _ _ _ _
            refine lv_aload_n hx hb d_M_price_67 rfl (lv_at hl 1 rfl) ?_
            refine g_get C i_M hP hv_f31.1 rfl 0 (by decide) wd_506 rfl rfl d_M_price_68 ?_
            refine lv_if_eq (tgt := 76) hx hb d_M_price_71 (by decide) (fun c_71 => ?_) (fun c_71 => ?_)
            · exact absurd c_71 (by decide)
            · refine lv_iconst (v := 0) hx hb d_M_price_74 (by decide) ?_
              exact g_zret C (by first | exact Or.inl rfl | exact Or.inr rfl) hP hS (⟨1, b, bc, cp, ⟨MK, PL, AB, BE, AS, FP, PC, PF, PT, PU, RA, KC, PK, ST, DC, DY, DS, SU, hv_f31, hR⟩, Or.inr (Or.inr ⟨hB, rfl, rfl⟩)⟩) (Nat.le_of_ble_eq_true rfl) (Nat.le_of_ble_eq_true rfl) d_M_price_75
          · refine lv_iload hx hb d_M_price_42 (lv_at hl 5 rfl) ?_
            refine g_calli (g_runS C hl.1 (ct_M_isCurrency f u0 _) (cx_S C 1 wd_671 wd_672 wd_3 wd_673 rfl rfl (by decide +kernel) ⟨Nat.le_of_ble_eq_true rfl, Nat.le_of_ble_eq_true rfl⟩) hP rfl rfl (Nat.le_of_ble_eq_true rfl) d_M_price_44 ⟨Nat.le_of_ble_eq_true rfl, Nat.le_of_ble_eq_true rfl⟩) hP hS hA0 (fun r33 f32 H locs hq hP hS => ?_)
            obtain ⟨hzC, hu⟩ := hq
            rw [hu] at hP
            refine lv_if_ne (tgt := 54) hx hb d_M_price_47 (by decide) (fun c_47 => ?_) (fun c_47 => ?_)
            · refine lv_iload hx hb d_M_price_54 (lv_at hl 0 rfl) ?_
              refine lv_if_eq (tgt := 63) hx hb d_M_price_56 (by decide) (fun c_56 => ?_) (fun c_56 => ?_)
              · exact absurd c_56 (by decide)
              · refine lv_iconst (v := 0) hx hb d_M_price_59 (by decide) ?_
                refine lv_goto (tgt := 64) hx hb d_M_price_60 (by decide) ?_
                have hI : I_price b p0 u0 := ⟨bz_t hzP c_39, bz_t hzC c_47⟩
                have hN : N_price m0 c0 := hG
                obtain ⟨i, x, w, z, D1, hi, rfl, hx9, rfl, hw9, rfl, hz9, rfl, hT, rfl⟩ := hK0 hI hN
                have hDi := hok.2.1 i hi
                obtain ⟨hpc, B2, C2, K2, hrow, hcel⟩ := hR.2.2.2.1 i (by omega)
                have h8 := hDi.1.2.2.1
                refine g_put C i_M t_M t_M_ok n_M hP hS hv.1 rfl 0 (by decide) wd_506 rfl rfl rfl (rfl) (Nat.le_of_ble_eq_true rfl) d_M_price_64 (fun H locs hP hS => ?_)
                obtain ⟨f34, ef34⟩ : ∃ z99, z99 = va_up f y (some (ob 4 [.int 0, .int (nI (bN b)), .ref (ca 0), .ref (ca 1), .ref (ca 2), .ref (ca 3), .int (nI (bRc b)), .ref (ca 4), .int (nI (bHc b)), .ref (ca 5), .ref (ca 6), .ref (ca 7), .ref (ca 8), .ref (ca 9), .ref (ca 10), .ref (ca 11), .ref (ca 12), .ref (ca 13), .ref (ca 14), .ref (ca 15), .ref (ca 16), .ref (ca 17), .long bc, .int cp])) := ⟨_, rfl⟩
                replace hP : hH G (hA f s.heap.size) f34 H := by rw [ef34]; exact hP
                have hv_f34 : mv G f34 y ca 0 (nI (bN b)) (nI (bRc b)) (nI (bHc b)) bc cp MK PL AB BE AS FP PC PF PT PU RA KC PK ST DC DY DS SU := by rw [ef34]; exact mv_y hv _ _ _ _ _ _
                refine lv_aload_n hx hb d_M_price_67 rfl (lv_at hl 1 rfl) ?_
                refine g_get C i_M hP hv_f34.1 rfl 0 (by decide) wd_506 rfl rfl d_M_price_68 ?_
                refine lv_if_eq (tgt := 76) hx hb d_M_price_71 (by decide) (fun c_71 => ?_) (fun c_71 => ?_)
                · refine lv_bipush (v := 8) hx hb d_M_price_76 (by decide) ?_
                  refine lv_iload_n hx hb d_M_price_78 rfl (lv_at hl 2 rfl) ?_
                  refine lv_imul hx hb d_M_price_79 ?_
                  refine g_eqi (y := nI (8 * i + 0)) (pk_mul _ _) ?_
                  refine lv_istore (lv' := [(7, .int (nI (8 * i + 0))), (6, .int 1), (0, .ref y), (1, .int (nI i)), (2, .int (nI x)), (3, .long (lN w)), (5, .int (nI z))]) hx hb d_M_price_80 hl (by decide) rfl (fun ls hl => ?_)
                  have loop : ∀ (d j : Nat) (ls : Array Slot), pN1 (bD b i) < j + d → j ≤ pN1 (bD b i) → (∀ j2, j2 < j → PF (8 * i + j2) ≠ nI x) → lv_has ls 8 [(7, .int (nI (8 * i + j))), (0, .ref y), (1, .int (nI i)), (2, .int (nI x)), (3, .long (lN w)), (5, .int (nI z))] → W p l e { frames := 2, cells := 0, slots := 0, locals := 120 } s m #[.ref y, .int (nI i), .int (nI x), .long (lN w), .int (nI z)] below meth c H locs 0 0 (MQ below (va_Qi (fun r u => ∃ th2 b2 bc2 cp2, mS G u y ca b2 th2 bc2 cp2 ∧ mp (I_price b (nI i) (nI z)) (N_price (nI x) (lN w)) b (bSet b i D1) (r = r0) th2 b2) (hB G (hA f s.heap.size)) (hA f s.heap.size)) #[.ref y, .int (nI i), .int (nI x), .long (lN w), .int (nI z)] s 0 0 (hA f s.heap.size)) (F0 m 82 ls []) := by
                    intro d
                    induction d with
                    | zero => intro j ls h1 h2; exact absurd h1 (by omega)
                    | succ d ih =>
                      intro j ls h1 h2 hno hl
                      refine lv_iload hx hb d_M_price_82 (lv_at hl 0 rfl) ?_
                      refine lv_bipush (v := 8) hx hb d_M_price_84 (by decide) ?_
                      refine lv_iload_n hx hb d_M_price_86 rfl (lv_at hl 2 rfl) ?_
                      refine lv_imul hx hb d_M_price_87 ?_
                      refine g_eqi (y := nI (8 * i)) (pk_mul _ _) ?_
                      refine lv_aload_n hx hb d_M_price_88 rfl (lv_at hl 1 rfl) ?_
                      refine g_get C i_M hP hv_f34.1 rfl 10 (by decide) wd_516 rfl rfl d_M_price_89 ?_
                      refine lv_iload_n hx hb d_M_price_92 rfl (lv_at hl 2 rfl) ?_
                      refine g_ialdN C hP hv_f34.2.2.2.2.2.2.2.1 (j := i) (by omega) (by decide) d_M_price_93 ?_
                      refine g_eqi (y := nI (pN1 (bD b i))) (hpc) ?_
                      refine lv_iadd hx hb d_M_price_94 ?_
                      refine g_eqi (y := nI (8 * i + pN1 (bD b i))) (nI_add _ _) ?_
                      refine lv_icmp_ge (tgt := 115) hx hb d_M_price_95 (by decide) (fun c_95 => ?_) (fun c_95 => ?_)
                      · have hjn : j = pN1 (bD b i) := by have := (nI_leI (by omega) (by omega)).mp c_95; omega
                        subst hjn
                        have hnox : ∀ j2, j2 < pN1 (bD b i) → B2 j2 ≠ x := fun j2 h9 z9 => hno j2 (by omega) (by rw [(hcel j2 h9).1, z9])
                        have hnk : ∀ k, k < pN1 (bD b i) → pB1 (bD b i) k ≠ x := fun k h9 z9 => by
                          obtain ⟨j2, h7, h8, -⟩ := hrow.2.1 k h9
                          exact hnox j2 h7 (h8.trans z9)
                        refine lv_iload hx hb d_M_price_115 (lv_at hl 0 rfl) ?_
                        refine lv_bipush (v := 8) hx hb d_M_price_117 (by decide) ?_
                        refine lv_iload_n hx hb d_M_price_119 rfl (lv_at hl 2 rfl) ?_
                        refine lv_imul hx hb d_M_price_120 ?_
                        refine g_eqi (y := nI (8 * i)) (pk_mul _ _) ?_
                        refine lv_aload_n hx hb d_M_price_121 rfl (lv_at hl 1 rfl) ?_
                        refine g_get C i_M hP hv_f34.1 rfl 10 (by decide) wd_516 rfl rfl d_M_price_122 ?_
                        refine lv_iload_n hx hb d_M_price_125 rfl (lv_at hl 2 rfl) ?_
                        refine g_ialdN C hP hv_f34.2.2.2.2.2.2.2.1 (j := i) (by omega) (by decide) d_M_price_126 ?_
                        refine g_eqi (y := nI (pN1 (bD b i))) (hpc) ?_
                        refine lv_iadd hx hb d_M_price_127 ?_
                        refine g_eqi (y := nI (8 * i + pN1 (bD b i))) (nI_add _ _) ?_
                        refine lv_icmp_ge (tgt := 157) hx hb d_M_price_128 (by decide) (fun c_128 => ?_) (fun c_128 => ?_)
                        · refine lv_aload_n hx hb d_M_price_157 rfl (lv_at hl 1 rfl) ?_
                          refine g_get C i_M hP hv_f34.1 rfl 10 (by decide) wd_516 rfl rfl d_M_price_158 ?_
                          refine lv_iload_n hx hb d_M_price_161 rfl (lv_at hl 2 rfl) ?_
                          refine g_ialdN C hP hv_f34.2.2.2.2.2.2.2.1 (j := i) (by omega) (by decide) d_M_price_162 ?_
                          refine g_eqi (y := nI (pN1 (bD b i))) (hpc) ?_
                          refine lv_bipush (v := 8) hx hb d_M_price_163 (by decide) ?_
                          refine lv_icmp_ne (tgt := 170) hx hb d_M_price_165 (by decide) (fun c_165 => ?_) (fun c_165 => ?_)
                          · have q_8 : pN1 (bD b i) < 8 := by have : pN1 (bD b i) ≠ 8 := fun z9 => c_165 (by rw [z9]; rfl); omega
                            obtain ⟨-, hr0, k9, hk9a, rfl⟩ := (telP_new hT hnk).resolve_left (fun z9 => by omega)
                            refine lv_aload_n hx hb d_M_price_170 rfl (lv_at hl 1 rfl) ?_
                            refine g_get C i_M hP hv_f34.1 rfl 10 (by decide) wd_516 rfl rfl d_M_price_171 ?_
                            refine lv_iload_n hx hb d_M_price_174 rfl (lv_at hl 2 rfl) ?_
                            refine lv_dup2_11 hx hb d_M_price_175 rfl rfl ?_
                            refine g_ialdN C hP hv_f34.2.2.2.2.2.2.2.1 (j := i) (by omega) (by decide) d_M_price_176 ?_
                            refine g_eqi (y := nI (pN1 (bD b i))) (hpc) ?_
                            refine lv_iconst (v := 1) hx hb d_M_price_177 (by decide) ?_
                            refine lv_iadd hx hb d_M_price_178 ?_
                            refine g_eqi (y := nI (pN1 (bD b i) + 1)) (nI_1 _) ?_
                            refine g_iastN C hP hS hv_f34.2.2.2.2.2.2.2.1 (j := i) (by omega) (by decide) d_M_price_179 (fun H locs hP hS => ?_)
                            obtain ⟨g2, eg2⟩ : ∃ z99, z99 = upd PC i (nI (pN1 (bD b i) + 1)) := ⟨_, rfl⟩
                            rw [← eg2] at hP
                            obtain ⟨f1, ef1⟩ : ∃ z99, z99 = va_up f34 (ca 6) (some (aI G 40 g2)) := ⟨_, rfl⟩
                            replace hP : hH G (hA f s.heap.size) f1 H := by rw [ef1]; exact hP
                            have hv_f1 : mv G f1 y ca 0 (nI (bN b)) (nI (bRc b)) (nI (bHc b)) bc cp MK PL AB BE AS FP g2 PF PT PU RA KC PK ST DC DY DS SU := by rw [ef1]; exact mv_6 hv_f34 _
                            refine lv_aload_n hx hb d_M_price_180 rfl (lv_at hl 1 rfl) ?_
                            refine g_get C i_M hP hv_f1.1 rfl 11 (by decide) wd_517 rfl rfl d_M_price_181 ?_
                            refine lv_iload hx hb d_M_price_184 (lv_at hl 0 rfl) ?_
                            refine lv_iload_n hx hb d_M_price_186 rfl (lv_at hl 3 rfl) ?_
                            refine g_iastN C hP hS hv_f1.2.2.2.2.2.2.2.2.1 (j := (8 * i + pN1 (bD b i))) (by omega) (by decide) d_M_price_187 (fun H locs hP hS => ?_)
                            obtain ⟨g4, eg4⟩ : ∃ z99, z99 = upd PF (8 * i + pN1 (bD b i)) (nI x) := ⟨_, rfl⟩
                            rw [← eg4] at hP
                            obtain ⟨f3, ef3⟩ : ∃ z99, z99 = va_up f1 (ca 7) (some (aI G 320 g4)) := ⟨_, rfl⟩
                            replace hP : hH G (hA f s.heap.size) f3 H := by rw [ef3]; exact hP
                            have hv_f3 : mv G f3 y ca 0 (nI (bN b)) (nI (bRc b)) (nI (bHc b)) bc cp MK PL AB BE AS FP g2 g4 PT PU RA KC PK ST DC DY DS SU := by rw [ef3]; exact mv_7 hv_f1 _
                            refine lv_aload_n hx hb d_M_price_188 rfl (lv_at hl 1 rfl) ?_
                            refine g_get C i_M hP hv_f3.1 rfl 12 (by decide) wd_518 rfl rfl d_M_price_189 ?_
                            refine lv_iload hx hb d_M_price_192 (lv_at hl 0 rfl) ?_
                            refine lv_lload_n hx hb d_M_price_194 rfl (lv_at hl 4 rfl) ?_
                            refine g_lastN C hP hS hv_f3.2.2.2.2.2.2.2.2.2.1 (j := (8 * i + pN1 (bD b i))) (by omega) (by decide) d_M_price_195 (fun H locs hP hS => ?_)
                            obtain ⟨g6, eg6⟩ : ∃ z99, z99 = vp_updL PT (8 * i + pN1 (bD b i)) (lN w) := ⟨_, rfl⟩
                            rw [← eg6] at hP
                            obtain ⟨f5, ef5⟩ : ∃ z99, z99 = va_up f3 (ca 8) (some (aL G 320 g6)) := ⟨_, rfl⟩
                            replace hP : hH G (hA f s.heap.size) f5 H := by rw [ef5]; exact hP
                            have hv_f5 : mv G f5 y ca 0 (nI (bN b)) (nI (bRc b)) (nI (bHc b)) bc cp MK PL AB BE AS FP g2 g4 g6 PU RA KC PK ST DC DY DS SU := by rw [ef5]; exact mv_8 hv_f3 _
                            refine lv_aload_n hx hb d_M_price_196 rfl (lv_at hl 1 rfl) ?_
                            refine g_get C i_M hP hv_f5.1 rfl 13 (by decide) wd_519 rfl rfl d_M_price_197 ?_
                            refine lv_iload hx hb d_M_price_200 (lv_at hl 0 rfl) ?_
                            refine lv_iload hx hb d_M_price_202 (lv_at hl 5 rfl) ?_
                            refine g_iastN C hP hS hv_f5.2.2.2.2.2.2.2.2.2.2.1 (j := (8 * i + pN1 (bD b i))) (by omega) (by decide) d_M_price_204 (fun H locs hP hS => ?_)
                            obtain ⟨g8, eg8⟩ : ∃ z99, z99 = upd PU (8 * i + pN1 (bD b i)) (nI z) := ⟨_, rfl⟩
                            rw [← eg8] at hP
                            obtain ⟨f7, ef7⟩ : ∃ z99, z99 = va_up f5 (ca 9) (some (aI G 320 g8)) := ⟨_, rfl⟩
                            replace hP : hH G (hA f s.heap.size) f7 H := by rw [ef7]; exact hP
                            have hv_f7 : mv G f7 y ca 0 (nI (bN b)) (nI (bRc b)) (nI (bHc b)) bc cp MK PL AB BE AS FP g2 g4 g6 g8 RA KC PK ST DC DY DS SU := by rw [ef7]; exact mv_9 hv_f5 _
                            refine lv_iconst (v := 1) hx hb d_M_price_205 (by decide) ?_
                            subst eg2 eg4 eg6 eg8
                            exact g_zret C (by first | exact Or.inl rfl | exact Or.inr rfl) hP hS (⟨0, bSet b i (dPr (bD b i) (pN1 (bD b i) + 1) (ins (pB1 (bD b i)) k9 (pN1 (bD b i)) x) (ins (pC1 (bD b i)) k9 (pN1 (bD b i)) w) (ins (pK1 (bD b i)) k9 (pN1 (bD b i)) z)), bc, cp, ⟨MK, PL, AB, BE, AS, FP, _, _, _, _, RA, KC, PK, ST, DC, DY, DS, SU, hv_f7, (mR_prc hR hi hNN (mRp_new hrow hcel hk9a x w z hnox) (fun k hk9 e9 => mRp_pc (mRp_off (hR.2.2.2.1 k hk9) (bD_8 hok hR.1.2.2.2.2 k).1 (by omega) e9 _ _ _) e9 _))⟩, Or.inl ⟨hI, hN, rfl, rfl, hr0.symm⟩⟩) (Nat.le_of_ble_eq_true rfl) (Nat.le_of_ble_eq_true rfl) d_M_price_206
                          · have q_8 : pN1 (bD b i) = 8 := (nI_eq (b := 8) (by omega) (by decide)).mp c_165
                            obtain ⟨-, hr0, eD⟩ := (telP_new hT hnk).resolve_right (fun z9 => by omega)
                            refine lv_iconst (v := 0) hx hb d_M_price_168 (by decide) ?_
                            subst eD
                            exact g_zret C (by first | exact Or.inl rfl | exact Or.inr rfl) hP hS (⟨0, bSet b i (bD b i), bc, cp, ⟨MK, PL, AB, BE, AS, FP, PC, PF, PT, PU, RA, KC, PK, ST, DC, DY, DS, SU, hv_f34, (by rw [show bSet b i (bD b i) = b from by show (_, _, _, va_up (bD b) i (bD b i), _) = _; rw [up_id rfl]]; exact hR)⟩, Or.inl ⟨hI, hN, rfl, rfl, hr0.symm⟩⟩) (Nat.le_of_ble_eq_true rfl) (Nat.le_of_ble_eq_true rfl) d_M_price_169
                        · exact absurd (Int32.le_refl _) c_128
                      · have hjn : j < pN1 (bD b i) := Nat.lt_of_not_le (fun z9 => c_95 ((nI_leI (by omega) (by omega)).mpr (by omega)))
                        refine lv_aload_n hx hb d_M_price_98 rfl (lv_at hl 1 rfl) ?_
                        refine g_get C i_M hP hv_f34.1 rfl 11 (by decide) wd_517 rfl rfl d_M_price_99 ?_
                        refine lv_iload hx hb d_M_price_102 (lv_at hl 0 rfl) ?_
                        refine g_ialdN C hP hv_f34.2.2.2.2.2.2.2.2.1 (j := (8 * i + j)) (by omega) (by decide) d_M_price_104 ?_
                        refine g_eqi (y := nI (B2 j)) ((hcel j hjn).1) ?_
                        refine lv_iload_n hx hb d_M_price_105 rfl (lv_at hl 3 rfl) ?_
                        refine lv_icmp_eq (tgt := 115) hx hb d_M_price_106 (by decide) (fun c_106 => ?_) (fun c_106 => ?_)
                        · have hfx : B2 j = x := by
                            obtain ⟨kk, hkk, ek1, -⟩ := hrow.1 j hjn
                            have := (hDi.2.2.1 kk hkk).1
                            exact (nI_eq (by omega) (by omega)).mp c_106
                          refine lv_iload hx hb d_M_price_115 (lv_at hl 0 rfl) ?_
                          refine lv_bipush (v := 8) hx hb d_M_price_117 (by decide) ?_
                          refine lv_iload_n hx hb d_M_price_119 rfl (lv_at hl 2 rfl) ?_
                          refine lv_imul hx hb d_M_price_120 ?_
                          refine g_eqi (y := nI (8 * i)) (pk_mul _ _) ?_
                          refine lv_aload_n hx hb d_M_price_121 rfl (lv_at hl 1 rfl) ?_
                          refine g_get C i_M hP hv_f34.1 rfl 10 (by decide) wd_516 rfl rfl d_M_price_122 ?_
                          refine lv_iload_n hx hb d_M_price_125 rfl (lv_at hl 2 rfl) ?_
                          refine g_ialdN C hP hv_f34.2.2.2.2.2.2.2.1 (j := i) (by omega) (by decide) d_M_price_126 ?_
                          refine g_eqi (y := nI (pN1 (bD b i))) (hpc) ?_
                          refine lv_iadd hx hb d_M_price_127 ?_
                          refine g_eqi (y := nI (8 * i + pN1 (bD b i))) (nI_add _ _) ?_
                          refine lv_icmp_ge (tgt := 157) hx hb d_M_price_128 (by decide) (fun c_128 => ?_) (fun c_128 => ?_)
                          · exact absurd ((nI_leI (by omega) (by omega)).mp c_128) (by omega)
                          · have hj2 := hjn
                            obtain ⟨kk, hkk, ek1, ek2⟩ := hrow.1 j hjn
                            have hck : pC1 (bD b i) kk = C2 j ∧ pK1 (bD b i) kk = K2 j := ⟨(congrArg Prod.fst ek2).symm, (congrArg Prod.snd ek2).symm⟩
                            obtain ⟨hr0, rfl⟩ := telP_found hT hDi hkk (ek1.symm.trans hfx)
                            have hlC := (hDi.2.2.1 kk hkk).2
                            refine lv_aload_n hx hb d_M_price_131 rfl (lv_at hl 1 rfl) ?_
                            refine g_get C i_M hP hv_f34.1 rfl 12 (by decide) wd_518 rfl rfl d_M_price_132 ?_
                            refine lv_iload hx hb d_M_price_135 (lv_at hl 0 rfl) ?_
                            refine g_laldN C hP hv_f34.2.2.2.2.2.2.2.2.2.1 (j := (8 * i + j)) (by omega) (by decide) d_M_price_137 ?_
                            refine g_eql (y := lN (C2 j)) ((hcel j hj2).2.1) ?_
                            refine lv_lload_n hx hb d_M_price_138 rfl (lv_at hl 4 rfl) ?_
                            refine W.lcmp hx hb d_M_price_139 ?_
                            refine lv_if_ne (tgt := 180) hx hb d_M_price_140 (by decide) (fun c_140 => ?_) (fun c_140 => ?_)
                            · have c_140 := fun z => c_140 ((lg_cmp_eq _ _).mpr z)
                              have q_n : ¬ (C2 j = w ∧ K2 j = z) := fun z9 => c_140 (by rw [z9.1])
                              refine lv_aload_n hx hb d_M_price_180 rfl (lv_at hl 1 rfl) ?_
                              refine g_get C i_M hP hv_f34.1 rfl 11 (by decide) wd_517 rfl rfl d_M_price_181 ?_
                              refine lv_iload hx hb d_M_price_184 (lv_at hl 0 rfl) ?_
                              refine lv_iload_n hx hb d_M_price_186 rfl (lv_at hl 3 rfl) ?_
                              refine g_iastN C hP hS hv_f34.2.2.2.2.2.2.2.2.1 (j := (8 * i + j)) (by omega) (by decide) d_M_price_187 (fun H locs hP hS => ?_)
                              obtain ⟨g10, eg10⟩ : ∃ z99, z99 = upd PF (8 * i + j) (nI x) := ⟨_, rfl⟩
                              rw [← eg10] at hP
                              obtain ⟨f9, ef9⟩ : ∃ z99, z99 = va_up f34 (ca 7) (some (aI G 320 g10)) := ⟨_, rfl⟩
                              replace hP : hH G (hA f s.heap.size) f9 H := by rw [ef9]; exact hP
                              have hv_f9 : mv G f9 y ca 0 (nI (bN b)) (nI (bRc b)) (nI (bHc b)) bc cp MK PL AB BE AS FP PC g10 PT PU RA KC PK ST DC DY DS SU := by rw [ef9]; exact mv_7 hv_f34 _
                              refine lv_aload_n hx hb d_M_price_188 rfl (lv_at hl 1 rfl) ?_
                              refine g_get C i_M hP hv_f9.1 rfl 12 (by decide) wd_518 rfl rfl d_M_price_189 ?_
                              refine lv_iload hx hb d_M_price_192 (lv_at hl 0 rfl) ?_
                              refine lv_lload_n hx hb d_M_price_194 rfl (lv_at hl 4 rfl) ?_
                              refine g_lastN C hP hS hv_f9.2.2.2.2.2.2.2.2.2.1 (j := (8 * i + j)) (by omega) (by decide) d_M_price_195 (fun H locs hP hS => ?_)
                              obtain ⟨g12, eg12⟩ : ∃ z99, z99 = vp_updL PT (8 * i + j) (lN w) := ⟨_, rfl⟩
                              rw [← eg12] at hP
                              obtain ⟨f11, ef11⟩ : ∃ z99, z99 = va_up f9 (ca 8) (some (aL G 320 g12)) := ⟨_, rfl⟩
                              replace hP : hH G (hA f s.heap.size) f11 H := by rw [ef11]; exact hP
                              have hv_f11 : mv G f11 y ca 0 (nI (bN b)) (nI (bRc b)) (nI (bHc b)) bc cp MK PL AB BE AS FP PC g10 g12 PU RA KC PK ST DC DY DS SU := by rw [ef11]; exact mv_8 hv_f9 _
                              refine lv_aload_n hx hb d_M_price_196 rfl (lv_at hl 1 rfl) ?_
                              refine g_get C i_M hP hv_f11.1 rfl 13 (by decide) wd_519 rfl rfl d_M_price_197 ?_
                              refine lv_iload hx hb d_M_price_200 (lv_at hl 0 rfl) ?_
                              refine lv_iload hx hb d_M_price_202 (lv_at hl 5 rfl) ?_
                              refine g_iastN C hP hS hv_f11.2.2.2.2.2.2.2.2.2.2.1 (j := (8 * i + j)) (by omega) (by decide) d_M_price_204 (fun H locs hP hS => ?_)
                              obtain ⟨g14, eg14⟩ : ∃ z99, z99 = upd PU (8 * i + j) (nI z) := ⟨_, rfl⟩
                              rw [← eg14] at hP
                              obtain ⟨f13, ef13⟩ : ∃ z99, z99 = va_up f11 (ca 9) (some (aI G 320 g14)) := ⟨_, rfl⟩
                              replace hP : hH G (hA f s.heap.size) f13 H := by rw [ef13]; exact hP
                              have hv_f13 : mv G f13 y ca 0 (nI (bN b)) (nI (bRc b)) (nI (bHc b)) bc cp MK PL AB BE AS FP PC g10 g12 g14 RA KC PK ST DC DY DS SU := by rw [ef13]; exact mv_9 hv_f11 _
                              refine lv_iconst (v := 1) hx hb d_M_price_205 (by decide) ?_
                              subst eg10 eg12 eg14
                              exact g_zret C (by first | exact Or.inl rfl | exact Or.inr rfl) hP hS (⟨0, bSet b i (dPr (bD b i) (pN1 (bD b i)) (pB1 (bD b i)) (va_up (pC1 (bD b i)) kk w) (va_up (pK1 (bD b i)) kk z)), bc, cp, ⟨MK, PL, AB, BE, AS, FP, PC, _, _, _, RA, KC, PK, ST, DC, DY, DS, SU, hv_f13, (mR_prc hR hi hNN (mRp_set hDi hpc hrow hcel hjn hkk ek1 x w z hfx) (fun k hk9 e9 => mRp_off (hR.2.2.2.1 k hk9) (bD_8 hok hR.1.2.2.2.2 k).1 (by omega) e9 _ _ _))⟩, Or.inl ⟨hI, hN, rfl, rfl, by rw [hr0, if_neg (fun z9 => q_n ⟨hck.1.symm.trans z9.1, hck.2.symm.trans z9.2⟩)]⟩⟩) (Nat.le_of_ble_eq_true rfl) (Nat.le_of_ble_eq_true rfl) d_M_price_206
                            · have c_140 := (lg_cmp_eq _ _).mp c_140
                              have q_c : C2 j = w := (pk_lEQ (by omega) (by omega)).mp c_140
                              refine lv_aload_n hx hb d_M_price_143 rfl (lv_at hl 1 rfl) ?_
                              refine g_get C i_M hP hv_f34.1 rfl 13 (by decide) wd_519 rfl rfl d_M_price_144 ?_
                              refine lv_iload hx hb d_M_price_147 (lv_at hl 0 rfl) ?_
                              refine g_ialdN C hP hv_f34.2.2.2.2.2.2.2.2.2.2.1 (j := (8 * i + j)) (by omega) (by decide) d_M_price_149 ?_
                              refine g_eqi (y := nI (K2 j)) ((hcel j hj2).2.2) ?_
                              refine lv_iload hx hb d_M_price_150 (lv_at hl 5 rfl) ?_
                              refine lv_icmp_ne (tgt := 180) hx hb d_M_price_152 (by decide) (fun c_152 => ?_) (fun c_152 => ?_)
                              · have q_n : ¬ (C2 j = w ∧ K2 j = z) := fun z9 => c_152 (by rw [z9.2])
                                refine lv_aload_n hx hb d_M_price_180 rfl (lv_at hl 1 rfl) ?_
                                refine g_get C i_M hP hv_f34.1 rfl 11 (by decide) wd_517 rfl rfl d_M_price_181 ?_
                                refine lv_iload hx hb d_M_price_184 (lv_at hl 0 rfl) ?_
                                refine lv_iload_n hx hb d_M_price_186 rfl (lv_at hl 3 rfl) ?_
                                refine g_iastN C hP hS hv_f34.2.2.2.2.2.2.2.2.1 (j := (8 * i + j)) (by omega) (by decide) d_M_price_187 (fun H locs hP hS => ?_)
                                obtain ⟨g16, eg16⟩ : ∃ z99, z99 = upd PF (8 * i + j) (nI x) := ⟨_, rfl⟩
                                rw [← eg16] at hP
                                obtain ⟨f15, ef15⟩ : ∃ z99, z99 = va_up f34 (ca 7) (some (aI G 320 g16)) := ⟨_, rfl⟩
                                replace hP : hH G (hA f s.heap.size) f15 H := by rw [ef15]; exact hP
                                have hv_f15 : mv G f15 y ca 0 (nI (bN b)) (nI (bRc b)) (nI (bHc b)) bc cp MK PL AB BE AS FP PC g16 PT PU RA KC PK ST DC DY DS SU := by rw [ef15]; exact mv_7 hv_f34 _
                                refine lv_aload_n hx hb d_M_price_188 rfl (lv_at hl 1 rfl) ?_
                                refine g_get C i_M hP hv_f15.1 rfl 12 (by decide) wd_518 rfl rfl d_M_price_189 ?_
                                refine lv_iload hx hb d_M_price_192 (lv_at hl 0 rfl) ?_
                                refine lv_lload_n hx hb d_M_price_194 rfl (lv_at hl 4 rfl) ?_
                                refine g_lastN C hP hS hv_f15.2.2.2.2.2.2.2.2.2.1 (j := (8 * i + j)) (by omega) (by decide) d_M_price_195 (fun H locs hP hS => ?_)
                                obtain ⟨g18, eg18⟩ : ∃ z99, z99 = vp_updL PT (8 * i + j) (lN w) := ⟨_, rfl⟩
                                rw [← eg18] at hP
                                obtain ⟨f17, ef17⟩ : ∃ z99, z99 = va_up f15 (ca 8) (some (aL G 320 g18)) := ⟨_, rfl⟩
                                replace hP : hH G (hA f s.heap.size) f17 H := by rw [ef17]; exact hP
                                have hv_f17 : mv G f17 y ca 0 (nI (bN b)) (nI (bRc b)) (nI (bHc b)) bc cp MK PL AB BE AS FP PC g16 g18 PU RA KC PK ST DC DY DS SU := by rw [ef17]; exact mv_8 hv_f15 _
                                refine lv_aload_n hx hb d_M_price_196 rfl (lv_at hl 1 rfl) ?_
                                refine g_get C i_M hP hv_f17.1 rfl 13 (by decide) wd_519 rfl rfl d_M_price_197 ?_
                                refine lv_iload hx hb d_M_price_200 (lv_at hl 0 rfl) ?_
                                refine lv_iload hx hb d_M_price_202 (lv_at hl 5 rfl) ?_
                                refine g_iastN C hP hS hv_f17.2.2.2.2.2.2.2.2.2.2.1 (j := (8 * i + j)) (by omega) (by decide) d_M_price_204 (fun H locs hP hS => ?_)
                                obtain ⟨g20, eg20⟩ : ∃ z99, z99 = upd PU (8 * i + j) (nI z) := ⟨_, rfl⟩
                                rw [← eg20] at hP
                                obtain ⟨f19, ef19⟩ : ∃ z99, z99 = va_up f17 (ca 9) (some (aI G 320 g20)) := ⟨_, rfl⟩
                                replace hP : hH G (hA f s.heap.size) f19 H := by rw [ef19]; exact hP
                                have hv_f19 : mv G f19 y ca 0 (nI (bN b)) (nI (bRc b)) (nI (bHc b)) bc cp MK PL AB BE AS FP PC g16 g18 g20 RA KC PK ST DC DY DS SU := by rw [ef19]; exact mv_9 hv_f17 _
                                refine lv_iconst (v := 1) hx hb d_M_price_205 (by decide) ?_
                                subst eg16 eg18 eg20
                                exact g_zret C (by first | exact Or.inl rfl | exact Or.inr rfl) hP hS (⟨0, bSet b i (dPr (bD b i) (pN1 (bD b i)) (pB1 (bD b i)) (va_up (pC1 (bD b i)) kk w) (va_up (pK1 (bD b i)) kk z)), bc, cp, ⟨MK, PL, AB, BE, AS, FP, PC, _, _, _, RA, KC, PK, ST, DC, DY, DS, SU, hv_f19, (mR_prc hR hi hNN (mRp_set hDi hpc hrow hcel hjn hkk ek1 x w z hfx) (fun k hk9 e9 => mRp_off (hR.2.2.2.1 k hk9) (bD_8 hok hR.1.2.2.2.2 k).1 (by omega) e9 _ _ _))⟩, Or.inl ⟨hI, hN, rfl, rfl, by rw [hr0, if_neg (fun z9 => q_n ⟨hck.1.symm.trans z9.1, hck.2.symm.trans z9.2⟩)]⟩⟩) (Nat.le_of_ble_eq_true rfl) (Nat.le_of_ble_eq_true rfl) d_M_price_206
                              · have q_k : K2 j = z := (nI_eq (by omega) (by omega)).mp c_152
                                refine lv_iconst (v := 0) hx hb d_M_price_155 (by decide) ?_
                                exact g_zret C (by first | exact Or.inl rfl | exact Or.inr rfl) hP hS (⟨0, bSet b i (dPr (bD b i) (pN1 (bD b i)) (pB1 (bD b i)) (va_up (pC1 (bD b i)) kk w) (va_up (pK1 (bD b i)) kk z)), bc, cp, ⟨MK, PL, AB, BE, AS, FP, PC, PF, PT, PU, RA, KC, PK, ST, DC, DY, DS, SU, hv_f34, (by rw [up_id (hck.1.trans q_c), up_id (hck.2.trans q_k)]; exact mR_prc hR hi hNN ⟨hpc, B2, C2, K2, hrow, hcel⟩ (fun k hk9 _ => hR.2.2.2.1 k hk9))⟩, Or.inl ⟨hI, hN, rfl, rfl, by rw [hr0, if_pos ⟨hck.1.trans q_c, hck.2.trans q_k⟩]⟩⟩) (Nat.le_of_ble_eq_true rfl) (Nat.le_of_ble_eq_true rfl) d_M_price_156
                        · have hnf : PF (8 * i + j) ≠ nI x := fun z9 => c_106 (by rw [← (hcel j hjn).1]; exact z9)
                          refine lv_iinc (v := nI (8 * i + (j + 1))) (lv' := [(7, .int (nI (8 * i + (j + 1)))), (0, .ref y), (1, .int (nI i)), (2, .int (nI x)), (3, .long (lN w)), (5, .int (nI z))]) hx hb d_M_price_109 hl (k := 0) rfl (nI_1 _) (by decide) rfl (fun ls hl => ?_)
                          refine lv_goto (tgt := 82) hx hb d_M_price_112 (by decide) ?_
                          exact ih (j + 1) ls (by omega) (by omega) (fun j2 h9 => by rcases Nat.lt_succ_iff_lt_or_eq.mp h9 with z9 | z9; exact hno j2 z9; rw [z9]; exact hnf) (lv_sub hl [0, 1, 2, 3, 4, 5] rfl)
                  exact loop 9 0 ls (by omega) (by omega) (fun _ z9 => absurd z9 (by omega)) (lv_sub hl [0, 2, 3, 4, 5, 6] rfl)
                · exact absurd c_71 (by decide)
            · refine lv_iconst (v := 1) hx hb d_M_price_50 (by decide) ?_
              refine lv_goto (tgt := 64) hx hb d_M_price_51 (by decide) ?_
              have hB : ¬ (I_price b p0 u0) := fun z9 => by first | exact bz_f hzP c_39 z9.1 | exact bz_f hzC c_47 z9.2
              refine g_put C i_M t_M t_M_ok n_M hP hS hv.1 rfl 0 (by decide) wd_506 rfl rfl rfl (rfl) (Nat.le_of_ble_eq_true rfl) d_M_price_64 (fun H locs hP hS => ?_)
              obtain ⟨f35, ef35⟩ : ∃ z99, z99 = va_up f y (some (ob 4 [.int 1, .int (nI (bN b)), .ref (ca 0), .ref (ca 1), .ref (ca 2), .ref (ca 3), .int (nI (bRc b)), .ref (ca 4), .int (nI (bHc b)), .ref (ca 5), .ref (ca 6), .ref (ca 7), .ref (ca 8), .ref (ca 9), .ref (ca 10), .ref (ca 11), .ref (ca 12), .ref (ca 13), .ref (ca 14), .ref (ca 15), .ref (ca 16), .ref (ca 17), .long bc, .int cp])) := ⟨_, rfl⟩
              replace hP : hH G (hA f s.heap.size) f35 H := by rw [ef35]; exact hP
              have hv_f35 : mv G f35 y ca 1 (nI (bN b)) (nI (bRc b)) (nI (bHc b)) bc cp MK PL AB BE AS FP PC PF PT PU RA KC PK ST DC DY DS SU := by rw [ef35]; exact mv_y hv _ _ _ _ _ _
              refine lv_aload_n hx hb d_M_price_67 rfl (lv_at hl 1 rfl) ?_
              refine g_get C i_M hP hv_f35.1 rfl 0 (by decide) wd_506 rfl rfl d_M_price_68 ?_
              refine lv_if_eq (tgt := 76) hx hb d_M_price_71 (by decide) (fun c_71 => ?_) (fun c_71 => ?_)
              · exact absurd c_71 (by decide)
              · refine lv_iconst (v := 0) hx hb d_M_price_74 (by decide) ?_
                exact g_zret C (by first | exact Or.inl rfl | exact Or.inr rfl) hP hS (⟨1, b, bc, cp, ⟨MK, PL, AB, BE, AS, FP, PC, PF, PT, PU, RA, KC, PK, ST, DC, DY, DS, SU, hv_f35, hR⟩, Or.inr (Or.inr ⟨hB, rfl, rfl⟩)⟩) (Nat.le_of_ble_eq_true rfl) (Nat.le_of_ble_eq_true rfl) d_M_price_75
set_option maxHeartbeats 4000000 in
set_option maxRecDepth 100000 in
theorem ct_M_life {l : Launch} {G : hG} (f : hm) (y : Nat) (ca : Nat → Nat) (b : BD) (hok : bOK b) (th : Int32) (bc : Int64) (cp : Int32) (hm : mS G f y ca b th bc cp) (p0 : Int32) (x : Int64) (s0 : Int32) (r0 : Int32) (b1 : BD) (hK0 : okx p0 (bN b) → N_life s0 → K_life b p0 x s0 r0 b1) : ci_ l G y_M_life w_M_life { frames := 2, cells := 0, slots := 0, locals := 120 } [.ref y, .int p0, .long x, .int s0] f (fun r u => ∃ th2 b2 bc2 cp2, mS G u y ca b2 th2 bc2 cp2 ∧ mp (okx p0 (bN b)) (N_life s0) b b1 (r = r0) th2 b2) := by
  intro sz
  refine h_ofW (cc := c_M_life) (maxL := 6) (ret := (some .boolean)) (by decide) rfl (Nat.le_of_ble_eq_true rfl) ?_
  intro p e s m below meth c ls C hin hsz hP hl
  obtain ⟨hx, hb, hml, hown, -, -, -, -⟩ := id C
  subst hsz
  have hA0 : ∀ q, s.heap.size ≤ q → hA f s.heap.size q := hA.new
  have hS : va_S (hA f s.heap.size) s.heap s.heap [] := va_S.rf
  replace hl : lv_has ls 6 [(0, .ref y), (1, .int p0), (2, .long x), (4, .int s0)] := hl
  obtain ⟨MK, PL, AB, BE, AS, FP, PC, PF, PT, PU, RA, KC, PK, ST, DC, DY, DS, SU, hv, hR⟩ := hm
  have hNN : bN b ≤ 40 := hok.1.1
  have hRC : bRc b ≤ 10 := hok.1.2.1
  have hHC : bHc b ≤ 40 := hok.1.2.2
  refine lv_aload_n hx hb d_M_life_0 rfl (lv_at hl 0 rfl) ?_
  refine lv_aload_n hx hb d_M_life_1 rfl (lv_at hl 0 rfl) ?_
  refine lv_iload_n hx hb d_M_life_2 rfl (lv_at hl 1 rfl) ?_
  refine g_calli (g_runV C hl.1 (ct_M_isPart f y ca b hok th bc cp ⟨MK, PL, AB, BE, AS, FP, PC, PF, PT, PU, RA, KC, PK, ST, DC, DY, DS, SU, hv, hR⟩ p0 _) (cx_V C 1 wd_605 wd_607 wp_14 wd_3 wd_608 rfl rfl (by decide +kernel) ⟨Nat.le_of_ble_eq_true rfl, Nat.le_of_ble_eq_true rfl⟩) hP hv.1 rfl rfl rfl (Nat.le_of_ble_eq_true rfl) d_M_life_3 ⟨Nat.le_of_ble_eq_true rfl, Nat.le_of_ble_eq_true rfl⟩) hP hS hA0 (fun r2 f1 H locs hq hP hS => ?_)
  obtain ⟨hzP, hu⟩ := hq
  rw [hu] at hP
  refine lv_if_ne (tgt := 13) hx hb d_M_life_6 (by decide) (fun c_6 => ?_) (fun c_6 => ?_)
  · refine lv_iload hx hb d_M_life_13 (lv_at hl 3 rfl) ?_
    refine lv_if_lt (tgt := 24) hx hb d_M_life_15 (by decide) (fun c_15 => ?_) (fun c_15 => ?_)
    · refine lv_iconst (v := 2) hx hb d_M_life_24 (by decide) ?_
      refine lv_goto (tgt := 29) hx hb d_M_life_25 (by decide) ?_
      have hI : okx p0 (bN b) := bz_t hzP c_6
      have hB : ¬ (N_life s0) := fun z9 => by first | exact Int32.not_lt.mpr z9.1 c_15 | exact c_21 z9.2
      refine g_put C i_M t_M t_M_ok n_M hP hS hv.1 rfl 0 (by decide) wd_506 rfl rfl rfl (rfl) (Nat.le_of_ble_eq_true rfl) d_M_life_29 (fun H locs hP hS => ?_)
      obtain ⟨f3, ef3⟩ : ∃ z99, z99 = va_up f y (some (ob 4 [.int 2, .int (nI (bN b)), .ref (ca 0), .ref (ca 1), .ref (ca 2), .ref (ca 3), .int (nI (bRc b)), .ref (ca 4), .int (nI (bHc b)), .ref (ca 5), .ref (ca 6), .ref (ca 7), .ref (ca 8), .ref (ca 9), .ref (ca 10), .ref (ca 11), .ref (ca 12), .ref (ca 13), .ref (ca 14), .ref (ca 15), .ref (ca 16), .ref (ca 17), .long bc, .int cp])) := ⟨_, rfl⟩
      replace hP : hH G (hA f s.heap.size) f3 H := by rw [ef3]; exact hP
      have hv_f3 : mv G f3 y ca 2 (nI (bN b)) (nI (bRc b)) (nI (bHc b)) bc cp MK PL AB BE AS FP PC PF PT PU RA KC PK ST DC DY DS SU := by rw [ef3]; exact mv_y hv _ _ _ _ _ _
      refine lv_aload_n hx hb d_M_life_32 rfl (lv_at hl 0 rfl) ?_
      refine g_get C i_M hP hv_f3.1 rfl 0 (by decide) wd_506 rfl rfl d_M_life_33 ?_
      refine lv_if_eq (tgt := 41) hx hb d_M_life_36 (by decide) (fun c_36 => ?_) (fun c_36 => ?_)
      · exact absurd c_36 (by decide)
      · refine lv_iconst (v := 0) hx hb d_M_life_39 (by decide) ?_
        exact g_zret C (by first | exact Or.inl rfl | exact Or.inr rfl) hP hS (⟨2, b, bc, cp, ⟨MK, PL, AB, BE, AS, FP, PC, PF, PT, PU, RA, KC, PK, ST, DC, DY, DS, SU, hv_f3, hR⟩, Or.inr (Or.inl ⟨hI, hB, rfl, rfl⟩)⟩) (Nat.le_of_ble_eq_true rfl) (Nat.le_of_ble_eq_true rfl) d_M_life_40
    · refine lv_iload hx hb d_M_life_18 (lv_at hl 3 rfl) ?_
      refine lv_iconst (v := 3) hx hb d_M_life_20 (by decide) ?_
      refine lv_icmp_le (tgt := 28) hx hb d_M_life_21 (by decide) (fun c_21 => ?_) (fun c_21 => ?_)
      · refine lv_iconst (v := 0) hx hb d_M_life_28 (by decide) ?_
        have hI : okx p0 (bN b) := bz_t hzP c_6
        have hN : N_life s0 := ⟨Int32.not_lt.mp c_15, c_21⟩
        obtain ⟨i, z, D1, hi, rfl, hz9, rfl, hT, rfl⟩ := hK0 hI hN
        have hDi := hok.2.1 i hi
        obtain ⟨hpc, K2, hrow, hcel⟩ := hR.2.2.2.2.2 i (by omega)
        have h8 := hDi.1.2.2.2.1
        refine g_put C i_M t_M t_M_ok n_M hP hS hv.1 rfl 0 (by decide) wd_506 rfl rfl rfl (rfl) (Nat.le_of_ble_eq_true rfl) d_M_life_29 (fun H locs hP hS => ?_)
        obtain ⟨f4, ef4⟩ : ∃ z99, z99 = va_up f y (some (ob 4 [.int 0, .int (nI (bN b)), .ref (ca 0), .ref (ca 1), .ref (ca 2), .ref (ca 3), .int (nI (bRc b)), .ref (ca 4), .int (nI (bHc b)), .ref (ca 5), .ref (ca 6), .ref (ca 7), .ref (ca 8), .ref (ca 9), .ref (ca 10), .ref (ca 11), .ref (ca 12), .ref (ca 13), .ref (ca 14), .ref (ca 15), .ref (ca 16), .ref (ca 17), .long bc, .int cp])) := ⟨_, rfl⟩
        replace hP : hH G (hA f s.heap.size) f4 H := by rw [ef4]; exact hP
        have hv_f4 : mv G f4 y ca 0 (nI (bN b)) (nI (bRc b)) (nI (bHc b)) bc cp MK PL AB BE AS FP PC PF PT PU RA KC PK ST DC DY DS SU := by rw [ef4]; exact mv_y hv _ _ _ _ _ _
        refine lv_aload_n hx hb d_M_life_32 rfl (lv_at hl 0 rfl) ?_
        refine g_get C i_M hP hv_f4.1 rfl 0 (by decide) wd_506 rfl rfl d_M_life_33 ?_
        refine lv_if_eq (tgt := 41) hx hb d_M_life_36 (by decide) (fun c_36 => ?_) (fun c_36 => ?_)
        · refine lv_bipush (v := 8) hx hb d_M_life_41 (by decide) ?_
          refine lv_iload_n hx hb d_M_life_43 rfl (lv_at hl 1 rfl) ?_
          refine lv_imul hx hb d_M_life_44 ?_
          refine g_eqi (y := nI (8 * i + 0)) (pk_mul _ _) ?_
          refine lv_istore (lv' := [(5, .int (nI (8 * i + 0))), (0, .ref y), (1, .int (nI i)), (2, .long x), (4, .int (nI z))]) hx hb d_M_life_45 hl (by decide) rfl (fun ls hl => ?_)
          have loop : ∀ (d j : Nat) (ls : Array Slot), pN2 (bD b i) < j + d → j ≤ pN2 (bD b i) → (∀ j2, j2 < j → DY (8 * i + j2) ≠ x) → lv_has ls 6 [(5, .int (nI (8 * i + j))), (0, .ref y), (1, .int (nI i)), (2, .long x), (4, .int (nI z))] → W p l e { frames := 2, cells := 0, slots := 0, locals := 120 } s m #[.ref y, .int (nI i), .long x, .int (nI z)] below meth c H locs 0 0 (MQ below (va_Qi (fun r u => ∃ th2 b2 bc2 cp2, mS G u y ca b2 th2 bc2 cp2 ∧ mp (okx (nI i) (bN b)) (N_life (nI z)) b (bSet b i D1) (r = r0) th2 b2) (hB G (hA f s.heap.size)) (hA f s.heap.size)) #[.ref y, .int (nI i), .long x, .int (nI z)] s 0 0 (hA f s.heap.size)) (F0 m 47 ls []) := by
            intro d
            induction d with
            | zero => intro j ls h1 h2; exact absurd h1 (by omega)
            | succ d ih =>
              intro j ls h1 h2 hno hl
              refine lv_iload hx hb d_M_life_47 (lv_at hl 0 rfl) ?_
              refine lv_bipush (v := 8) hx hb d_M_life_49 (by decide) ?_
              refine lv_iload_n hx hb d_M_life_51 rfl (lv_at hl 2 rfl) ?_
              refine lv_imul hx hb d_M_life_52 ?_
              refine g_eqi (y := nI (8 * i)) (pk_mul _ _) ?_
              refine lv_aload_n hx hb d_M_life_53 rfl (lv_at hl 1 rfl) ?_
              refine g_get C i_M hP hv_f4.1 rfl 18 (by decide) wd_524 rfl rfl d_M_life_54 ?_
              refine lv_iload_n hx hb d_M_life_57 rfl (lv_at hl 2 rfl) ?_
              refine g_ialdN C hP hv_f4.2.2.2.2.2.2.2.2.2.2.2.2.2.2.2.1 (j := i) (by omega) (by decide) d_M_life_58 ?_
              refine g_eqi (y := nI (pN2 (bD b i))) (hpc) ?_
              refine lv_iadd hx hb d_M_life_59 ?_
              refine g_eqi (y := nI (8 * i + pN2 (bD b i))) (nI_add _ _) ?_
              refine lv_icmp_ge (tgt := 81) hx hb d_M_life_60 (by decide) (fun c_60 => ?_) (fun c_60 => ?_)
              · have hjn : j = pN2 (bD b i) := by have := (nI_leI (by omega) (by omega)).mp c_60; omega
                subst hjn
                have hnk : ∀ k, k < pN2 (bD b i) → pB2 (bD b i) k ≠ x := fun k h9 z9 => by
                  obtain ⟨j2, h7, h8, -⟩ := hrow.2.1 k h9
                  exact hno j2 h7 (h8.trans z9)
                refine lv_iload hx hb d_M_life_81 (lv_at hl 0 rfl) ?_
                refine lv_bipush (v := 8) hx hb d_M_life_83 (by decide) ?_
                refine lv_iload_n hx hb d_M_life_85 rfl (lv_at hl 2 rfl) ?_
                refine lv_imul hx hb d_M_life_86 ?_
                refine g_eqi (y := nI (8 * i)) (pk_mul _ _) ?_
                refine lv_aload_n hx hb d_M_life_87 rfl (lv_at hl 1 rfl) ?_
                refine g_get C i_M hP hv_f4.1 rfl 18 (by decide) wd_524 rfl rfl d_M_life_88 ?_
                refine lv_iload_n hx hb d_M_life_91 rfl (lv_at hl 2 rfl) ?_
                refine g_ialdN C hP hv_f4.2.2.2.2.2.2.2.2.2.2.2.2.2.2.2.1 (j := i) (by omega) (by decide) d_M_life_92 ?_
                refine g_eqi (y := nI (pN2 (bD b i))) (hpc) ?_
                refine lv_iadd hx hb d_M_life_93 ?_
                refine g_eqi (y := nI (8 * i + pN2 (bD b i))) (nI_add _ _) ?_
                refine lv_icmp_ge (tgt := 111) hx hb d_M_life_94 (by decide) (fun c_94 => ?_) (fun c_94 => ?_)
                · refine lv_aload_n hx hb d_M_life_111 rfl (lv_at hl 1 rfl) ?_
                  refine g_get C i_M hP hv_f4.1 rfl 18 (by decide) wd_524 rfl rfl d_M_life_112 ?_
                  refine lv_iload_n hx hb d_M_life_115 rfl (lv_at hl 2 rfl) ?_
                  refine g_ialdN C hP hv_f4.2.2.2.2.2.2.2.2.2.2.2.2.2.2.2.1 (j := i) (by omega) (by decide) d_M_life_116 ?_
                  refine g_eqi (y := nI (pN2 (bD b i))) (hpc) ?_
                  refine lv_bipush (v := 8) hx hb d_M_life_117 (by decide) ?_
                  refine lv_icmp_ne (tgt := 124) hx hb d_M_life_119 (by decide) (fun c_119 => ?_) (fun c_119 => ?_)
                  · have q_8 : pN2 (bD b i) < 8 := by have : pN2 (bD b i) ≠ 8 := fun z9 => c_119 (by rw [z9]; rfl); omega
                    obtain ⟨-, hr0, k9, hk9a, rfl⟩ := (telD_new hT hnk).resolve_left (fun z9 => by omega)
                    refine lv_aload_n hx hb d_M_life_124 rfl (lv_at hl 1 rfl) ?_
                    refine g_get C i_M hP hv_f4.1 rfl 18 (by decide) wd_524 rfl rfl d_M_life_125 ?_
                    refine lv_iload_n hx hb d_M_life_128 rfl (lv_at hl 2 rfl) ?_
                    refine lv_dup2_11 hx hb d_M_life_129 rfl rfl ?_
                    refine g_ialdN C hP hv_f4.2.2.2.2.2.2.2.2.2.2.2.2.2.2.2.1 (j := i) (by omega) (by decide) d_M_life_130 ?_
                    refine g_eqi (y := nI (pN2 (bD b i))) (hpc) ?_
                    refine lv_iconst (v := 1) hx hb d_M_life_131 (by decide) ?_
                    refine lv_iadd hx hb d_M_life_132 ?_
                    refine g_eqi (y := nI (pN2 (bD b i) + 1)) (nI_1 _) ?_
                    refine g_iastN C hP hS hv_f4.2.2.2.2.2.2.2.2.2.2.2.2.2.2.2.1 (j := i) (by omega) (by decide) d_M_life_133 (fun H locs hP hS => ?_)
                    obtain ⟨g2, eg2⟩ : ∃ z99, z99 = upd DC i (nI (pN2 (bD b i) + 1)) := ⟨_, rfl⟩
                    rw [← eg2] at hP
                    obtain ⟨f1, ef1⟩ : ∃ z99, z99 = va_up f4 (ca 14) (some (aI G 40 g2)) := ⟨_, rfl⟩
                    replace hP : hH G (hA f s.heap.size) f1 H := by rw [ef1]; exact hP
                    have hv_f1 : mv G f1 y ca 0 (nI (bN b)) (nI (bRc b)) (nI (bHc b)) bc cp MK PL AB BE AS FP PC PF PT PU RA KC PK ST g2 DY DS SU := by rw [ef1]; exact mv_14 hv_f4 _
                    refine lv_aload_n hx hb d_M_life_134 rfl (lv_at hl 1 rfl) ?_
                    refine g_get C i_M hP hv_f1.1 rfl 19 (by decide) wd_525 rfl rfl d_M_life_135 ?_
                    refine lv_iload hx hb d_M_life_138 (lv_at hl 0 rfl) ?_
                    refine lv_lload_n hx hb d_M_life_140 rfl (lv_at hl 3 rfl) ?_
                    refine g_lastN C hP hS hv_f1.2.2.2.2.2.2.2.2.2.2.2.2.2.2.2.2.1 (j := (8 * i + pN2 (bD b i))) (by omega) (by decide) d_M_life_141 (fun H locs hP hS => ?_)
                    obtain ⟨g4, eg4⟩ : ∃ z99, z99 = vp_updL DY (8 * i + pN2 (bD b i)) x := ⟨_, rfl⟩
                    rw [← eg4] at hP
                    obtain ⟨f3, ef3⟩ : ∃ z99, z99 = va_up f1 (ca 15) (some (aL G 320 g4)) := ⟨_, rfl⟩
                    replace hP : hH G (hA f s.heap.size) f3 H := by rw [ef3]; exact hP
                    have hv_f3 : mv G f3 y ca 0 (nI (bN b)) (nI (bRc b)) (nI (bHc b)) bc cp MK PL AB BE AS FP PC PF PT PU RA KC PK ST g2 g4 DS SU := by rw [ef3]; exact mv_15 hv_f1 _
                    refine lv_aload_n hx hb d_M_life_142 rfl (lv_at hl 1 rfl) ?_
                    refine g_get C i_M hP hv_f3.1 rfl 20 (by decide) wd_526 rfl rfl d_M_life_143 ?_
                    refine lv_iload hx hb d_M_life_146 (lv_at hl 0 rfl) ?_
                    refine lv_iload hx hb d_M_life_148 (lv_at hl 4 rfl) ?_
                    refine g_iastN C hP hS hv_f3.2.2.2.2.2.2.2.2.2.2.2.2.2.2.2.2.2.1 (j := (8 * i + pN2 (bD b i))) (by omega) (by decide) d_M_life_150 (fun H locs hP hS => ?_)
                    obtain ⟨g6, eg6⟩ : ∃ z99, z99 = upd DS (8 * i + pN2 (bD b i)) (nI z) := ⟨_, rfl⟩
                    rw [← eg6] at hP
                    obtain ⟨f5, ef5⟩ : ∃ z99, z99 = va_up f3 (ca 16) (some (aI G 320 g6)) := ⟨_, rfl⟩
                    replace hP : hH G (hA f s.heap.size) f5 H := by rw [ef5]; exact hP
                    have hv_f5 : mv G f5 y ca 0 (nI (bN b)) (nI (bRc b)) (nI (bHc b)) bc cp MK PL AB BE AS FP PC PF PT PU RA KC PK ST g2 g4 g6 SU := by rw [ef5]; exact mv_16 hv_f3 _
                    refine lv_iconst (v := 1) hx hb d_M_life_151 (by decide) ?_
                    subst eg2 eg4 eg6
                    exact g_zret C (by first | exact Or.inl rfl | exact Or.inr rfl) hP hS (⟨0, bSet b i (dDy (bD b i) (pN2 (bD b i) + 1) (ins (pB2 (bD b i)) k9 (pN2 (bD b i)) x) (ins (pK2 (bD b i)) k9 (pN2 (bD b i)) z)), bc, cp, ⟨MK, PL, AB, BE, AS, FP, PC, PF, PT, PU, RA, KC, PK, ST, _, _, _, SU, hv_f5, (mR_dyc hR hi hNN (mRd_new hrow hcel hk9a x z hno) (fun k hk9 e9 => mRd_dc (mRd_off (hR.2.2.2.2.2 k hk9) (bD_8 hok hR.1.2.2.2.2 k).2.1 (by omega) e9 _ _) e9 _))⟩, Or.inl ⟨hI, hN, rfl, rfl, hr0.symm⟩⟩) (Nat.le_of_ble_eq_true rfl) (Nat.le_of_ble_eq_true rfl) d_M_life_152
                  · have q_8 : pN2 (bD b i) = 8 := (nI_eq (b := 8) (by omega) (by decide)).mp c_119
                    obtain ⟨-, hr0, eD⟩ := (telD_new hT hnk).resolve_right (fun z9 => by omega)
                    refine lv_iconst (v := 0) hx hb d_M_life_122 (by decide) ?_
                    subst eD
                    exact g_zret C (by first | exact Or.inl rfl | exact Or.inr rfl) hP hS (⟨0, bSet b i (bD b i), bc, cp, ⟨MK, PL, AB, BE, AS, FP, PC, PF, PT, PU, RA, KC, PK, ST, DC, DY, DS, SU, hv_f4, (by rw [show bSet b i (bD b i) = b from by show (_, _, _, va_up (bD b) i (bD b i), _) = _; rw [up_id rfl]]; exact hR)⟩, Or.inl ⟨hI, hN, rfl, rfl, hr0.symm⟩⟩) (Nat.le_of_ble_eq_true rfl) (Nat.le_of_ble_eq_true rfl) d_M_life_123
                · exact absurd (Int32.le_refl _) c_94
              · have hjn : j < pN2 (bD b i) := Nat.lt_of_not_le (fun z9 => c_60 ((nI_leI (by omega) (by omega)).mpr (by omega)))
                refine lv_aload_n hx hb d_M_life_63 rfl (lv_at hl 1 rfl) ?_
                refine g_get C i_M hP hv_f4.1 rfl 19 (by decide) wd_525 rfl rfl d_M_life_64 ?_
                refine lv_iload hx hb d_M_life_67 (lv_at hl 0 rfl) ?_
                refine g_laldN C hP hv_f4.2.2.2.2.2.2.2.2.2.2.2.2.2.2.2.2.1 (j := (8 * i + j)) (by omega) (by decide) d_M_life_69 ?_
                refine lv_lload_n hx hb d_M_life_70 rfl (lv_at hl 3 rfl) ?_
                refine W.lcmp hx hb d_M_life_71 ?_
                refine lv_if_eq (tgt := 81) hx hb d_M_life_72 (by decide) (fun c_72 => ?_) (fun c_72 => ?_)
                · have c_72 := (lg_cmp_eq _ _).mp c_72
                  have hfx : DY (8 * i + j) = x := c_72
                  refine lv_iload hx hb d_M_life_81 (lv_at hl 0 rfl) ?_
                  refine lv_bipush (v := 8) hx hb d_M_life_83 (by decide) ?_
                  refine lv_iload_n hx hb d_M_life_85 rfl (lv_at hl 2 rfl) ?_
                  refine lv_imul hx hb d_M_life_86 ?_
                  refine g_eqi (y := nI (8 * i)) (pk_mul _ _) ?_
                  refine lv_aload_n hx hb d_M_life_87 rfl (lv_at hl 1 rfl) ?_
                  refine g_get C i_M hP hv_f4.1 rfl 18 (by decide) wd_524 rfl rfl d_M_life_88 ?_
                  refine lv_iload_n hx hb d_M_life_91 rfl (lv_at hl 2 rfl) ?_
                  refine g_ialdN C hP hv_f4.2.2.2.2.2.2.2.2.2.2.2.2.2.2.2.1 (j := i) (by omega) (by decide) d_M_life_92 ?_
                  refine g_eqi (y := nI (pN2 (bD b i))) (hpc) ?_
                  refine lv_iadd hx hb d_M_life_93 ?_
                  refine g_eqi (y := nI (8 * i + pN2 (bD b i))) (nI_add _ _) ?_
                  refine lv_icmp_ge (tgt := 111) hx hb d_M_life_94 (by decide) (fun c_94 => ?_) (fun c_94 => ?_)
                  · exact absurd ((nI_leI (by omega) (by omega)).mp c_94) (by omega)
                  · have hj2 := hjn
                    obtain ⟨kk, hkk, ek1, ek2⟩ := hrow.1 j hjn
                    obtain ⟨hr0, rfl⟩ := telD_found hT hDi hkk (ek1.symm.trans hfx)
                    have hlK := hDi.2.2.2.2.1 kk hkk
                    refine lv_aload_n hx hb d_M_life_97 rfl (lv_at hl 1 rfl) ?_
                    refine g_get C i_M hP hv_f4.1 rfl 20 (by decide) wd_526 rfl rfl d_M_life_98 ?_
                    refine lv_iload hx hb d_M_life_101 (lv_at hl 0 rfl) ?_
                    refine g_ialdN C hP hv_f4.2.2.2.2.2.2.2.2.2.2.2.2.2.2.2.2.2.1 (j := (8 * i + j)) (by omega) (by decide) d_M_life_103 ?_
                    refine g_eqi (y := nI (K2 j)) (hcel j hj2) ?_
                    refine lv_iload hx hb d_M_life_104 (lv_at hl 4 rfl) ?_
                    refine lv_icmp_ne (tgt := 134) hx hb d_M_life_106 (by decide) (fun c_106 => ?_) (fun c_106 => ?_)
                    · have q_n : ¬ K2 j = z := fun z9 => c_106 (by rw [z9])
                      refine lv_aload_n hx hb d_M_life_134 rfl (lv_at hl 1 rfl) ?_
                      refine g_get C i_M hP hv_f4.1 rfl 19 (by decide) wd_525 rfl rfl d_M_life_135 ?_
                      refine lv_iload hx hb d_M_life_138 (lv_at hl 0 rfl) ?_
                      refine lv_lload_n hx hb d_M_life_140 rfl (lv_at hl 3 rfl) ?_
                      refine g_lastN C hP hS hv_f4.2.2.2.2.2.2.2.2.2.2.2.2.2.2.2.2.1 (j := (8 * i + j)) (by omega) (by decide) d_M_life_141 (fun H locs hP hS => ?_)
                      obtain ⟨g8, eg8⟩ : ∃ z99, z99 = vp_updL DY (8 * i + j) x := ⟨_, rfl⟩
                      rw [← eg8] at hP
                      obtain ⟨f7, ef7⟩ : ∃ z99, z99 = va_up f4 (ca 15) (some (aL G 320 g8)) := ⟨_, rfl⟩
                      replace hP : hH G (hA f s.heap.size) f7 H := by rw [ef7]; exact hP
                      have hv_f7 : mv G f7 y ca 0 (nI (bN b)) (nI (bRc b)) (nI (bHc b)) bc cp MK PL AB BE AS FP PC PF PT PU RA KC PK ST DC g8 DS SU := by rw [ef7]; exact mv_15 hv_f4 _
                      refine lv_aload_n hx hb d_M_life_142 rfl (lv_at hl 1 rfl) ?_
                      refine g_get C i_M hP hv_f7.1 rfl 20 (by decide) wd_526 rfl rfl d_M_life_143 ?_
                      refine lv_iload hx hb d_M_life_146 (lv_at hl 0 rfl) ?_
                      refine lv_iload hx hb d_M_life_148 (lv_at hl 4 rfl) ?_
                      refine g_iastN C hP hS hv_f7.2.2.2.2.2.2.2.2.2.2.2.2.2.2.2.2.2.1 (j := (8 * i + j)) (by omega) (by decide) d_M_life_150 (fun H locs hP hS => ?_)
                      obtain ⟨g10, eg10⟩ : ∃ z99, z99 = upd DS (8 * i + j) (nI z) := ⟨_, rfl⟩
                      rw [← eg10] at hP
                      obtain ⟨f9, ef9⟩ : ∃ z99, z99 = va_up f7 (ca 16) (some (aI G 320 g10)) := ⟨_, rfl⟩
                      replace hP : hH G (hA f s.heap.size) f9 H := by rw [ef9]; exact hP
                      have hv_f9 : mv G f9 y ca 0 (nI (bN b)) (nI (bRc b)) (nI (bHc b)) bc cp MK PL AB BE AS FP PC PF PT PU RA KC PK ST DC g8 g10 SU := by rw [ef9]; exact mv_16 hv_f7 _
                      refine lv_iconst (v := 1) hx hb d_M_life_151 (by decide) ?_
                      subst eg8 eg10
                      exact g_zret C (by first | exact Or.inl rfl | exact Or.inr rfl) hP hS (⟨0, bSet b i (dDy (bD b i) (pN2 (bD b i)) (pB2 (bD b i)) (va_up (pK2 (bD b i)) kk z)), bc, cp, ⟨MK, PL, AB, BE, AS, FP, PC, PF, PT, PU, RA, KC, PK, ST, DC, _, _, SU, hv_f9, (mR_dyc hR hi hNN (mRd_set hDi hpc hrow hcel hjn hkk ek1 x z hfx) (fun k hk9 e9 => mRd_off (hR.2.2.2.2.2 k hk9) (bD_8 hok hR.1.2.2.2.2 k).2.1 (by omega) e9 _ _))⟩, Or.inl ⟨hI, hN, rfl, rfl, by rw [hr0, if_neg (fun z9 => q_n (ek2.trans z9))]⟩⟩) (Nat.le_of_ble_eq_true rfl) (Nat.le_of_ble_eq_true rfl) d_M_life_152
                    · have q_k : K2 j = z := (nI_eq (by omega) (by omega)).mp c_106
                      refine lv_iconst (v := 0) hx hb d_M_life_109 (by decide) ?_
                      exact g_zret C (by first | exact Or.inl rfl | exact Or.inr rfl) hP hS (⟨0, bSet b i (dDy (bD b i) (pN2 (bD b i)) (pB2 (bD b i)) (va_up (pK2 (bD b i)) kk z)), bc, cp, ⟨MK, PL, AB, BE, AS, FP, PC, PF, PT, PU, RA, KC, PK, ST, DC, DY, DS, SU, hv_f4, (by rw [up_id (ek2.symm.trans q_k)]; exact mR_dyc hR hi hNN ⟨hpc, K2, hrow, hcel⟩ (fun k hk9 _ => hR.2.2.2.2.2 k hk9))⟩, Or.inl ⟨hI, hN, rfl, rfl, by rw [hr0, if_pos (ek2.symm.trans q_k)]⟩⟩) (Nat.le_of_ble_eq_true rfl) (Nat.le_of_ble_eq_true rfl) d_M_life_110
                · have c_72 := fun z => c_72 ((lg_cmp_eq _ _).mpr z)
                  have hnf : DY (8 * i + j) ≠ x := c_72
                  refine lv_iinc (v := nI (8 * i + (j + 1))) (lv' := [(5, .int (nI (8 * i + (j + 1)))), (0, .ref y), (1, .int (nI i)), (2, .long x), (4, .int (nI z))]) hx hb d_M_life_75 hl (k := 0) rfl (nI_1 _) (by decide) rfl (fun ls hl => ?_)
                  refine lv_goto (tgt := 47) hx hb d_M_life_78 (by decide) ?_
                  exact ih (j + 1) ls (by omega) (by omega) (fun j2 h9 => by rcases Nat.lt_succ_iff_lt_or_eq.mp h9 with z9 | z9; exact hno j2 z9; rw [z9]; exact hnf) (lv_sub hl [0, 1, 2, 3, 4] rfl)
          exact loop 9 0 ls (by omega) (by omega) (fun _ z9 => absurd z9 (by omega)) (lv_sub hl [0, 1, 2, 3, 4] rfl)
        · exact absurd c_36 (by decide)
      · refine lv_iconst (v := 2) hx hb d_M_life_24 (by decide) ?_
        refine lv_goto (tgt := 29) hx hb d_M_life_25 (by decide) ?_
        have hI : okx p0 (bN b) := bz_t hzP c_6
        have hB : ¬ (N_life s0) := fun z9 => by first | exact Int32.not_lt.mpr z9.1 c_15 | exact c_21 z9.2
        refine g_put C i_M t_M t_M_ok n_M hP hS hv.1 rfl 0 (by decide) wd_506 rfl rfl rfl (rfl) (Nat.le_of_ble_eq_true rfl) d_M_life_29 (fun H locs hP hS => ?_)
        obtain ⟨f5, ef5⟩ : ∃ z99, z99 = va_up f y (some (ob 4 [.int 2, .int (nI (bN b)), .ref (ca 0), .ref (ca 1), .ref (ca 2), .ref (ca 3), .int (nI (bRc b)), .ref (ca 4), .int (nI (bHc b)), .ref (ca 5), .ref (ca 6), .ref (ca 7), .ref (ca 8), .ref (ca 9), .ref (ca 10), .ref (ca 11), .ref (ca 12), .ref (ca 13), .ref (ca 14), .ref (ca 15), .ref (ca 16), .ref (ca 17), .long bc, .int cp])) := ⟨_, rfl⟩
        replace hP : hH G (hA f s.heap.size) f5 H := by rw [ef5]; exact hP
        have hv_f5 : mv G f5 y ca 2 (nI (bN b)) (nI (bRc b)) (nI (bHc b)) bc cp MK PL AB BE AS FP PC PF PT PU RA KC PK ST DC DY DS SU := by rw [ef5]; exact mv_y hv _ _ _ _ _ _
        refine lv_aload_n hx hb d_M_life_32 rfl (lv_at hl 0 rfl) ?_
        refine g_get C i_M hP hv_f5.1 rfl 0 (by decide) wd_506 rfl rfl d_M_life_33 ?_
        refine lv_if_eq (tgt := 41) hx hb d_M_life_36 (by decide) (fun c_36 => ?_) (fun c_36 => ?_)
        · exact absurd c_36 (by decide)
        · refine lv_iconst (v := 0) hx hb d_M_life_39 (by decide) ?_
          exact g_zret C (by first | exact Or.inl rfl | exact Or.inr rfl) hP hS (⟨2, b, bc, cp, ⟨MK, PL, AB, BE, AS, FP, PC, PF, PT, PU, RA, KC, PK, ST, DC, DY, DS, SU, hv_f5, hR⟩, Or.inr (Or.inl ⟨hI, hB, rfl, rfl⟩)⟩) (Nat.le_of_ble_eq_true rfl) (Nat.le_of_ble_eq_true rfl) d_M_life_40
  · refine lv_iconst (v := 1) hx hb d_M_life_9 (by decide) ?_
    refine lv_goto (tgt := 29) hx hb d_M_life_10 (by decide) ?_
    have hB : ¬ (okx p0 (bN b)) := fun z9 => bz_f hzP c_6 z9
    refine g_put C i_M t_M t_M_ok n_M hP hS hv.1 rfl 0 (by decide) wd_506 rfl rfl rfl (rfl) (Nat.le_of_ble_eq_true rfl) d_M_life_29 (fun H locs hP hS => ?_)
    obtain ⟨f6, ef6⟩ : ∃ z99, z99 = va_up f y (some (ob 4 [.int 1, .int (nI (bN b)), .ref (ca 0), .ref (ca 1), .ref (ca 2), .ref (ca 3), .int (nI (bRc b)), .ref (ca 4), .int (nI (bHc b)), .ref (ca 5), .ref (ca 6), .ref (ca 7), .ref (ca 8), .ref (ca 9), .ref (ca 10), .ref (ca 11), .ref (ca 12), .ref (ca 13), .ref (ca 14), .ref (ca 15), .ref (ca 16), .ref (ca 17), .long bc, .int cp])) := ⟨_, rfl⟩
    replace hP : hH G (hA f s.heap.size) f6 H := by rw [ef6]; exact hP
    have hv_f6 : mv G f6 y ca 1 (nI (bN b)) (nI (bRc b)) (nI (bHc b)) bc cp MK PL AB BE AS FP PC PF PT PU RA KC PK ST DC DY DS SU := by rw [ef6]; exact mv_y hv _ _ _ _ _ _
    refine lv_aload_n hx hb d_M_life_32 rfl (lv_at hl 0 rfl) ?_
    refine g_get C i_M hP hv_f6.1 rfl 0 (by decide) wd_506 rfl rfl d_M_life_33 ?_
    refine lv_if_eq (tgt := 41) hx hb d_M_life_36 (by decide) (fun c_36 => ?_) (fun c_36 => ?_)
    · exact absurd c_36 (by decide)
    · refine lv_iconst (v := 0) hx hb d_M_life_39 (by decide) ?_
      exact g_zret C (by first | exact Or.inl rfl | exact Or.inr rfl) hP hS (⟨1, b, bc, cp, ⟨MK, PL, AB, BE, AS, FP, PC, PF, PT, PU, RA, KC, PK, ST, DC, DY, DS, SU, hv_f6, hR⟩, Or.inr (Or.inr ⟨hB, rfl, rfl⟩)⟩) (Nat.le_of_ble_eq_true rfl) (Nat.le_of_ble_eq_true rfl) d_M_life_40
set_option maxHeartbeats 4000000 in
set_option maxRecDepth 100000 in
theorem ct_M_pack {l : Launch} {G : hG} (f : hm) (y : Nat) (ca : Nat → Nat) (b : BD) (hok : bOK b) (th : Int32) (bc : Int64) (cp : Int32) (hm : mS G f y ca b th bc cp) (p0 : Int32) (s0 : Int32) (r0 : Int32) (b1 : BD) (hK0 : okx p0 (bN b) → N_pack s0 → K_pack b p0 s0 r0 b1) : ci_ l G y_M_pack w_M_pack { frames := 2, cells := 0, slots := 0, locals := 120 } [.ref y, .int p0, .int s0] f (fun r u => ∃ th2 b2 bc2 cp2, mS G u y ca b2 th2 bc2 cp2 ∧ mp (okx p0 (bN b)) (N_pack s0) b b1 (r = r0) th2 b2) := by
  intro sz
  refine h_ofW (cc := c_M_pack) (maxL := 4) (ret := (some .boolean)) (by decide) rfl (Nat.le_of_ble_eq_true rfl) ?_
  intro p e s m below meth c ls C hin hsz hP hl
  obtain ⟨hx, hb, hml, hown, -, -, -, -⟩ := id C
  subst hsz
  have hA0 : ∀ q, s.heap.size ≤ q → hA f s.heap.size q := hA.new
  have hS : va_S (hA f s.heap.size) s.heap s.heap [] := va_S.rf
  replace hl : lv_has ls 4 [(0, .ref y), (1, .int p0), (2, .int s0)] := hl
  obtain ⟨MK, PL, AB, BE, AS, FP, PC, PF, PT, PU, RA, KC, PK, ST, DC, DY, DS, SU, hv, hR⟩ := hm
  have hNN : bN b ≤ 40 := hok.1.1
  have hRC : bRc b ≤ 10 := hok.1.2.1
  have hHC : bHc b ≤ 40 := hok.1.2.2
  refine lv_aload_n hx hb d_M_pack_0 rfl (lv_at hl 0 rfl) ?_
  refine lv_aload_n hx hb d_M_pack_1 rfl (lv_at hl 0 rfl) ?_
  refine lv_iload_n hx hb d_M_pack_2 rfl (lv_at hl 1 rfl) ?_
  refine g_calli (g_runV C hl.1 (ct_M_isPart f y ca b hok th bc cp ⟨MK, PL, AB, BE, AS, FP, PC, PF, PT, PU, RA, KC, PK, ST, DC, DY, DS, SU, hv, hR⟩ p0 _) (cx_V C 1 wd_605 wd_607 wp_14 wd_3 wd_608 rfl rfl (by decide +kernel) ⟨Nat.le_of_ble_eq_true rfl, Nat.le_of_ble_eq_true rfl⟩) hP hv.1 rfl rfl rfl (Nat.le_of_ble_eq_true rfl) d_M_pack_3 ⟨Nat.le_of_ble_eq_true rfl, Nat.le_of_ble_eq_true rfl⟩) hP hS hA0 (fun r2 f1 H locs hq hP hS => ?_)
  obtain ⟨hzP, hu⟩ := hq
  rw [hu] at hP
  refine lv_if_ne (tgt := 13) hx hb d_M_pack_6 (by decide) (fun c_6 => ?_) (fun c_6 => ?_)
  · refine lv_iload_n hx hb d_M_pack_13 rfl (lv_at hl 2 rfl) ?_
    refine lv_iconst (v := 1) hx hb d_M_pack_14 (by decide) ?_
    refine lv_icmp_lt (tgt := 25) hx hb d_M_pack_15 (by decide) (fun c_15 => ?_) (fun c_15 => ?_)
    · refine lv_iconst (v := 2) hx hb d_M_pack_25 (by decide) ?_
      refine lv_goto (tgt := 30) hx hb d_M_pack_26 (by decide) ?_
      have hI : okx p0 (bN b) := bz_t hzP c_6
      have hB : ¬ (N_pack s0) := fun z9 => by first | exact Int32.not_lt.mpr z9.1 c_15 | exact c_22 z9.2
      refine g_put C i_M t_M t_M_ok n_M hP hS hv.1 rfl 0 (by decide) wd_506 rfl rfl rfl (rfl) (Nat.le_of_ble_eq_true rfl) d_M_pack_30 (fun H locs hP hS => ?_)
      obtain ⟨f3, ef3⟩ : ∃ z99, z99 = va_up f y (some (ob 4 [.int 2, .int (nI (bN b)), .ref (ca 0), .ref (ca 1), .ref (ca 2), .ref (ca 3), .int (nI (bRc b)), .ref (ca 4), .int (nI (bHc b)), .ref (ca 5), .ref (ca 6), .ref (ca 7), .ref (ca 8), .ref (ca 9), .ref (ca 10), .ref (ca 11), .ref (ca 12), .ref (ca 13), .ref (ca 14), .ref (ca 15), .ref (ca 16), .ref (ca 17), .long bc, .int cp])) := ⟨_, rfl⟩
      replace hP : hH G (hA f s.heap.size) f3 H := by rw [ef3]; exact hP
      have hv_f3 : mv G f3 y ca 2 (nI (bN b)) (nI (bRc b)) (nI (bHc b)) bc cp MK PL AB BE AS FP PC PF PT PU RA KC PK ST DC DY DS SU := by rw [ef3]; exact mv_y hv _ _ _ _ _ _
      refine lv_aload_n hx hb d_M_pack_33 rfl (lv_at hl 0 rfl) ?_
      refine g_get C i_M hP hv_f3.1 rfl 0 (by decide) wd_506 rfl rfl d_M_pack_34 ?_
      refine lv_if_eq (tgt := 42) hx hb d_M_pack_37 (by decide) (fun c_37 => ?_) (fun c_37 => ?_)
      · exact absurd c_37 (by decide)
      · refine lv_iconst (v := 0) hx hb d_M_pack_40 (by decide) ?_
        exact g_zret C (by first | exact Or.inl rfl | exact Or.inr rfl) hP hS (⟨2, b, bc, cp, ⟨MK, PL, AB, BE, AS, FP, PC, PF, PT, PU, RA, KC, PK, ST, DC, DY, DS, SU, hv_f3, hR⟩, Or.inr (Or.inl ⟨hI, hB, rfl, rfl⟩)⟩) (Nat.le_of_ble_eq_true rfl) (Nat.le_of_ble_eq_true rfl) d_M_pack_41
    · refine lv_iload_n hx hb d_M_pack_18 rfl (lv_at hl 2 rfl) ?_
      refine lv_sipush (v := 1000) hx hb d_M_pack_19 (by decide) ?_
      refine lv_icmp_le (tgt := 29) hx hb d_M_pack_22 (by decide) (fun c_22 => ?_) (fun c_22 => ?_)
      · refine lv_iconst (v := 0) hx hb d_M_pack_29 (by decide) ?_
        have hI : okx p0 (bN b) := bz_t hzP c_6
        have hN : N_pack s0 := ⟨Int32.not_lt.mp c_15, c_22⟩
        obtain ⟨i, t, D1, hi, rfl, ht1, ht2, rfl, hT, rfl⟩ := hK0 hI hN
        have hDi := hok.2.1 i hi
        obtain ⟨hpc, hcel⟩ := hR.2.2.2.2.1 i (by omega)
        have h8 := hDi.1.2.2.2.2
        refine g_put C i_M t_M t_M_ok n_M hP hS hv.1 rfl 0 (by decide) wd_506 rfl rfl rfl (rfl) (Nat.le_of_ble_eq_true rfl) d_M_pack_30 (fun H locs hP hS => ?_)
        obtain ⟨f4, ef4⟩ : ∃ z99, z99 = va_up f y (some (ob 4 [.int 0, .int (nI (bN b)), .ref (ca 0), .ref (ca 1), .ref (ca 2), .ref (ca 3), .int (nI (bRc b)), .ref (ca 4), .int (nI (bHc b)), .ref (ca 5), .ref (ca 6), .ref (ca 7), .ref (ca 8), .ref (ca 9), .ref (ca 10), .ref (ca 11), .ref (ca 12), .ref (ca 13), .ref (ca 14), .ref (ca 15), .ref (ca 16), .ref (ca 17), .long bc, .int cp])) := ⟨_, rfl⟩
        replace hP : hH G (hA f s.heap.size) f4 H := by rw [ef4]; exact hP
        have hv_f4 : mv G f4 y ca 0 (nI (bN b)) (nI (bRc b)) (nI (bHc b)) bc cp MK PL AB BE AS FP PC PF PT PU RA KC PK ST DC DY DS SU := by rw [ef4]; exact mv_y hv _ _ _ _ _ _
        refine lv_aload_n hx hb d_M_pack_33 rfl (lv_at hl 0 rfl) ?_
        refine g_get C i_M hP hv_f4.1 rfl 0 (by decide) wd_506 rfl rfl d_M_pack_34 ?_
        refine lv_if_eq (tgt := 42) hx hb d_M_pack_37 (by decide) (fun c_37 => ?_) (fun c_37 => ?_)
        · refine lv_bipush (v := 6) hx hb d_M_pack_42 (by decide) ?_
          refine lv_iload_n hx hb d_M_pack_44 rfl (lv_at hl 1 rfl) ?_
          refine lv_imul hx hb d_M_pack_45 ?_
          refine g_eqi (y := nI (6 * i + 0)) (pk_mul _ _) ?_
          refine lv_istore_n (lv' := [(3, .int (nI (6 * i + 0))), (0, .ref y), (1, .int (nI i)), (2, .int (nI t))]) hx hb d_M_pack_46 rfl hl (by decide) rfl (fun ls hl => ?_)
          have loop : ∀ (d j : Nat) (ls : Array Slot), pNp (bD b i) < j + d → j ≤ pNp (bD b i) → (∀ j2, j2 < j → pPk (bD b i) j2 ≠ t) → lv_has ls 4 [(3, .int (nI (6 * i + j))), (0, .ref y), (1, .int (nI i)), (2, .int (nI t))] → W p l e { frames := 2, cells := 0, slots := 0, locals := 120 } s m #[.ref y, .int (nI i), .int (nI t)] below meth c H locs 0 0 (MQ below (va_Qi (fun r u => ∃ th2 b2 bc2 cp2, mS G u y ca b2 th2 bc2 cp2 ∧ mp (okx (nI i) (bN b)) (N_pack (nI t)) b (bSet b i D1) (r = r0) th2 b2) (hB G (hA f s.heap.size)) (hA f s.heap.size)) #[.ref y, .int (nI i), .int (nI t)] s 0 0 (hA f s.heap.size)) (F0 m 47 ls []) := by
            intro d
            induction d with
            | zero => intro j ls h1 h2; exact absurd h1 (by omega)
            | succ d ih =>
              intro j ls h1 h2 hno hl
              refine lv_iload_n hx hb d_M_pack_47 rfl (lv_at hl 0 rfl) ?_
              refine lv_bipush (v := 6) hx hb d_M_pack_48 (by decide) ?_
              refine lv_iload_n hx hb d_M_pack_50 rfl (lv_at hl 2 rfl) ?_
              refine lv_imul hx hb d_M_pack_51 ?_
              refine g_eqi (y := nI (6 * i)) (pk_mul _ _) ?_
              refine lv_aload_n hx hb d_M_pack_52 rfl (lv_at hl 1 rfl) ?_
              refine g_get C i_M hP hv_f4.1 rfl 15 (by decide) wd_521 rfl rfl d_M_pack_53 ?_
              refine lv_iload_n hx hb d_M_pack_56 rfl (lv_at hl 2 rfl) ?_
              refine g_ialdN C hP hv_f4.2.2.2.2.2.2.2.2.2.2.2.2.1 (j := i) (by omega) (by decide) d_M_pack_57 ?_
              refine g_eqi (y := nI (pNp (bD b i))) (hpc) ?_
              refine lv_iadd hx hb d_M_pack_58 ?_
              refine g_eqi (y := nI (6 * i + pNp (bD b i))) (nI_add _ _) ?_
              refine lv_icmp_ge (tgt := 80) hx hb d_M_pack_59 (by decide) (fun c_59 => ?_) (fun c_59 => ?_)
              · have hjn : j = pNp (bD b i) := by have := (nI_leI (by omega) (by omega)).mp c_59; omega
                subst hjn
                refine lv_aload_n hx hb d_M_pack_80 rfl (lv_at hl 1 rfl) ?_
                refine g_get C i_M hP hv_f4.1 rfl 15 (by decide) wd_521 rfl rfl d_M_pack_81 ?_
                refine lv_iload_n hx hb d_M_pack_84 rfl (lv_at hl 2 rfl) ?_
                refine g_ialdN C hP hv_f4.2.2.2.2.2.2.2.2.2.2.2.2.1 (j := i) (by omega) (by decide) d_M_pack_85 ?_
                refine g_eqi (y := nI (pNp (bD b i))) (hpc) ?_
                refine lv_bipush (v := 6) hx hb d_M_pack_86 (by decide) ?_
                refine lv_icmp_ne (tgt := 93) hx hb d_M_pack_88 (by decide) (fun c_88 => ?_) (fun c_88 => ?_)
                · have q_8 : pNp (bD b i) < 6 := by have : pNp (bD b i) ≠ 6 := fun z9 => c_88 (by rw [z9]; rfl); omega
                  obtain ⟨hr0, -, -, w9, rfl⟩ := hT.resolve_left (fun z9 => z9.2.2.elim (fun y9 => by omega) (fun ⟨j2, y9, x9⟩ => hno j2 y9 x9))
                  refine lv_aload_n hx hb d_M_pack_93 rfl (lv_at hl 1 rfl) ?_
                  refine g_get C i_M hP hv_f4.1 rfl 16 (by decide) wd_522 rfl rfl d_M_pack_94 ?_
                  refine lv_bipush (v := 6) hx hb d_M_pack_97 (by decide) ?_
                  refine lv_iload_n hx hb d_M_pack_99 rfl (lv_at hl 2 rfl) ?_
                  refine lv_imul hx hb d_M_pack_100 ?_
                  refine g_eqi (y := nI (6 * i)) (pk_mul _ _) ?_
                  refine lv_aload_n hx hb d_M_pack_101 rfl (lv_at hl 1 rfl) ?_
                  refine g_get C i_M hP hv_f4.1 rfl 15 (by decide) wd_521 rfl rfl d_M_pack_102 ?_
                  refine lv_iload_n hx hb d_M_pack_105 rfl (lv_at hl 2 rfl) ?_
                  refine g_ialdN C hP hv_f4.2.2.2.2.2.2.2.2.2.2.2.2.1 (j := i) (by omega) (by decide) d_M_pack_106 ?_
                  refine g_eqi (y := nI (pNp (bD b i))) (hpc) ?_
                  refine lv_iadd hx hb d_M_pack_107 ?_
                  refine g_eqi (y := nI (6 * i + pNp (bD b i))) (nI_add _ _) ?_
                  refine lv_iload_n hx hb d_M_pack_108 rfl (lv_at hl 3 rfl) ?_
                  refine g_iastN C hP hS hv_f4.2.2.2.2.2.2.2.2.2.2.2.2.2.1 (j := (6 * i + pNp (bD b i))) (by omega) (by decide) d_M_pack_109 (fun H locs hP hS => ?_)
                  obtain ⟨g2, eg2⟩ : ∃ z99, z99 = upd PK (6 * i + pNp (bD b i)) (nI t) := ⟨_, rfl⟩
                  rw [← eg2] at hP
                  obtain ⟨f1, ef1⟩ : ∃ z99, z99 = va_up f4 (ca 12) (some (aI G 240 g2)) := ⟨_, rfl⟩
                  replace hP : hH G (hA f s.heap.size) f1 H := by rw [ef1]; exact hP
                  have hv_f1 : mv G f1 y ca 0 (nI (bN b)) (nI (bRc b)) (nI (bHc b)) bc cp MK PL AB BE AS FP PC PF PT PU RA KC g2 ST DC DY DS SU := by rw [ef1]; exact mv_12 hv_f4 _
                  refine lv_aload_n hx hb d_M_pack_110 rfl (lv_at hl 1 rfl) ?_
                  refine g_get C i_M hP hv_f1.1 rfl 15 (by decide) wd_521 rfl rfl d_M_pack_111 ?_
                  refine lv_iload_n hx hb d_M_pack_114 rfl (lv_at hl 2 rfl) ?_
                  refine lv_dup2_11 hx hb d_M_pack_115 rfl rfl ?_
                  refine g_ialdN C hP hv_f1.2.2.2.2.2.2.2.2.2.2.2.2.1 (j := i) (by omega) (by decide) d_M_pack_116 ?_
                  refine g_eqi (y := nI (pNp (bD b i))) (hpc) ?_
                  refine lv_iconst (v := 1) hx hb d_M_pack_117 (by decide) ?_
                  refine lv_iadd hx hb d_M_pack_118 ?_
                  refine g_eqi (y := nI (pNp (bD b i) + 1)) (nI_1 _) ?_
                  refine g_iastN C hP hS hv_f1.2.2.2.2.2.2.2.2.2.2.2.2.1 (j := i) (by omega) (by decide) d_M_pack_119 (fun H locs hP hS => ?_)
                  obtain ⟨g4, eg4⟩ : ∃ z99, z99 = upd KC i (nI (pNp (bD b i) + 1)) := ⟨_, rfl⟩
                  rw [← eg4] at hP
                  obtain ⟨f3, ef3⟩ : ∃ z99, z99 = va_up f1 (ca 11) (some (aI G 40 g4)) := ⟨_, rfl⟩
                  replace hP : hH G (hA f s.heap.size) f3 H := by rw [ef3]; exact hP
                  have hv_f3 : mv G f3 y ca 0 (nI (bN b)) (nI (bRc b)) (nI (bHc b)) bc cp MK PL AB BE AS FP PC PF PT PU RA g4 g2 ST DC DY DS SU := by rw [ef3]; exact mv_11 hv_f1 _
                  refine lv_iconst (v := 1) hx hb d_M_pack_120 (by decide) ?_
                  subst eg2 eg4
                  exact g_zret C (by first | exact Or.inl rfl | exact Or.inr rfl) hP hS (⟨0, bSet b i (dPk (bD b i) (pNp (bD b i) + 1) (va_up (pPk (bD b i)) (pNp (bD b i)) t) w9), bc, cp, ⟨MK, PL, AB, BE, AS, FP, PC, PF, PT, PU, RA, _, _, ST, DC, DY, DS, SU, hv_f3, (mR_pkc hR hi hNN q_8 (fun k => (bD_8 hok hR.1.2.2.2.2 k).2.2))⟩, Or.inl ⟨hI, hN, rfl, rfl, hr0.symm⟩⟩) (Nat.le_of_ble_eq_true rfl) (Nat.le_of_ble_eq_true rfl) d_M_pack_121
                · have q_8 : pNp (bD b i) = 6 := (nI_eq (b := 6) (by omega) (by decide)).mp c_88
                  obtain ⟨hr0, eD, -⟩ := hT.resolve_right (fun z9 => by have := z9.2.1; omega)
                  refine lv_iconst (v := 0) hx hb d_M_pack_91 (by decide) ?_
                  subst eD
                  exact g_zret C (by first | exact Or.inl rfl | exact Or.inr rfl) hP hS (⟨0, bSet b i (bD b i), bc, cp, ⟨MK, PL, AB, BE, AS, FP, PC, PF, PT, PU, RA, KC, PK, ST, DC, DY, DS, SU, hv_f4, (by rw [show bSet b i (bD b i) = b from by show (_, _, _, va_up (bD b) i (bD b i), _) = _; rw [up_id rfl]]; exact hR)⟩, Or.inl ⟨hI, hN, rfl, rfl, hr0.symm⟩⟩) (Nat.le_of_ble_eq_true rfl) (Nat.le_of_ble_eq_true rfl) d_M_pack_92
              · have hjn : j < pNp (bD b i) := Nat.lt_of_not_le (fun z9 => c_59 ((nI_leI (by omega) (by omega)).mpr (by omega)))
                have hlK := hDi.2.2.2.2.2.2.1 j hjn
                refine lv_aload_n hx hb d_M_pack_62 rfl (lv_at hl 1 rfl) ?_
                refine g_get C i_M hP hv_f4.1 rfl 16 (by decide) wd_522 rfl rfl d_M_pack_63 ?_
                refine lv_iload_n hx hb d_M_pack_66 rfl (lv_at hl 0 rfl) ?_
                refine g_ialdN C hP hv_f4.2.2.2.2.2.2.2.2.2.2.2.2.2.1 (j := (6 * i + j)) (by omega) (by decide) d_M_pack_67 ?_
                refine g_eqi (y := nI (pPk (bD b i) j)) (hcel j hjn) ?_
                refine lv_iload_n hx hb d_M_pack_68 rfl (lv_at hl 3 rfl) ?_
                refine lv_icmp_ne (tgt := 74) hx hb d_M_pack_69 (by decide) (fun c_69 => ?_) (fun c_69 => ?_)
                · have hnf : pPk (bD b i) j ≠ t := fun z9 => c_69 (by rw [z9])
                  refine lv_iinc (v := nI (6 * i + (j + 1))) (lv' := [(3, .int (nI (6 * i + (j + 1)))), (0, .ref y), (1, .int (nI i)), (2, .int (nI t))]) hx hb d_M_pack_74 hl (k := 0) rfl (nI_1 _) (by decide) rfl (fun ls hl => ?_)
                  refine lv_goto (tgt := 47) hx hb d_M_pack_77 (by decide) ?_
                  exact ih (j + 1) ls (by omega) (by omega) (fun j2 h9 => by rcases Nat.lt_succ_iff_lt_or_eq.mp h9 with z9 | z9; exact hno j2 z9; rw [z9]; exact hnf) (lv_sub hl [0, 1, 2, 3] rfl)
                · have hfx : pPk (bD b i) j = t := (nI_eq (by omega) (by omega)).mp c_69
                  obtain ⟨hr0, eD, -⟩ := hT.resolve_right (fun z9 => z9.2.2.1 j hjn hfx)
                  refine lv_iconst (v := 0) hx hb d_M_pack_72 (by decide) ?_
                  subst eD
                  exact g_zret C (by first | exact Or.inl rfl | exact Or.inr rfl) hP hS (⟨0, bSet b i (bD b i), bc, cp, ⟨MK, PL, AB, BE, AS, FP, PC, PF, PT, PU, RA, KC, PK, ST, DC, DY, DS, SU, hv_f4, (by rw [show bSet b i (bD b i) = b from by show (_, _, _, va_up (bD b) i (bD b i), _) = _; rw [up_id rfl]]; exact hR)⟩, Or.inl ⟨hI, hN, rfl, rfl, hr0.symm⟩⟩) (Nat.le_of_ble_eq_true rfl) (Nat.le_of_ble_eq_true rfl) d_M_pack_73
          exact loop 7 0 ls (by omega) (by omega) (fun _ z9 => absurd z9 (by omega)) (lv_sub hl [0, 1, 2, 3] rfl)
        · exact absurd c_37 (by decide)
      · refine lv_iconst (v := 2) hx hb d_M_pack_25 (by decide) ?_
        refine lv_goto (tgt := 30) hx hb d_M_pack_26 (by decide) ?_
        have hI : okx p0 (bN b) := bz_t hzP c_6
        have hB : ¬ (N_pack s0) := fun z9 => by first | exact Int32.not_lt.mpr z9.1 c_15 | exact c_22 z9.2
        refine g_put C i_M t_M t_M_ok n_M hP hS hv.1 rfl 0 (by decide) wd_506 rfl rfl rfl (rfl) (Nat.le_of_ble_eq_true rfl) d_M_pack_30 (fun H locs hP hS => ?_)
        obtain ⟨f5, ef5⟩ : ∃ z99, z99 = va_up f y (some (ob 4 [.int 2, .int (nI (bN b)), .ref (ca 0), .ref (ca 1), .ref (ca 2), .ref (ca 3), .int (nI (bRc b)), .ref (ca 4), .int (nI (bHc b)), .ref (ca 5), .ref (ca 6), .ref (ca 7), .ref (ca 8), .ref (ca 9), .ref (ca 10), .ref (ca 11), .ref (ca 12), .ref (ca 13), .ref (ca 14), .ref (ca 15), .ref (ca 16), .ref (ca 17), .long bc, .int cp])) := ⟨_, rfl⟩
        replace hP : hH G (hA f s.heap.size) f5 H := by rw [ef5]; exact hP
        have hv_f5 : mv G f5 y ca 2 (nI (bN b)) (nI (bRc b)) (nI (bHc b)) bc cp MK PL AB BE AS FP PC PF PT PU RA KC PK ST DC DY DS SU := by rw [ef5]; exact mv_y hv _ _ _ _ _ _
        refine lv_aload_n hx hb d_M_pack_33 rfl (lv_at hl 0 rfl) ?_
        refine g_get C i_M hP hv_f5.1 rfl 0 (by decide) wd_506 rfl rfl d_M_pack_34 ?_
        refine lv_if_eq (tgt := 42) hx hb d_M_pack_37 (by decide) (fun c_37 => ?_) (fun c_37 => ?_)
        · exact absurd c_37 (by decide)
        · refine lv_iconst (v := 0) hx hb d_M_pack_40 (by decide) ?_
          exact g_zret C (by first | exact Or.inl rfl | exact Or.inr rfl) hP hS (⟨2, b, bc, cp, ⟨MK, PL, AB, BE, AS, FP, PC, PF, PT, PU, RA, KC, PK, ST, DC, DY, DS, SU, hv_f5, hR⟩, Or.inr (Or.inl ⟨hI, hB, rfl, rfl⟩)⟩) (Nat.le_of_ble_eq_true rfl) (Nat.le_of_ble_eq_true rfl) d_M_pack_41
  · refine lv_iconst (v := 1) hx hb d_M_pack_9 (by decide) ?_
    refine lv_goto (tgt := 30) hx hb d_M_pack_10 (by decide) ?_
    have hB : ¬ (okx p0 (bN b)) := fun z9 => bz_f hzP c_6 z9
    refine g_put C i_M t_M t_M_ok n_M hP hS hv.1 rfl 0 (by decide) wd_506 rfl rfl rfl (rfl) (Nat.le_of_ble_eq_true rfl) d_M_pack_30 (fun H locs hP hS => ?_)
    obtain ⟨f6, ef6⟩ : ∃ z99, z99 = va_up f y (some (ob 4 [.int 1, .int (nI (bN b)), .ref (ca 0), .ref (ca 1), .ref (ca 2), .ref (ca 3), .int (nI (bRc b)), .ref (ca 4), .int (nI (bHc b)), .ref (ca 5), .ref (ca 6), .ref (ca 7), .ref (ca 8), .ref (ca 9), .ref (ca 10), .ref (ca 11), .ref (ca 12), .ref (ca 13), .ref (ca 14), .ref (ca 15), .ref (ca 16), .ref (ca 17), .long bc, .int cp])) := ⟨_, rfl⟩
    replace hP : hH G (hA f s.heap.size) f6 H := by rw [ef6]; exact hP
    have hv_f6 : mv G f6 y ca 1 (nI (bN b)) (nI (bRc b)) (nI (bHc b)) bc cp MK PL AB BE AS FP PC PF PT PU RA KC PK ST DC DY DS SU := by rw [ef6]; exact mv_y hv _ _ _ _ _ _
    refine lv_aload_n hx hb d_M_pack_33 rfl (lv_at hl 0 rfl) ?_
    refine g_get C i_M hP hv_f6.1 rfl 0 (by decide) wd_506 rfl rfl d_M_pack_34 ?_
    refine lv_if_eq (tgt := 42) hx hb d_M_pack_37 (by decide) (fun c_37 => ?_) (fun c_37 => ?_)
    · exact absurd c_37 (by decide)
    · refine lv_iconst (v := 0) hx hb d_M_pack_40 (by decide) ?_
      exact g_zret C (by first | exact Or.inl rfl | exact Or.inr rfl) hP hS (⟨1, b, bc, cp, ⟨MK, PL, AB, BE, AS, FP, PC, PF, PT, PU, RA, KC, PK, ST, DC, DY, DS, SU, hv_f6, hR⟩, Or.inr (Or.inr ⟨hB, rfl, rfl⟩)⟩) (Nat.le_of_ble_eq_true rfl) (Nat.le_of_ble_eq_true rfl) d_M_pack_41
