/-! The reference: alternates, find, search. -/
theorem mR_hi {b : BD} {MK : Nat → Int32} {PL : Nat → Int32} {AB : Nat → Int64} {BE : Nat → Int64} {AS : Nat → Int32} {FP : Nat → Int32} {PC : Nat → Int32} {PF : Nat → Int32} {PT : Nat → Int64} {PU : Nat → Int32} {RA : Nat → Int64} {KC : Nat → Int32} {PK : Nat → Int32} {ST : Nat → Int32} {DC : Nat → Int32} {DY : Nat → Int64} {DS : Nat → Int32} (h : mR b MK PL AB BE AS FP PC PF PT PU RA KC PK ST DC DY DS) (n : Nat) (hh : Nat → Nat) : mR (bHiS b n hh) MK PL AB BE AS (fun k => nI (hh k)) PC PF PT PU RA KC PK ST DC DY DS := ⟨⟨h.1.1, rfl, h.1.2.2⟩, h.2⟩
set_option maxHeartbeats 4000000 in
set_option maxRecDepth 100000 in
theorem ct_M_isAlternate {l : Launch} {G : hG} (f : hm) (y : Nat) (ca : Nat → Nat) (b : BD) (hok : bOK b) (th : Int32) (bc : Int64) (cp : Int32) (hm : mS G f y ca b th bc cp) (i o q : Nat) (hi : i < bN b) (ho : o < bN b) (hq0 : q < bRc b) : ci_ l G y_M_isAlternate w_M_isAlternate { frames := 2, cells := 0, slots := 0, locals := 100 } [.ref y, .int (nI i), .int (nI o), .int (nI q)] f (fun r u => bz (AL b i o q) r ∧ u = f) := by
  intro sz
  refine h_ofW (cc := c_M_isAlternate) (maxL := 7) (ret := (some .boolean)) (by decide) rfl (Nat.le_of_ble_eq_true rfl) ?_
  intro p e s m below meth c ls C hin hsz hP hl
  obtain ⟨hx, hb, hml, hown, -, -, -, -⟩ := id C
  subst hsz
  have hA0 : ∀ q, s.heap.size ≤ q → hA f s.heap.size q := hA.new
  have hS : va_S (hA f s.heap.size) s.heap s.heap [] := va_S.rf
  replace hl : lv_has ls 7 [(0, .ref y), (1, .int (nI i)), (2, .int (nI o)), (3, .int (nI q))] := hl
  obtain ⟨MK, PL, AB, BE, AS, FP, PC, PF, PT, PU, RA, KC, PK, ST, DC, DY, DS, SU, hv, hR⟩ := hm
  have hNN : bN b ≤ 40 := hok.1.1
  have hRC : bRc b ≤ 10 := hok.1.2.1
  have hHC : bHc b ≤ 40 := hok.1.2.2
  have loop : i ≠ o → ∀ (d j : Nat) (ls : Array Slot) (H : Heap) (locs : List Loc), 12 < j + d → j ≤ 12 → (∀ k, k < j → bAs b (q * 12 + k) = -1 ∨ mt (bD b i) (bD b o) k (bAs b (q * 12 + k))) → hH G (hA f s.heap.size) f H → va_S (hA f s.heap.size) s.heap H locs → lv_has ls 7 [(4, .int (nI j)), (0, .ref y), (1, .int (nI i)), (2, .int (nI o)), (3, .int (nI q))] → W p l e { frames := 2, cells := 0, slots := 0, locals := 100 } s m #[.ref y, .int (nI i), .int (nI o), .int (nI q)] below meth c H locs 0 0 (MQ below (va_Qi (fun r u => bz (AL b i o q) r ∧ u = f) (hB G (hA f s.heap.size)) (hA f s.heap.size)) #[.ref y, .int (nI i), .int (nI o), .int (nI q)] s 0 0 (hA f s.heap.size)) (F0 m 10 ls []) := by
    intro hne d
    induction d with
    | zero => intro j ls H locs h1 h2; exact absurd h1 (by omega)
    | succ d ih =>
      intro j ls H locs h1 h2 hall hP hS hl
      refine lv_iload hx hb d_M_isAlternate_10 (lv_at hl 0 rfl) ?_
      refine lv_bipush (v := 12) hx hb d_M_isAlternate_12 (by decide) ?_
      refine lv_icmp_ge (tgt := 114) hx hb d_M_isAlternate_14 (by decide) (fun c_14 => ?_) (fun c_14 => ?_)
      · have q_14 : j = 12 := by have := (nI_leI (a := 12) (by omega) (by omega)).mp c_14; omega
        refine lv_iconst (v := 1) hx hb d_M_isAlternate_114 (by decide) ?_
        exact g_zret C (by first | exact Or.inl rfl | exact Or.inr rfl) hP hS (⟨Or.inl ⟨⟨hne, fun k hk9 => hall k (by omega)⟩, rfl⟩, rfl⟩) (Nat.le_of_ble_eq_true rfl) (Nat.le_of_ble_eq_true rfl) d_M_isAlternate_115
      · have hj : j < 12 := Nat.lt_of_not_le (fun z9 => c_14 ((nI_leI (a := 12) (by omega) (by omega)).mpr z9))
        refine lv_aload_n hx hb d_M_isAlternate_17 rfl (lv_at hl 1 rfl) ?_
        refine g_get C i_M hP hv.1 rfl 7 (by decide) wd_513 rfl rfl d_M_isAlternate_18 ?_
        refine lv_bipush (v := 12) hx hb d_M_isAlternate_21 (by decide) ?_
        refine lv_iload_n hx hb d_M_isAlternate_23 rfl (lv_at hl 4 rfl) ?_
        refine lv_imul hx hb d_M_isAlternate_24 ?_
        refine g_eqi (y := nI (12 * q)) (pk_mul _ _) ?_
        refine lv_iload hx hb d_M_isAlternate_25 (lv_at hl 0 rfl) ?_
        refine lv_iadd hx hb d_M_isAlternate_27 ?_
        refine g_eqi (y := nI (q * 12 + j)) (by rw [nI_add, Nat.mul_comm]) ?_
        refine g_ialdN C hP hv.2.2.2.2.2.1 (j := (q * 12 + j)) (by omega) (by decide) d_M_isAlternate_28 ?_
        refine lv_iconst (v := 1) hx hb d_M_isAlternate_29 (by decide) ?_
        refine lv_isub hx hb d_M_isAlternate_30 ?_
        refine g_eqi (y := bAs b (q * 12 + j)) (by rw [hR.1.2.2.2.1 (q * 12 + j) (by omega)]; exact Int32.add_sub_cancel _ _) ?_
        refine lv_istore (lv' := [(5, .int (bAs b (q * 12 + j))), (4, .int (nI j)), (0, .ref y), (1, .int (nI i)), (2, .int (nI o)), (3, .int (nI q))]) hx hb d_M_isAlternate_31 hl (by decide) rfl (fun ls hl => ?_)
        refine lv_iload hx hb d_M_isAlternate_33 (lv_at hl 0 rfl) ?_
        refine lv_iconst (v := (-1)) hx hb d_M_isAlternate_35 (by decide) ?_
        refine lv_icmp_ne (tgt := 42) hx hb d_M_isAlternate_36 (by decide) (fun c_36 => ?_) (fun c_36 => ?_)
        · refine lv_aload_n hx hb d_M_isAlternate_42 rfl (lv_at hl 2 rfl) ?_
          refine lv_iload_n hx hb d_M_isAlternate_43 rfl (lv_at hl 3 rfl) ?_
          refine lv_iload hx hb d_M_isAlternate_44 (lv_at hl 1 rfl) ?_
          refine g_calli (g_runV C hl.1 (ct_M_hasValue f y ca b hok th bc cp ⟨MK, PL, AB, BE, AS, FP, PC, PF, PT, PU, RA, KC, PK, ST, DC, DY, DS, SU, hv, hR⟩ i j hi hj _) (cx_V C 2 wd_620 wd_622 wp_15 wd_3 wd_623 rfl rfl (by decide +kernel) ⟨Nat.le_of_ble_eq_true rfl, Nat.le_of_ble_eq_true rfl⟩) hP hv.1 rfl rfl rfl (Nat.le_of_ble_eq_true rfl) d_M_isAlternate_46 ⟨Nat.le_of_ble_eq_true rfl, Nat.le_of_ble_eq_true rfl⟩) hP hS hA0 (fun r2 f1 H locs hq hP hS => ?_)
          obtain ⟨hzi, hu⟩ := hq
          rw [hu] at hP
          refine lv_if_eq (tgt := 62) hx hb d_M_isAlternate_49 (by decide) (fun c_49 => ?_) (fun c_49 => ?_)
          · have q_i := bz_f hzi c_49
            refine lv_iconst (v := 0) hx hb d_M_isAlternate_62 (by decide) ?_
            exact g_zret C (by first | exact Or.inl rfl | exact Or.inr rfl) hP hS (⟨Or.inr ⟨fun z9 => (z9.2 j hj).elim c_36 (fun z8 => by first | exact q_i z8.1 | exact q_o z8.2.1), rfl⟩, rfl⟩) (Nat.le_of_ble_eq_true rfl) (Nat.le_of_ble_eq_true rfl) d_M_isAlternate_63
          · have q_i : pVb (bD b i) j ≠ 0 := bz_t hzi c_49
            refine lv_aload_n hx hb d_M_isAlternate_52 rfl (lv_at hl 2 rfl) ?_
            refine lv_iload_n hx hb d_M_isAlternate_53 rfl (lv_at hl 4 rfl) ?_
            refine lv_iload hx hb d_M_isAlternate_54 (lv_at hl 1 rfl) ?_
            refine g_calli (g_runV C hl.1 (ct_M_hasValue f y ca b hok th bc cp ⟨MK, PL, AB, BE, AS, FP, PC, PF, PT, PU, RA, KC, PK, ST, DC, DY, DS, SU, hv, hR⟩ o j ho hj _) (cx_V C 2 wd_620 wd_622 wp_15 wd_3 wd_623 rfl rfl (by decide +kernel) ⟨Nat.le_of_ble_eq_true rfl, Nat.le_of_ble_eq_true rfl⟩) hP hv.1 rfl rfl rfl (Nat.le_of_ble_eq_true rfl) d_M_isAlternate_56 ⟨Nat.le_of_ble_eq_true rfl, Nat.le_of_ble_eq_true rfl⟩) hP hS hA0 (fun r4 f3 H locs hq hP hS => ?_)
            obtain ⟨hzo, hu⟩ := hq
            rw [hu] at hP
            refine lv_if_ne (tgt := 64) hx hb d_M_isAlternate_59 (by decide) (fun c_59 => ?_) (fun c_59 => ?_)
            · have q_o : pVb (bD b o) j ≠ 0 := bz_t hzo c_59
              refine lv_aload_n hx hb d_M_isAlternate_64 rfl (lv_at hl 2 rfl) ?_
              refine lv_iload_n hx hb d_M_isAlternate_65 rfl (lv_at hl 3 rfl) ?_
              refine lv_iload_n hx hb d_M_isAlternate_66 rfl (lv_at hl 4 rfl) ?_
              refine lv_iload hx hb d_M_isAlternate_67 (lv_at hl 1 rfl) ?_
              refine g_calli (g_runV C hl.1 (ct_M_compareParts f y ca b hok th bc cp ⟨MK, PL, AB, BE, AS, FP, PC, PF, PT, PU, RA, KC, PK, ST, DC, DY, DS, SU, hv, hR⟩ i o j hi ho hj q_i q_o _) (cx_V C 3 wd_644 wd_646 wp_18 wd_3 wd_647 rfl rfl (by decide +kernel) ⟨Nat.le_of_ble_eq_true rfl, Nat.le_of_ble_eq_true rfl⟩) hP hv.1 rfl rfl rfl (Nat.le_of_ble_eq_true rfl) d_M_isAlternate_69 ⟨Nat.le_of_ble_eq_true rfl, Nat.le_of_ble_eq_true rfl⟩) hP hS hA0 (fun r6 f5 H locs hq hP hS => ?_)
              obtain ⟨rfl, hu⟩ := hq
              rw [hu] at hP
              refine lv_istore (lv' := [(6, .int (cq_i (vc (bD b i) (bD b o) j))), (5, .int (bAs b (q * 12 + j))), (4, .int (nI j)), (0, .ref y), (1, .int (nI i)), (2, .int (nI o)), (3, .int (nI q))]) hx hb d_M_isAlternate_72 hl (by decide) rfl (fun ls hl => ?_)
              refine lv_iload hx hb d_M_isAlternate_74 (lv_at hl 1 rfl) ?_
              refine lv_if_ne (tgt := 87) hx hb d_M_isAlternate_76 (by decide) (fun c_76 => ?_) (fun c_76 => ?_)
              · refine lv_iload hx hb d_M_isAlternate_87 (lv_at hl 1 rfl) ?_
                refine lv_iconst (v := 1) hx hb d_M_isAlternate_89 (by decide) ?_
                refine lv_icmp_ne (tgt := 101) hx hb d_M_isAlternate_90 (by decide) (fun c_90 => ?_) (fun c_90 => ?_)
                · refine lv_iload hx hb d_M_isAlternate_101 (lv_at hl 0 rfl) ?_
                  refine lv_if_le (tgt := 108) hx hb d_M_isAlternate_103 (by decide) (fun c_103 => ?_) (fun c_103 => ?_)
                  · have hm9 : bAs b (q * 12 + j) = -1 ∨ mt (bD b i) (bD b o) j (bAs b (q * 12 + j)) := Or.inr ⟨q_i, q_o, Or.inr (Or.inr ⟨c_76, c_90, Int32.not_lt.mpr c_103⟩)⟩
                    refine lv_iinc (v := nI (j + 1)) (lv' := [(4, .int (nI (j + 1))), (6, .int (cq_i (vc (bD b i) (bD b o) j))), (5, .int (bAs b (q * 12 + j))), (0, .ref y), (1, .int (nI i)), (2, .int (nI o)), (3, .int (nI q))]) hx hb d_M_isAlternate_108 hl (k := 2) rfl (nI_1 j) (by decide) rfl (fun ls hl => ?_)
                    refine lv_goto (tgt := 10) hx hb d_M_isAlternate_111 (by decide) ?_
                    exact ih (j + 1) ls H locs (by omega) (by omega) (fun k hk9 => by rcases Nat.lt_succ_iff_lt_or_eq.mp hk9 with z9 | z9; exact hall k z9; rw [z9]; exact hm9) hP hS (lv_sub hl [0, 3, 4, 5, 6] rfl)
                  · refine lv_iconst (v := 0) hx hb d_M_isAlternate_106 (by decide) ?_
                    exact g_zret C (by first | exact Or.inl rfl | exact Or.inr rfl) hP hS (⟨Or.inr ⟨fun z9 => (z9.2 j hj).elim c_36 (fun z8 => by rcases z8.2.2 with z | z | z; (first | exact c_81 z.2 | exact c_76 z.1); (first | exact z.1 c_76 | exact c_95 (Int32.not_lt.mp z.2.2) | exact c_90 z.2.1); (first | exact z.1 c_76 | exact z.2.1 c_90 | exact c_103 (Int32.not_lt.mp z.2.2))), rfl⟩, rfl⟩) (Nat.le_of_ble_eq_true rfl) (Nat.le_of_ble_eq_true rfl) d_M_isAlternate_107
                · refine lv_iload hx hb d_M_isAlternate_93 (lv_at hl 0 rfl) ?_
                  refine lv_if_ge (tgt := 108) hx hb d_M_isAlternate_95 (by decide) (fun c_95 => ?_) (fun c_95 => ?_)
                  · have hm9 : bAs b (q * 12 + j) = -1 ∨ mt (bD b i) (bD b o) j (bAs b (q * 12 + j)) := Or.inr ⟨q_i, q_o, Or.inr (Or.inl ⟨c_76, c_90, Int32.not_lt.mpr c_95⟩)⟩
                    refine lv_iinc (v := nI (j + 1)) (lv' := [(4, .int (nI (j + 1))), (6, .int (cq_i (vc (bD b i) (bD b o) j))), (5, .int (bAs b (q * 12 + j))), (0, .ref y), (1, .int (nI i)), (2, .int (nI o)), (3, .int (nI q))]) hx hb d_M_isAlternate_108 hl (k := 2) rfl (nI_1 j) (by decide) rfl (fun ls hl => ?_)
                    refine lv_goto (tgt := 10) hx hb d_M_isAlternate_111 (by decide) ?_
                    exact ih (j + 1) ls H locs (by omega) (by omega) (fun k hk9 => by rcases Nat.lt_succ_iff_lt_or_eq.mp hk9 with z9 | z9; exact hall k z9; rw [z9]; exact hm9) hP hS (lv_sub hl [0, 3, 4, 5, 6] rfl)
                  · refine lv_goto (tgt := 106) hx hb d_M_isAlternate_98 (by decide) ?_
                    refine lv_iconst (v := 0) hx hb d_M_isAlternate_106 (by decide) ?_
                    exact g_zret C (by first | exact Or.inl rfl | exact Or.inr rfl) hP hS (⟨Or.inr ⟨fun z9 => (z9.2 j hj).elim c_36 (fun z8 => by rcases z8.2.2 with z | z | z; (first | exact c_81 z.2 | exact c_76 z.1); (first | exact z.1 c_76 | exact c_95 (Int32.not_lt.mp z.2.2) | exact c_90 z.2.1); (first | exact z.1 c_76 | exact z.2.1 c_90 | exact c_103 (Int32.not_lt.mp z.2.2))), rfl⟩, rfl⟩) (Nat.le_of_ble_eq_true rfl) (Nat.le_of_ble_eq_true rfl) d_M_isAlternate_107
              · refine lv_iload hx hb d_M_isAlternate_79 (lv_at hl 0 rfl) ?_
                refine lv_if_eq (tgt := 108) hx hb d_M_isAlternate_81 (by decide) (fun c_81 => ?_) (fun c_81 => ?_)
                · have hm9 : bAs b (q * 12 + j) = -1 ∨ mt (bD b i) (bD b o) j (bAs b (q * 12 + j)) := Or.inr ⟨q_i, q_o, Or.inl ⟨c_76, c_81⟩⟩
                  refine lv_iinc (v := nI (j + 1)) (lv' := [(4, .int (nI (j + 1))), (6, .int (cq_i (vc (bD b i) (bD b o) j))), (5, .int (bAs b (q * 12 + j))), (0, .ref y), (1, .int (nI i)), (2, .int (nI o)), (3, .int (nI q))]) hx hb d_M_isAlternate_108 hl (k := 2) rfl (nI_1 j) (by decide) rfl (fun ls hl => ?_)
                  refine lv_goto (tgt := 10) hx hb d_M_isAlternate_111 (by decide) ?_
                  exact ih (j + 1) ls H locs (by omega) (by omega) (fun k hk9 => by rcases Nat.lt_succ_iff_lt_or_eq.mp hk9 with z9 | z9; exact hall k z9; rw [z9]; exact hm9) hP hS (lv_sub hl [0, 3, 4, 5, 6] rfl)
                · refine lv_goto (tgt := 106) hx hb d_M_isAlternate_84 (by decide) ?_
                  refine lv_iconst (v := 0) hx hb d_M_isAlternate_106 (by decide) ?_
                  exact g_zret C (by first | exact Or.inl rfl | exact Or.inr rfl) hP hS (⟨Or.inr ⟨fun z9 => (z9.2 j hj).elim c_36 (fun z8 => by rcases z8.2.2 with z | z | z; (first | exact c_81 z.2 | exact c_76 z.1); (first | exact z.1 c_76 | exact c_95 (Int32.not_lt.mp z.2.2) | exact c_90 z.2.1); (first | exact z.1 c_76 | exact z.2.1 c_90 | exact c_103 (Int32.not_lt.mp z.2.2))), rfl⟩, rfl⟩) (Nat.le_of_ble_eq_true rfl) (Nat.le_of_ble_eq_true rfl) d_M_isAlternate_107
            · have q_o := bz_f hzo c_59
              refine lv_iconst (v := 0) hx hb d_M_isAlternate_62 (by decide) ?_
              exact g_zret C (by first | exact Or.inl rfl | exact Or.inr rfl) hP hS (⟨Or.inr ⟨fun z9 => (z9.2 j hj).elim c_36 (fun z8 => by first | exact q_i z8.1 | exact q_o z8.2.1), rfl⟩, rfl⟩) (Nat.le_of_ble_eq_true rfl) (Nat.le_of_ble_eq_true rfl) d_M_isAlternate_63
        · have hm9 : bAs b (q * 12 + j) = -1 ∨ mt (bD b i) (bD b o) j (bAs b (q * 12 + j)) := Or.inl c_36
          refine lv_goto (tgt := 108) hx hb d_M_isAlternate_39 (by decide) ?_
          refine lv_iinc (v := nI (j + 1)) (lv' := [(4, .int (nI (j + 1))), (5, .int (bAs b (q * 12 + j))), (0, .ref y), (1, .int (nI i)), (2, .int (nI o)), (3, .int (nI q))]) hx hb d_M_isAlternate_108 hl (k := 1) rfl (nI_1 j) (by decide) rfl (fun ls hl => ?_)
          refine lv_goto (tgt := 10) hx hb d_M_isAlternate_111 (by decide) ?_
          exact ih (j + 1) ls H locs (by omega) (by omega) (fun k hk9 => by rcases Nat.lt_succ_iff_lt_or_eq.mp hk9 with z9 | z9; exact hall k z9; rw [z9]; exact hm9) hP hS (lv_sub hl [0, 2, 3, 4, 5] rfl)
  refine lv_iload_n hx hb d_M_isAlternate_0 rfl (lv_at hl 1 rfl) ?_
  refine lv_iload_n hx hb d_M_isAlternate_1 rfl (lv_at hl 2 rfl) ?_
  refine lv_icmp_ne (tgt := 7) hx hb d_M_isAlternate_2 (by decide) (fun c_2 => ?_) (fun c_2 => ?_)
  · have q_2 : i ≠ o := fun z9 => c_2 (by rw [z9])
    refine lv_iconst (v := 0) hx hb d_M_isAlternate_7 (by decide) ?_
    refine lv_istore (lv' := [(4, .int 0), (0, .ref y), (1, .int (nI i)), (2, .int (nI o)), (3, .int (nI q))]) hx hb d_M_isAlternate_8 hl (by decide) rfl (fun ls hl => ?_)
    exact loop q_2 13 0 ls s.heap [] (by omega) (by omega) (fun _ z9 => absurd z9 (by omega)) hP hS (lv_sub hl [0, 1, 2, 3, 4] rfl)
  · have q_2 : i = o := (nI_eq (by omega) (by omega)).mp c_2
    refine lv_iconst (v := 0) hx hb d_M_isAlternate_5 (by decide) ?_
    exact g_zret C (by first | exact Or.inl rfl | exact Or.inr rfl) hP hS (⟨Or.inr ⟨fun z9 => z9.1 q_2, rfl⟩, rfl⟩) (Nat.le_of_ble_eq_true rfl) (Nat.le_of_ble_eq_true rfl) d_M_isAlternate_6
set_option maxHeartbeats 4000000 in
set_option maxRecDepth 100000 in
theorem ct_M_find {l : Launch} {G : hG} (f : hm) (y : Nat) (ca : Nat → Nat) (b : BD) (hok : bOK b) (th : Int32) (bc : Int64) (cp : Int32) (hm : mS G f y ca b th bc cp) (i : Nat) (hi : i < bN b) (nm : Option Nat) (h40 : bHc b < 40) (hnm : ∀ n, nm = some n → n < 12 ∧ pVb (bD b i) n ≠ 0 ∧ ∀ k, k < bHc b → pVb (bD b (bHi b k)) n ≠ 0) : cv_ l G y_M_find w_M_find { frames := 2, cells := 0, slots := 0, locals := 100 } [.ref y, .int (nI i), .int (nmv nm)] f (fun u => mS G u y ca (bHiS b (bHc b + 1) (iN (gb b nm i) i (bHc b) (bHi b))) th bc cp) := by
  intro sz
  refine h_ofW (cc := c_M_find) (maxL := 8) (ret := none) (by decide) rfl (Nat.le_of_ble_eq_true rfl) ?_
  intro p e s m below meth c ls C hin hsz hP hl
  obtain ⟨hx, hb, hml, hown, -, -, -, -⟩ := id C
  subst hsz
  have hA0 : ∀ q, s.heap.size ≤ q → hA f s.heap.size q := hA.new
  have hS : va_S (hA f s.heap.size) s.heap s.heap [] := va_S.rf
  replace hl : lv_has ls 8 [(0, .ref y), (1, .int (nI i)), (2, .int (nmv nm))] := hl
  obtain ⟨MK, PL, AB, BE, AS, FP, PC, PF, PT, PU, RA, KC, PK, ST, DC, DY, DS, SU, hv, hR⟩ := hm
  have hNN : bN b ≤ 40 := hok.1.1
  have hRC : bRc b ≤ 10 := hok.1.2.1
  have hHC : bHc b ≤ 40 := hok.1.2.2
  rcases nm with _ | n
  · replace hl : lv_has ls 8 [(0, .ref y), (1, .int (nI i)), (2, .int (-1))] := hl
    have hv0 : mv G f y ca th (nI (bN b)) (nI (bRc b)) (nI (bHc b)) bc cp MK PL AB BE AS (fun k => nI (bHi b k)) PC PF PT PU RA KC PK ST DC DY DS SU := by rw [← hR.1.2.1]; exact hv
    have tail : ∀ (t : Nat) (h : Nat → Nat) (fi : hm) (ls : Array Slot) (H : Heap) (locs : List Loc), t ≤ bHc b → mv G fi y ca th (nI (bN b)) (nI (bRc b)) (nI (bHc b)) bc cp MK PL AB BE AS (fun k => nI (h k)) PC PF PT PU RA KC PK ST DC DY DS SU → va_up h t i = iN (gb b none i) i (bHc b) (bHi b) → hH G (hA f s.heap.size) fi H → va_S (hA f s.heap.size) s.heap H locs → lv_has ls 8 [(3, .int (nI t)), (0, .ref y), (1, .int (nI i)), (2, .int (-1))] → W p l e { frames := 2, cells := 0, slots := 0, locals := 100 } s m #[.ref y, .int (nI i), .int ((-1))] below meth c H locs 0 0 (MQ below (va_Qv (fun u => mS G u y ca (bHiS b (bHc b + 1) (iN (gb b none i) i (bHc b) (bHi b))) th bc cp) (hB G (hA f s.heap.size)) (hA f s.heap.size)) #[.ref y, .int (nI i), .int ((-1))] s 0 0 (hA f s.heap.size)) (F0 m 111 ls []) := by
      intro t h fi ls H locs h2 hvi hend hP hS hl
      refine lv_aload_n hx hb d_M_find_111 rfl (lv_at hl 1 rfl) ?_
      refine g_get C i_M hP hvi.1 rfl 9 (by decide) wd_515 rfl rfl d_M_find_112 ?_
      refine lv_iload_n hx hb d_M_find_115 rfl (lv_at hl 0 rfl) ?_
      refine lv_iload_n hx hb d_M_find_116 rfl (lv_at hl 2 rfl) ?_
      refine g_iastN C hP hS hvi.2.2.2.2.2.2.1 (j := t) (by omega) (by decide) d_M_find_117 (fun H locs hP hS => ?_)
      obtain ⟨g2, eg2⟩ : ∃ z99, z99 = upd (fun k => nI (h k)) t (nI i) := ⟨_, rfl⟩
      rw [← eg2] at hP
      obtain ⟨f1, ef1⟩ : ∃ z99, z99 = va_up fi (ca 5) (some (aI G 40 g2)) := ⟨_, rfl⟩
      replace hP : hH G (hA f s.heap.size) f1 H := by rw [ef1]; exact hP
      have hv_f1 : mv G f1 y ca th (nI (bN b)) (nI (bRc b)) (nI (bHc b)) bc cp MK PL AB BE AS g2 PC PF PT PU RA KC PK ST DC DY DS SU := by rw [ef1]; exact mv_5 hvi _
      refine lv_aload_n hx hb d_M_find_118 rfl (lv_at hl 1 rfl) ?_
      refine lv_dup hx hb d_M_find_119 rfl ?_
      refine g_get C i_M hP hv_f1.1 rfl 8 (by decide) wd_514 rfl rfl d_M_find_120 ?_
      refine lv_iconst (v := 1) hx hb d_M_find_123 (by decide) ?_
      refine lv_iadd hx hb d_M_find_124 ?_
      refine g_eqi (y := nI (bHc b + 1)) (nI_1 _) ?_
      refine g_put C i_M t_M t_M_ok n_M hP hS hv_f1.1 rfl 8 (by decide) wd_514 rfl rfl rfl (rfl) (Nat.le_of_ble_eq_true rfl) d_M_find_125 (fun H locs hP hS => ?_)
      obtain ⟨f3, ef3⟩ : ∃ z99, z99 = va_up f1 y (some (ob 4 [.int th, .int (nI (bN b)), .ref (ca 0), .ref (ca 1), .ref (ca 2), .ref (ca 3), .int (nI (bRc b)), .ref (ca 4), .int (nI (bHc b + 1)), .ref (ca 5), .ref (ca 6), .ref (ca 7), .ref (ca 8), .ref (ca 9), .ref (ca 10), .ref (ca 11), .ref (ca 12), .ref (ca 13), .ref (ca 14), .ref (ca 15), .ref (ca 16), .ref (ca 17), .long bc, .int cp])) := ⟨_, rfl⟩
      replace hP : hH G (hA f s.heap.size) f3 H := by rw [ef3]; exact hP
      have hv_f3 : mv G f3 y ca th (nI (bN b)) (nI (bRc b)) (nI (bHc b + 1)) bc cp MK PL AB BE AS g2 PC PF PT PU RA KC PK ST DC DY DS SU := by rw [ef3]; exact mv_y hv_f1 _ _ _ _ _ _
      rw [upd_nI] at eg2
      subst eg2
      have hiN2 : va_up h t i = iN (gb b none i) i (bHc b) (bHi b) := hend
      exact g_vret C hP hS (by rw [← hiN2]; exact ⟨MK, PL, AB, BE, AS, _, PC, PF, PT, PU, RA, KC, PK, ST, DC, DY, DS, SU, hv_f3, (mR_hi hR (bHc b + 1) (va_up h t i))⟩) (Nat.le_of_ble_eq_true rfl) (Nat.le_of_ble_eq_true rfl) d_M_find_128
    have loop : ∀ (d t1 : Nat) (h : Nat → Nat) (fi : hm) (ls : Array Slot) (H : Heap) (locs : List Loc), t1 < d → t1 + 1 ≤ bHc b → mv G fi y ca th (nI (bN b)) (nI (bRc b)) (nI (bHc b)) bc cp MK PL AB BE AS (fun k => nI (h k)) PC PF PT PU RA KC PK ST DC DY DS SU → (∀ k, k < bHc b → h k < bN b ∧ ∀ n2, (none : Option Nat) = some n2 → pVb (bD b (h k)) n2 ≠ 0) → iN (gb b none i) i (t1 + 1) h = iN (gb b none i) i (bHc b) (bHi b) → hH G (hA f s.heap.size) fi H → va_S (hA f s.heap.size) s.heap H locs → lv_has ls 8 [(3, .int (nI (t1 + 1))), (4, .int 1), (0, .ref y), (1, .int (nI i)), (2, .int (-1))] → W p l e { frames := 2, cells := 0, slots := 0, locals := 100 } s m #[.ref y, .int (nI i), .int ((-1))] below meth c H locs 0 0 (MQ below (va_Qv (fun u => mS G u y ca (bHiS b (bHc b + 1) (iN (gb b none i) i (bHc b) (bHi b))) th bc cp) (hB G (hA f s.heap.size)) (hA f s.heap.size)) #[.ref y, .int (nI i), .int ((-1))] s 0 0 (hA f s.heap.size)) (F0 m 16 ls []) := by
      intro d
      induction d with
      | zero => intro t1 h fi ls H locs h1; exact absurd h1 (by omega)
      | succ d ih =>
        intro t1 h fi ls H locs h1 h2 hvi hmem hiN hP hS hl
        have hm1 := hmem t1 (by omega)
        refine lv_iload hx hb d_M_find_16 (lv_at hl 1 rfl) ?_
        refine lv_if_eq (tgt := 111) hx hb d_M_find_18 (by decide) (fun c_18 => ?_) (fun c_18 => ?_)
        · exact absurd c_18 (by decide)
        · refine lv_aload_n hx hb d_M_find_21 rfl (lv_at hl 2 rfl) ?_
          refine g_get C i_M hP hvi.1 rfl 9 (by decide) wd_515 rfl rfl d_M_find_22 ?_
          refine lv_iload_n hx hb d_M_find_25 rfl (lv_at hl 0 rfl) ?_
          refine lv_iconst (v := 1) hx hb d_M_find_26 (by decide) ?_
          refine lv_isub hx hb d_M_find_27 ?_
          refine g_eqi (y := nI t1) (nI_pred _) ?_
          refine g_ialdN C hP hvi.2.2.2.2.2.2.1 (j := t1) (by omega) (by decide) d_M_find_28 ?_
          refine g_eqi (y := nI (h t1)) (rfl) ?_
          refine lv_istore (lv' := [(5, .int (nI (h t1))), (3, .int (nI (t1 + 1))), (4, .int 1), (0, .ref y), (1, .int (nI i)), (2, .int (-1))]) hx hb d_M_find_29 hl (by decide) rfl (fun ls hl => ?_)
          refine lv_iload_n hx hb d_M_find_31 rfl (lv_at hl 5 rfl) ?_
          refine lv_if_ge (tgt := 39) hx hb d_M_find_32 (by decide) (fun c_32 => ?_) (fun c_32 => ?_)
          · exact absurd c_32 (by decide)
          · refine lv_iconst (v := 0) hx hb d_M_find_35 (by decide) ?_
            refine lv_goto (tgt := 47) hx hb d_M_find_36 (by decide) ?_
            refine lv_istore (lv' := [(6, .int 0), (5, .int (nI (h t1))), (3, .int (nI (t1 + 1))), (4, .int 1), (0, .ref y), (1, .int (nI i)), (2, .int (-1))]) hx hb d_M_find_47 hl (by decide) rfl (fun ls hl => ?_)
            refine lv_iload hx hb d_M_find_49 (lv_at hl 0 rfl) ?_
            refine lv_if_eq (tgt := 67) hx hb d_M_find_51 (by decide) (fun c_51 => ?_) (fun c_51 => ?_)
            · refine lv_aload_n hx hb d_M_find_67 rfl (lv_at hl 4 rfl) ?_
              refine lv_iload_n hx hb d_M_find_68 rfl (lv_at hl 5 rfl) ?_
              refine lv_iload hx hb d_M_find_69 (lv_at hl 1 rfl) ?_
              refine g_calli (g_runV C hl.1 (ct_M_isAhead fi y ca (bHiS b (bHc b) h) ⟨hok.1, hok.2.1, hok.2.2.1, hok.2.2.2.1, hok.2.2.2.2.1, fun k hk9 => (hmem k hk9).1⟩ th bc cp ⟨MK, PL, AB, BE, AS, (fun k => nI (h k)), PC, PF, PT, PU, RA, KC, PK, ST, DC, DY, DS, SU, hvi, mR_hi hR (bHc b) h⟩ i (h t1) hi hm1.1 _) (cx_V C 2 wd_655 wd_657 wp_20 wd_3 wd_658 rfl rfl (by decide +kernel) ⟨Nat.le_of_ble_eq_true rfl, Nat.le_of_ble_eq_true rfl⟩) hP hvi.1 rfl rfl rfl (Nat.le_of_ble_eq_true rfl) d_M_find_71 ⟨Nat.le_of_ble_eq_true rfl, Nat.le_of_ble_eq_true rfl⟩) hP hS hA0 (fun r2 f1 H locs hq hP hS => ?_)
              obtain ⟨hzA, hu⟩ := hq
              rw [hu] at hP
              refine lv_istore (lv' := [(7, .int r2), (6, .int 0), (5, .int (nI (h t1))), (3, .int (nI (t1 + 1))), (4, .int 1), (0, .ref y), (1, .int (nI i)), (2, .int (-1))]) hx hb d_M_find_74 hl (by decide) rfl (fun ls hl => ?_)
              refine lv_iload hx hb d_M_find_76 (lv_at hl 0 rfl) ?_
              refine lv_if_eq (tgt := 92) hx hb d_M_find_78 (by decide) (fun c_78 => ?_) (fun c_78 => ?_)
              · have hgb : ¬ gb b none i (h t1) := bz_f hzA c_78
                refine lv_iload hx hb d_M_find_92 (lv_at hl 0 rfl) ?_
                refine lv_if_eq (tgt := 105) hx hb d_M_find_94 (by decide) (fun c_94 => ?_) (fun c_94 => ?_)
                · refine lv_iconst (v := 0) hx hb d_M_find_105 (by decide) ?_
                  refine lv_istore (lv' := [(4, .int 0), (7, .int r2), (6, .int 0), (5, .int (nI (h t1))), (3, .int (nI (t1 + 1))), (0, .ref y), (1, .int (nI i)), (2, .int (-1))]) hx hb d_M_find_106 hl (by decide) rfl (fun ls hl => ?_)
                  refine lv_goto (tgt := 16) hx hb d_M_find_108 (by decide) ?_
                  refine lv_iload hx hb d_M_find_16 (lv_at hl 0 rfl) ?_
                  refine lv_if_eq (tgt := 111) hx hb d_M_find_18 (by decide) (fun c_18 => ?_) (fun c_18 => ?_)
                  · exact tail (t1 + 1) h fi ls H locs (by omega) hvi ((iN_f (P := gb b none i) hgb).symm.trans hiN) hP hS (lv_sub hl [4, 5, 6, 7] rfl)
                  · exact absurd c_18 (by decide)
                · exact absurd c_78 c_94
              · have hgb : gb b none i (h t1) := bz_t hzA c_78
                refine lv_aload_n hx hb d_M_find_81 rfl (lv_at hl 5 rfl) ?_
                refine g_get C i_M hP hvi.1 rfl 9 (by decide) wd_515 rfl rfl d_M_find_82 ?_
                refine lv_iload_n hx hb d_M_find_85 rfl (lv_at hl 3 rfl) ?_
                refine lv_iload hx hb d_M_find_86 (lv_at hl 2 rfl) ?_
                refine g_iastN C hP hS hvi.2.2.2.2.2.2.1 (j := (t1 + 1)) (by omega) (by decide) d_M_find_88 (fun H locs hP hS => ?_)
                obtain ⟨g4, eg4⟩ : ∃ z99, z99 = upd (fun k => nI (h k)) (t1 + 1) (nI (h t1)) := ⟨_, rfl⟩
                rw [← eg4] at hP
                obtain ⟨f3, ef3⟩ : ∃ z99, z99 = va_up fi (ca 5) (some (aI G 40 g4)) := ⟨_, rfl⟩
                replace hP : hH G (hA f s.heap.size) f3 H := by rw [ef3]; exact hP
                have hv_f3 : mv G f3 y ca th (nI (bN b)) (nI (bRc b)) (nI (bHc b)) bc cp MK PL AB BE AS g4 PC PF PT PU RA KC PK ST DC DY DS SU := by rw [ef3]; exact mv_5 hvi _
                refine lv_iinc (v := nI t1) (lv' := [(3, .int (nI t1)), (7, .int r2), (6, .int 0), (5, .int (nI (h t1))), (4, .int 1), (0, .ref y), (1, .int (nI i)), (2, .int (-1))]) hx hb d_M_find_89 hl (k := 3) rfl (pk_m1 _) (by decide) rfl (fun ls hl => ?_)
                refine lv_iload hx hb d_M_find_92 (lv_at hl 1 rfl) ?_
                refine lv_if_eq (tgt := 105) hx hb d_M_find_94 (by decide) (fun c_94 => ?_) (fun c_94 => ?_)
                · exact absurd c_94 c_78
                · refine lv_iload_n hx hb d_M_find_97 rfl (lv_at hl 0 rfl) ?_
                  refine lv_if_le (tgt := 105) hx hb d_M_find_98 (by decide) (fun c_98 => ?_) (fun c_98 => ?_)
                  · have ht0 : t1 = 0 := Nat.eq_zero_of_not_pos (fun z9 => nI_nle z9 (by omega) c_98)
                    subst ht0
                    have hiN2 : va_up (va_up h 1 (h 0)) 0 i = iN (gb b none i) i (bHc b) (bHi b) := (iN_t (P := gb b none i) hgb).symm.trans hiN
                    refine lv_iconst (v := 0) hx hb d_M_find_105 (by decide) ?_
                    refine lv_istore (lv' := [(4, .int 0), (3, .int (nI 0)), (7, .int r2), (6, .int 0), (5, .int (nI (h 0))), (0, .ref y), (1, .int (nI i)), (2, .int (-1))]) hx hb d_M_find_106 hl (by decide) rfl (fun ls hl => ?_)
                    refine lv_goto (tgt := 16) hx hb d_M_find_108 (by decide) ?_
                    refine lv_iload hx hb d_M_find_16 (lv_at hl 0 rfl) ?_
                    refine lv_if_eq (tgt := 111) hx hb d_M_find_18 (by decide) (fun c_18 => ?_) (fun c_18 => ?_)
                    · rw [upd_nI] at eg4
                      subst eg4
                      exact tail 0 (va_up h 1 (h 0)) f3 ls H locs (by omega) hv_f3 (hiN2) hP hS (lv_sub hl [1, 5, 6, 7] rfl)
                    · exact absurd c_18 (by decide)
                  · obtain ⟨t2, rfl⟩ : ∃ t2, t1 = t2 + 1 := ⟨t1 - 1, by have : t1 ≠ 0 := fun z9 => c_98 (by rw [z9]; decide); omega⟩
                    refine lv_iconst (v := 1) hx hb d_M_find_101 (by decide) ?_
                    refine lv_goto (tgt := 106) hx hb d_M_find_102 (by decide) ?_
                    refine lv_istore (lv' := [(4, .int 1), (3, .int (nI (t2 + 1))), (7, .int r2), (6, .int 0), (5, .int (nI (h (t2 + 1)))), (0, .ref y), (1, .int (nI i)), (2, .int (-1))]) hx hb d_M_find_106 hl (by decide) rfl (fun ls hl => ?_)
                    refine lv_goto (tgt := 16) hx hb d_M_find_108 (by decide) ?_
                    rw [upd_nI] at eg4
                    subst eg4
                    exact ih t2 (va_up h (t2 + 1 + 1) (h (t2 + 1))) f3 ls H locs (by omega) (by omega) hv_f3 (up_all (P := fun _ z => z < bN b ∧ ∀ n2, (none : Option Nat) = some n2 → pVb (bD b z) n2 ≠ 0) hmem hm1) ((iN_t (P := gb b none i) hgb).symm.trans hiN) hP hS (lv_sub hl [1, 0, 5, 6, 7] rfl)
            · exact absurd c_51 (by decide)
    refine lv_aload_n hx hb d_M_find_0 rfl (lv_at hl 0 rfl) ?_
    refine g_get C i_M hP hv.1 rfl 8 (by decide) wd_514 rfl rfl d_M_find_1 ?_
    refine lv_istore_n (lv' := [(3, .int (nI (bHc b))), (0, .ref y), (1, .int (nI i)), (2, .int (-1))]) hx hb d_M_find_4 rfl hl (by decide) rfl (fun ls hl => ?_)
    refine lv_iload_n hx hb d_M_find_5 rfl (lv_at hl 0 rfl) ?_
    refine lv_if_le (tgt := 13) hx hb d_M_find_6 (by decide) (fun c_6 => ?_) (fun c_6 => ?_)
    · have q_6 : bHc b = 0 := Nat.eq_zero_of_not_pos (fun z9 => nI_nle z9 (by omega) c_6)
      refine lv_iconst (v := 0) hx hb d_M_find_13 (by decide) ?_
      refine lv_istore (lv' := [(4, .int 0), (3, .int (nI (bHc b))), (0, .ref y), (1, .int (nI i)), (2, .int (-1))]) hx hb d_M_find_14 hl (by decide) rfl (fun ls hl => ?_)
      refine lv_iload hx hb d_M_find_16 (lv_at hl 0 rfl) ?_
      refine lv_if_eq (tgt := 111) hx hb d_M_find_18 (by decide) (fun c_18 => ?_) (fun c_18 => ?_)
      · exact tail (bHc b) (bHi b) f ls s.heap [] (by omega) hv0 (by rw [q_6]; rfl) hP hS (lv_sub hl [1, 2, 3, 4] rfl)
      · exact absurd c_18 (by decide)
    · obtain ⟨t1, et1⟩ : ∃ t1, bHc b = t1 + 1 := ⟨bHc b - 1, by have : bHc b ≠ 0 := fun z9 => c_6 (by rw [z9]; decide); omega⟩
      rw [et1] at hl
      refine lv_iconst (v := 1) hx hb d_M_find_9 (by decide) ?_
      refine lv_goto (tgt := 14) hx hb d_M_find_10 (by decide) ?_
      refine lv_istore (lv' := [(4, .int 1), (3, .int (nI (t1 + 1))), (0, .ref y), (1, .int (nI i)), (2, .int (-1))]) hx hb d_M_find_14 hl (by decide) rfl (fun ls hl => ?_)
      exact loop 41 t1 (bHi b) f ls s.heap [] (by omega) (by omega) hv0 (fun k hk9 => ⟨hok.2.2.2.2.2 k hk9, fun n2 hn2 => (hnm n2 hn2).2.2 k hk9⟩) (by rw [et1]) hP hS (lv_sub hl [1, 0, 2, 3, 4] rfl)
  · replace hl : lv_has ls 8 [(0, .ref y), (1, .int (nI i)), (2, .int (nI n))] := hl
    obtain ⟨hn, hn2, -⟩ := hnm n rfl
    have hv0 : mv G f y ca th (nI (bN b)) (nI (bRc b)) (nI (bHc b)) bc cp MK PL AB BE AS (fun k => nI (bHi b k)) PC PF PT PU RA KC PK ST DC DY DS SU := by rw [← hR.1.2.1]; exact hv
    have tail : ∀ (t : Nat) (h : Nat → Nat) (fi : hm) (ls : Array Slot) (H : Heap) (locs : List Loc), t ≤ bHc b → mv G fi y ca th (nI (bN b)) (nI (bRc b)) (nI (bHc b)) bc cp MK PL AB BE AS (fun k => nI (h k)) PC PF PT PU RA KC PK ST DC DY DS SU → va_up h t i = iN (gb b (some n) i) i (bHc b) (bHi b) → hH G (hA f s.heap.size) fi H → va_S (hA f s.heap.size) s.heap H locs → lv_has ls 8 [(3, .int (nI t)), (0, .ref y), (1, .int (nI i)), (2, .int (nI n))] → W p l e { frames := 2, cells := 0, slots := 0, locals := 100 } s m #[.ref y, .int (nI i), .int (nI n)] below meth c H locs 0 0 (MQ below (va_Qv (fun u => mS G u y ca (bHiS b (bHc b + 1) (iN (gb b (some n) i) i (bHc b) (bHi b))) th bc cp) (hB G (hA f s.heap.size)) (hA f s.heap.size)) #[.ref y, .int (nI i), .int (nI n)] s 0 0 (hA f s.heap.size)) (F0 m 111 ls []) := by
      intro t h fi ls H locs h2 hvi hend hP hS hl
      refine lv_aload_n hx hb d_M_find_111 rfl (lv_at hl 1 rfl) ?_
      refine g_get C i_M hP hvi.1 rfl 9 (by decide) wd_515 rfl rfl d_M_find_112 ?_
      refine lv_iload_n hx hb d_M_find_115 rfl (lv_at hl 0 rfl) ?_
      refine lv_iload_n hx hb d_M_find_116 rfl (lv_at hl 2 rfl) ?_
      refine g_iastN C hP hS hvi.2.2.2.2.2.2.1 (j := t) (by omega) (by decide) d_M_find_117 (fun H locs hP hS => ?_)
      obtain ⟨g2, eg2⟩ : ∃ z99, z99 = upd (fun k => nI (h k)) t (nI i) := ⟨_, rfl⟩
      rw [← eg2] at hP
      obtain ⟨f1, ef1⟩ : ∃ z99, z99 = va_up fi (ca 5) (some (aI G 40 g2)) := ⟨_, rfl⟩
      replace hP : hH G (hA f s.heap.size) f1 H := by rw [ef1]; exact hP
      have hv_f1 : mv G f1 y ca th (nI (bN b)) (nI (bRc b)) (nI (bHc b)) bc cp MK PL AB BE AS g2 PC PF PT PU RA KC PK ST DC DY DS SU := by rw [ef1]; exact mv_5 hvi _
      refine lv_aload_n hx hb d_M_find_118 rfl (lv_at hl 1 rfl) ?_
      refine lv_dup hx hb d_M_find_119 rfl ?_
      refine g_get C i_M hP hv_f1.1 rfl 8 (by decide) wd_514 rfl rfl d_M_find_120 ?_
      refine lv_iconst (v := 1) hx hb d_M_find_123 (by decide) ?_
      refine lv_iadd hx hb d_M_find_124 ?_
      refine g_eqi (y := nI (bHc b + 1)) (nI_1 _) ?_
      refine g_put C i_M t_M t_M_ok n_M hP hS hv_f1.1 rfl 8 (by decide) wd_514 rfl rfl rfl (rfl) (Nat.le_of_ble_eq_true rfl) d_M_find_125 (fun H locs hP hS => ?_)
      obtain ⟨f3, ef3⟩ : ∃ z99, z99 = va_up f1 y (some (ob 4 [.int th, .int (nI (bN b)), .ref (ca 0), .ref (ca 1), .ref (ca 2), .ref (ca 3), .int (nI (bRc b)), .ref (ca 4), .int (nI (bHc b + 1)), .ref (ca 5), .ref (ca 6), .ref (ca 7), .ref (ca 8), .ref (ca 9), .ref (ca 10), .ref (ca 11), .ref (ca 12), .ref (ca 13), .ref (ca 14), .ref (ca 15), .ref (ca 16), .ref (ca 17), .long bc, .int cp])) := ⟨_, rfl⟩
      replace hP : hH G (hA f s.heap.size) f3 H := by rw [ef3]; exact hP
      have hv_f3 : mv G f3 y ca th (nI (bN b)) (nI (bRc b)) (nI (bHc b + 1)) bc cp MK PL AB BE AS g2 PC PF PT PU RA KC PK ST DC DY DS SU := by rw [ef3]; exact mv_y hv_f1 _ _ _ _ _ _
      rw [upd_nI] at eg2
      subst eg2
      have hiN2 : va_up h t i = iN (gb b (some n) i) i (bHc b) (bHi b) := hend
      exact g_vret C hP hS (by rw [← hiN2]; exact ⟨MK, PL, AB, BE, AS, _, PC, PF, PT, PU, RA, KC, PK, ST, DC, DY, DS, SU, hv_f3, (mR_hi hR (bHc b + 1) (va_up h t i))⟩) (Nat.le_of_ble_eq_true rfl) (Nat.le_of_ble_eq_true rfl) d_M_find_128
    have loop : ∀ (d t1 : Nat) (h : Nat → Nat) (fi : hm) (ls : Array Slot) (H : Heap) (locs : List Loc), t1 < d → t1 + 1 ≤ bHc b → mv G fi y ca th (nI (bN b)) (nI (bRc b)) (nI (bHc b)) bc cp MK PL AB BE AS (fun k => nI (h k)) PC PF PT PU RA KC PK ST DC DY DS SU → (∀ k, k < bHc b → h k < bN b ∧ ∀ n2, some n = some n2 → pVb (bD b (h k)) n2 ≠ 0) → iN (gb b (some n) i) i (t1 + 1) h = iN (gb b (some n) i) i (bHc b) (bHi b) → hH G (hA f s.heap.size) fi H → va_S (hA f s.heap.size) s.heap H locs → lv_has ls 8 [(3, .int (nI (t1 + 1))), (4, .int 1), (0, .ref y), (1, .int (nI i)), (2, .int (nI n))] → W p l e { frames := 2, cells := 0, slots := 0, locals := 100 } s m #[.ref y, .int (nI i), .int (nI n)] below meth c H locs 0 0 (MQ below (va_Qv (fun u => mS G u y ca (bHiS b (bHc b + 1) (iN (gb b (some n) i) i (bHc b) (bHi b))) th bc cp) (hB G (hA f s.heap.size)) (hA f s.heap.size)) #[.ref y, .int (nI i), .int (nI n)] s 0 0 (hA f s.heap.size)) (F0 m 16 ls []) := by
      intro d
      induction d with
      | zero => intro t1 h fi ls H locs h1; exact absurd h1 (by omega)
      | succ d ih =>
        intro t1 h fi ls H locs h1 h2 hvi hmem hiN hP hS hl
        have hm1 := hmem t1 (by omega)
        refine lv_iload hx hb d_M_find_16 (lv_at hl 1 rfl) ?_
        refine lv_if_eq (tgt := 111) hx hb d_M_find_18 (by decide) (fun c_18 => ?_) (fun c_18 => ?_)
        · exact absurd c_18 (by decide)
        · refine lv_aload_n hx hb d_M_find_21 rfl (lv_at hl 2 rfl) ?_
          refine g_get C i_M hP hvi.1 rfl 9 (by decide) wd_515 rfl rfl d_M_find_22 ?_
          refine lv_iload_n hx hb d_M_find_25 rfl (lv_at hl 0 rfl) ?_
          refine lv_iconst (v := 1) hx hb d_M_find_26 (by decide) ?_
          refine lv_isub hx hb d_M_find_27 ?_
          refine g_eqi (y := nI t1) (nI_pred _) ?_
          refine g_ialdN C hP hvi.2.2.2.2.2.2.1 (j := t1) (by omega) (by decide) d_M_find_28 ?_
          refine g_eqi (y := nI (h t1)) (rfl) ?_
          refine lv_istore (lv' := [(5, .int (nI (h t1))), (3, .int (nI (t1 + 1))), (4, .int 1), (0, .ref y), (1, .int (nI i)), (2, .int (nI n))]) hx hb d_M_find_29 hl (by decide) rfl (fun ls hl => ?_)
          refine lv_iload_n hx hb d_M_find_31 rfl (lv_at hl 5 rfl) ?_
          refine lv_if_ge (tgt := 39) hx hb d_M_find_32 (by decide) (fun c_32 => ?_) (fun c_32 => ?_)
          · refine lv_aload_n hx hb d_M_find_39 rfl (lv_at hl 3 rfl) ?_
            refine lv_iload_n hx hb d_M_find_40 rfl (lv_at hl 4 rfl) ?_
            refine lv_iload hx hb d_M_find_41 (lv_at hl 0 rfl) ?_
            refine lv_iload_n hx hb d_M_find_43 rfl (lv_at hl 5 rfl) ?_
            refine g_calli (g_runV C hl.1 (ct_M_compareParts fi y ca (bHiS b (bHc b) h) ⟨hok.1, hok.2.1, hok.2.2.1, hok.2.2.2.1, hok.2.2.2.2.1, fun k hk9 => (hmem k hk9).1⟩ th bc cp ⟨MK, PL, AB, BE, AS, (fun k => nI (h k)), PC, PF, PT, PU, RA, KC, PK, ST, DC, DY, DS, SU, hvi, mR_hi hR (bHc b) h⟩ i (h t1) n hi hm1.1 hn hn2 (hm1.2 n rfl) _) (cx_V C 3 wd_644 wd_646 wp_18 wd_3 wd_647 rfl rfl (by decide +kernel) ⟨Nat.le_of_ble_eq_true rfl, Nat.le_of_ble_eq_true rfl⟩) hP hvi.1 rfl rfl rfl (Nat.le_of_ble_eq_true rfl) d_M_find_44 ⟨Nat.le_of_ble_eq_true rfl, Nat.le_of_ble_eq_true rfl⟩) hP hS hA0 (fun r2 f1 H locs hq hP hS => ?_)
            obtain ⟨rfl, hu⟩ := hq
            rw [hu] at hP
            refine lv_istore (lv' := [(6, .int (cq_i (vc (bD b i) (bD b (h t1)) n))), (5, .int (nI (h t1))), (3, .int (nI (t1 + 1))), (4, .int 1), (0, .ref y), (1, .int (nI i)), (2, .int (nI n))]) hx hb d_M_find_47 hl (by decide) rfl (fun ls hl => ?_)
            refine lv_iload hx hb d_M_find_49 (lv_at hl 0 rfl) ?_
            refine lv_if_eq (tgt := 67) hx hb d_M_find_51 (by decide) (fun c_51 => ?_) (fun c_51 => ?_)
            · refine lv_aload_n hx hb d_M_find_67 rfl (lv_at hl 4 rfl) ?_
              refine lv_iload_n hx hb d_M_find_68 rfl (lv_at hl 5 rfl) ?_
              refine lv_iload hx hb d_M_find_69 (lv_at hl 1 rfl) ?_
              refine g_calli (g_runV C hl.1 (ct_M_isAhead fi y ca (bHiS b (bHc b) h) ⟨hok.1, hok.2.1, hok.2.2.1, hok.2.2.2.1, hok.2.2.2.2.1, fun k hk9 => (hmem k hk9).1⟩ th bc cp ⟨MK, PL, AB, BE, AS, (fun k => nI (h k)), PC, PF, PT, PU, RA, KC, PK, ST, DC, DY, DS, SU, hvi, mR_hi hR (bHc b) h⟩ i (h t1) hi hm1.1 _) (cx_V C 2 wd_655 wd_657 wp_20 wd_3 wd_658 rfl rfl (by decide +kernel) ⟨Nat.le_of_ble_eq_true rfl, Nat.le_of_ble_eq_true rfl⟩) hP hvi.1 rfl rfl rfl (Nat.le_of_ble_eq_true rfl) d_M_find_71 ⟨Nat.le_of_ble_eq_true rfl, Nat.le_of_ble_eq_true rfl⟩) hP hS hA0 (fun r4 f3 H locs hq hP hS => ?_)
              obtain ⟨hzA, hu⟩ := hq
              rw [hu] at hP
              refine lv_istore (lv' := [(7, .int r4), (6, .int (cq_i (vc (bD b i) (bD b (h t1)) n))), (5, .int (nI (h t1))), (3, .int (nI (t1 + 1))), (4, .int 1), (0, .ref y), (1, .int (nI i)), (2, .int (nI n))]) hx hb d_M_find_74 hl (by decide) rfl (fun ls hl => ?_)
              refine lv_iload hx hb d_M_find_76 (lv_at hl 0 rfl) ?_
              refine lv_if_eq (tgt := 92) hx hb d_M_find_78 (by decide) (fun c_78 => ?_) (fun c_78 => ?_)
              · have hgb : ¬ gb b (some n) i (h t1) := fun z9 => z9.elim (fun z8 => by rw [c_51] at z8; exact absurd z8 (by decide)) (fun z8 => bz_f hzA c_78 z8.2)
                refine lv_iload hx hb d_M_find_92 (lv_at hl 0 rfl) ?_
                refine lv_if_eq (tgt := 105) hx hb d_M_find_94 (by decide) (fun c_94 => ?_) (fun c_94 => ?_)
                · refine lv_iconst (v := 0) hx hb d_M_find_105 (by decide) ?_
                  refine lv_istore (lv' := [(4, .int 0), (7, .int r4), (6, .int (cq_i (vc (bD b i) (bD b (h t1)) n))), (5, .int (nI (h t1))), (3, .int (nI (t1 + 1))), (0, .ref y), (1, .int (nI i)), (2, .int (nI n))]) hx hb d_M_find_106 hl (by decide) rfl (fun ls hl => ?_)
                  refine lv_goto (tgt := 16) hx hb d_M_find_108 (by decide) ?_
                  refine lv_iload hx hb d_M_find_16 (lv_at hl 0 rfl) ?_
                  refine lv_if_eq (tgt := 111) hx hb d_M_find_18 (by decide) (fun c_18 => ?_) (fun c_18 => ?_)
                  · exact tail (t1 + 1) h fi ls H locs (by omega) hvi ((iN_f (P := gb b (some n) i) hgb).symm.trans hiN) hP hS (lv_sub hl [4, 5, 6, 7] rfl)
                  · exact absurd c_18 (by decide)
                · exact absurd c_78 c_94
              · have hgb : gb b (some n) i (h t1) := Or.inr ⟨c_51, bz_t hzA c_78⟩
                refine lv_aload_n hx hb d_M_find_81 rfl (lv_at hl 5 rfl) ?_
                refine g_get C i_M hP hvi.1 rfl 9 (by decide) wd_515 rfl rfl d_M_find_82 ?_
                refine lv_iload_n hx hb d_M_find_85 rfl (lv_at hl 3 rfl) ?_
                refine lv_iload hx hb d_M_find_86 (lv_at hl 2 rfl) ?_
                refine g_iastN C hP hS hvi.2.2.2.2.2.2.1 (j := (t1 + 1)) (by omega) (by decide) d_M_find_88 (fun H locs hP hS => ?_)
                obtain ⟨g6, eg6⟩ : ∃ z99, z99 = upd (fun k => nI (h k)) (t1 + 1) (nI (h t1)) := ⟨_, rfl⟩
                rw [← eg6] at hP
                obtain ⟨f5, ef5⟩ : ∃ z99, z99 = va_up fi (ca 5) (some (aI G 40 g6)) := ⟨_, rfl⟩
                replace hP : hH G (hA f s.heap.size) f5 H := by rw [ef5]; exact hP
                have hv_f5 : mv G f5 y ca th (nI (bN b)) (nI (bRc b)) (nI (bHc b)) bc cp MK PL AB BE AS g6 PC PF PT PU RA KC PK ST DC DY DS SU := by rw [ef5]; exact mv_5 hvi _
                refine lv_iinc (v := nI t1) (lv' := [(3, .int (nI t1)), (7, .int r4), (6, .int (cq_i (vc (bD b i) (bD b (h t1)) n))), (5, .int (nI (h t1))), (4, .int 1), (0, .ref y), (1, .int (nI i)), (2, .int (nI n))]) hx hb d_M_find_89 hl (k := 3) rfl (pk_m1 _) (by decide) rfl (fun ls hl => ?_)
                refine lv_iload hx hb d_M_find_92 (lv_at hl 1 rfl) ?_
                refine lv_if_eq (tgt := 105) hx hb d_M_find_94 (by decide) (fun c_94 => ?_) (fun c_94 => ?_)
                · exact absurd c_94 c_78
                · refine lv_iload_n hx hb d_M_find_97 rfl (lv_at hl 0 rfl) ?_
                  refine lv_if_le (tgt := 105) hx hb d_M_find_98 (by decide) (fun c_98 => ?_) (fun c_98 => ?_)
                  · have ht0 : t1 = 0 := Nat.eq_zero_of_not_pos (fun z9 => nI_nle z9 (by omega) c_98)
                    subst ht0
                    have hiN2 : va_up (va_up h 1 (h 0)) 0 i = iN (gb b (some n) i) i (bHc b) (bHi b) := (iN_t (P := gb b (some n) i) hgb).symm.trans hiN
                    refine lv_iconst (v := 0) hx hb d_M_find_105 (by decide) ?_
                    refine lv_istore (lv' := [(4, .int 0), (3, .int (nI 0)), (7, .int r4), (6, .int (cq_i (vc (bD b i) (bD b (h 0)) n))), (5, .int (nI (h 0))), (0, .ref y), (1, .int (nI i)), (2, .int (nI n))]) hx hb d_M_find_106 hl (by decide) rfl (fun ls hl => ?_)
                    refine lv_goto (tgt := 16) hx hb d_M_find_108 (by decide) ?_
                    refine lv_iload hx hb d_M_find_16 (lv_at hl 0 rfl) ?_
                    refine lv_if_eq (tgt := 111) hx hb d_M_find_18 (by decide) (fun c_18 => ?_) (fun c_18 => ?_)
                    · rw [upd_nI] at eg6
                      subst eg6
                      exact tail 0 (va_up h 1 (h 0)) f5 ls H locs (by omega) hv_f5 (hiN2) hP hS (lv_sub hl [1, 5, 6, 7] rfl)
                    · exact absurd c_18 (by decide)
                  · obtain ⟨t2, rfl⟩ : ∃ t2, t1 = t2 + 1 := ⟨t1 - 1, by have : t1 ≠ 0 := fun z9 => c_98 (by rw [z9]; decide); omega⟩
                    refine lv_iconst (v := 1) hx hb d_M_find_101 (by decide) ?_
                    refine lv_goto (tgt := 106) hx hb d_M_find_102 (by decide) ?_
                    refine lv_istore (lv' := [(4, .int 1), (3, .int (nI (t2 + 1))), (7, .int r4), (6, .int (cq_i (vc (bD b i) (bD b (h (t2 + 1))) n))), (5, .int (nI (h (t2 + 1)))), (0, .ref y), (1, .int (nI i)), (2, .int (nI n))]) hx hb d_M_find_106 hl (by decide) rfl (fun ls hl => ?_)
                    refine lv_goto (tgt := 16) hx hb d_M_find_108 (by decide) ?_
                    rw [upd_nI] at eg6
                    subst eg6
                    exact ih t2 (va_up h (t2 + 1 + 1) (h (t2 + 1))) f5 ls H locs (by omega) (by omega) hv_f5 (up_all (P := fun _ z => z < bN b ∧ ∀ n2, (some n) = some n2 → pVb (bD b z) n2 ≠ 0) hmem hm1) ((iN_t (P := gb b (some n) i) hgb).symm.trans hiN) hP hS (lv_sub hl [1, 0, 5, 6, 7] rfl)
            · refine lv_iload hx hb d_M_find_54 (lv_at hl 0 rfl) ?_
              refine lv_if_ge (tgt := 63) hx hb d_M_find_56 (by decide) (fun c_56 => ?_) (fun c_56 => ?_)
              · have hgb : ¬ gb b (some n) i (h t1) := fun z9 => z9.elim (fun z8 => Int32.not_lt.mpr c_56 z8) (fun z8 => c_51 z8.1)
                refine lv_iconst (v := 0) hx hb d_M_find_63 (by decide) ?_
                refine lv_goto (tgt := 74) hx hb d_M_find_64 (by decide) ?_
                refine lv_istore (lv' := [(7, .int 0), (6, .int (cq_i (vc (bD b i) (bD b (h t1)) n))), (5, .int (nI (h t1))), (3, .int (nI (t1 + 1))), (4, .int 1), (0, .ref y), (1, .int (nI i)), (2, .int (nI n))]) hx hb d_M_find_74 hl (by decide) rfl (fun ls hl => ?_)
                refine lv_iload hx hb d_M_find_76 (lv_at hl 0 rfl) ?_
                refine lv_if_eq (tgt := 92) hx hb d_M_find_78 (by decide) (fun c_78 => ?_) (fun c_78 => ?_)
                · refine lv_iload hx hb d_M_find_92 (lv_at hl 0 rfl) ?_
                  refine lv_if_eq (tgt := 105) hx hb d_M_find_94 (by decide) (fun c_94 => ?_) (fun c_94 => ?_)
                  · refine lv_iconst (v := 0) hx hb d_M_find_105 (by decide) ?_
                    refine lv_istore (lv' := [(4, .int 0), (7, .int 0), (6, .int (cq_i (vc (bD b i) (bD b (h t1)) n))), (5, .int (nI (h t1))), (3, .int (nI (t1 + 1))), (0, .ref y), (1, .int (nI i)), (2, .int (nI n))]) hx hb d_M_find_106 hl (by decide) rfl (fun ls hl => ?_)
                    refine lv_goto (tgt := 16) hx hb d_M_find_108 (by decide) ?_
                    refine lv_iload hx hb d_M_find_16 (lv_at hl 0 rfl) ?_
                    refine lv_if_eq (tgt := 111) hx hb d_M_find_18 (by decide) (fun c_18 => ?_) (fun c_18 => ?_)
                    · exact tail (t1 + 1) h fi ls H locs (by omega) hvi ((iN_f (P := gb b (some n) i) hgb).symm.trans hiN) hP hS (lv_sub hl [4, 5, 6, 7] rfl)
                    · exact absurd c_18 (by decide)
                  · exact absurd c_94 (by decide)
                · exact absurd c_78 (by decide)
              · have hgb : gb b (some n) i (h t1) := Or.inl (Int32.not_le.mp c_56)
                refine lv_iconst (v := 1) hx hb d_M_find_59 (by decide) ?_
                refine lv_goto (tgt := 74) hx hb d_M_find_60 (by decide) ?_
                refine lv_istore (lv' := [(7, .int 1), (6, .int (cq_i (vc (bD b i) (bD b (h t1)) n))), (5, .int (nI (h t1))), (3, .int (nI (t1 + 1))), (4, .int 1), (0, .ref y), (1, .int (nI i)), (2, .int (nI n))]) hx hb d_M_find_74 hl (by decide) rfl (fun ls hl => ?_)
                refine lv_iload hx hb d_M_find_76 (lv_at hl 0 rfl) ?_
                refine lv_if_eq (tgt := 92) hx hb d_M_find_78 (by decide) (fun c_78 => ?_) (fun c_78 => ?_)
                · exact absurd c_78 (by decide)
                · refine lv_aload_n hx hb d_M_find_81 rfl (lv_at hl 5 rfl) ?_
                  refine g_get C i_M hP hvi.1 rfl 9 (by decide) wd_515 rfl rfl d_M_find_82 ?_
                  refine lv_iload_n hx hb d_M_find_85 rfl (lv_at hl 3 rfl) ?_
                  refine lv_iload hx hb d_M_find_86 (lv_at hl 2 rfl) ?_
                  refine g_iastN C hP hS hvi.2.2.2.2.2.2.1 (j := (t1 + 1)) (by omega) (by decide) d_M_find_88 (fun H locs hP hS => ?_)
                  obtain ⟨g8, eg8⟩ : ∃ z99, z99 = upd (fun k => nI (h k)) (t1 + 1) (nI (h t1)) := ⟨_, rfl⟩
                  rw [← eg8] at hP
                  obtain ⟨f7, ef7⟩ : ∃ z99, z99 = va_up fi (ca 5) (some (aI G 40 g8)) := ⟨_, rfl⟩
                  replace hP : hH G (hA f s.heap.size) f7 H := by rw [ef7]; exact hP
                  have hv_f7 : mv G f7 y ca th (nI (bN b)) (nI (bRc b)) (nI (bHc b)) bc cp MK PL AB BE AS g8 PC PF PT PU RA KC PK ST DC DY DS SU := by rw [ef7]; exact mv_5 hvi _
                  refine lv_iinc (v := nI t1) (lv' := [(3, .int (nI t1)), (7, .int 1), (6, .int (cq_i (vc (bD b i) (bD b (h t1)) n))), (5, .int (nI (h t1))), (4, .int 1), (0, .ref y), (1, .int (nI i)), (2, .int (nI n))]) hx hb d_M_find_89 hl (k := 3) rfl (pk_m1 _) (by decide) rfl (fun ls hl => ?_)
                  refine lv_iload hx hb d_M_find_92 (lv_at hl 1 rfl) ?_
                  refine lv_if_eq (tgt := 105) hx hb d_M_find_94 (by decide) (fun c_94 => ?_) (fun c_94 => ?_)
                  · exact absurd c_94 (by decide)
                  · refine lv_iload_n hx hb d_M_find_97 rfl (lv_at hl 0 rfl) ?_
                    refine lv_if_le (tgt := 105) hx hb d_M_find_98 (by decide) (fun c_98 => ?_) (fun c_98 => ?_)
                    · have ht0 : t1 = 0 := Nat.eq_zero_of_not_pos (fun z9 => nI_nle z9 (by omega) c_98)
                      subst ht0
                      have hiN2 : va_up (va_up h 1 (h 0)) 0 i = iN (gb b (some n) i) i (bHc b) (bHi b) := (iN_t (P := gb b (some n) i) hgb).symm.trans hiN
                      refine lv_iconst (v := 0) hx hb d_M_find_105 (by decide) ?_
                      refine lv_istore (lv' := [(4, .int 0), (3, .int (nI 0)), (7, .int 1), (6, .int (cq_i (vc (bD b i) (bD b (h 0)) n))), (5, .int (nI (h 0))), (0, .ref y), (1, .int (nI i)), (2, .int (nI n))]) hx hb d_M_find_106 hl (by decide) rfl (fun ls hl => ?_)
                      refine lv_goto (tgt := 16) hx hb d_M_find_108 (by decide) ?_
                      refine lv_iload hx hb d_M_find_16 (lv_at hl 0 rfl) ?_
                      refine lv_if_eq (tgt := 111) hx hb d_M_find_18 (by decide) (fun c_18 => ?_) (fun c_18 => ?_)
                      · rw [upd_nI] at eg8
                        subst eg8
                        exact tail 0 (va_up h 1 (h 0)) f7 ls H locs (by omega) hv_f7 (hiN2) hP hS (lv_sub hl [1, 5, 6, 7] rfl)
                      · exact absurd c_18 (by decide)
                    · obtain ⟨t2, rfl⟩ : ∃ t2, t1 = t2 + 1 := ⟨t1 - 1, by have : t1 ≠ 0 := fun z9 => c_98 (by rw [z9]; decide); omega⟩
                      refine lv_iconst (v := 1) hx hb d_M_find_101 (by decide) ?_
                      refine lv_goto (tgt := 106) hx hb d_M_find_102 (by decide) ?_
                      refine lv_istore (lv' := [(4, .int 1), (3, .int (nI (t2 + 1))), (7, .int 1), (6, .int (cq_i (vc (bD b i) (bD b (h (t2 + 1))) n))), (5, .int (nI (h (t2 + 1)))), (0, .ref y), (1, .int (nI i)), (2, .int (nI n))]) hx hb d_M_find_106 hl (by decide) rfl (fun ls hl => ?_)
                      refine lv_goto (tgt := 16) hx hb d_M_find_108 (by decide) ?_
                      rw [upd_nI] at eg8
                      subst eg8
                      exact ih t2 (va_up h (t2 + 1 + 1) (h (t2 + 1))) f7 ls H locs (by omega) (by omega) hv_f7 (up_all (P := fun _ z => z < bN b ∧ ∀ n2, (some n) = some n2 → pVb (bD b z) n2 ≠ 0) hmem hm1) ((iN_t (P := gb b (some n) i) hgb).symm.trans hiN) hP hS (lv_sub hl [1, 0, 5, 6, 7] rfl)
          · exact absurd (nI_pos' (by omega)) c_32
    refine lv_aload_n hx hb d_M_find_0 rfl (lv_at hl 0 rfl) ?_
    refine g_get C i_M hP hv.1 rfl 8 (by decide) wd_514 rfl rfl d_M_find_1 ?_
    refine lv_istore_n (lv' := [(3, .int (nI (bHc b))), (0, .ref y), (1, .int (nI i)), (2, .int (nI n))]) hx hb d_M_find_4 rfl hl (by decide) rfl (fun ls hl => ?_)
    refine lv_iload_n hx hb d_M_find_5 rfl (lv_at hl 0 rfl) ?_
    refine lv_if_le (tgt := 13) hx hb d_M_find_6 (by decide) (fun c_6 => ?_) (fun c_6 => ?_)
    · have q_6 : bHc b = 0 := Nat.eq_zero_of_not_pos (fun z9 => nI_nle z9 (by omega) c_6)
      refine lv_iconst (v := 0) hx hb d_M_find_13 (by decide) ?_
      refine lv_istore (lv' := [(4, .int 0), (3, .int (nI (bHc b))), (0, .ref y), (1, .int (nI i)), (2, .int (nI n))]) hx hb d_M_find_14 hl (by decide) rfl (fun ls hl => ?_)
      refine lv_iload hx hb d_M_find_16 (lv_at hl 0 rfl) ?_
      refine lv_if_eq (tgt := 111) hx hb d_M_find_18 (by decide) (fun c_18 => ?_) (fun c_18 => ?_)
      · exact tail (bHc b) (bHi b) f ls s.heap [] (by omega) hv0 (by rw [q_6]; rfl) hP hS (lv_sub hl [1, 2, 3, 4] rfl)
      · exact absurd c_18 (by decide)
    · obtain ⟨t1, et1⟩ : ∃ t1, bHc b = t1 + 1 := ⟨bHc b - 1, by have : bHc b ≠ 0 := fun z9 => c_6 (by rw [z9]; decide); omega⟩
      rw [et1] at hl
      refine lv_iconst (v := 1) hx hb d_M_find_9 (by decide) ?_
      refine lv_goto (tgt := 14) hx hb d_M_find_10 (by decide) ?_
      refine lv_istore (lv' := [(4, .int 1), (3, .int (nI (t1 + 1))), (0, .ref y), (1, .int (nI i)), (2, .int (nI n))]) hx hb d_M_find_14 hl (by decide) rfl (fun ls hl => ?_)
      exact loop 41 t1 (bHi b) f ls s.heap [] (by omega) (by omega) hv0 (fun k hk9 => ⟨hok.2.2.2.2.2 k hk9, fun n2 hn2 => (hnm n2 hn2).2.2 k hk9⟩) (by rw [et1]) hP hS (lv_sub hl [1, 0, 2, 3, 4] rfl)
set_option maxHeartbeats 4000000 in
set_option maxRecDepth 100000 in
theorem ct_M_alternates {l : Launch} {G : hG} (f : hm) (y : Nat) (ca : Nat → Nat) (b : BD) (hok : bOK b) (th : Int32) (bc : Int64) (cp : Int32) (hm : mS G f y ca b th bc cp) (p0 : Int32) (q0 : Int32) (r0 : Int32) (b1 : BD) (hK0 : I_alt b p0 q0 → True → K_alt b p0 q0 r0 b1) : ci_ l G y_M_alternates w_M_alternates { frames := 3, cells := 0, slots := 0, locals := 140 } [.ref y, .int p0, .int q0] f (fun r u => ∃ th2 b2 bc2 cp2, mS G u y ca b2 th2 bc2 cp2 ∧ mp (I_alt b p0 q0) (True) b b1 (r = r0) th2 b2) := by
  intro sz
  refine h_ofW (cc := c_M_alternates) (maxL := 4) (ret := (some .int)) (by decide) rfl (Nat.le_of_ble_eq_true rfl) ?_
  intro p e s m below meth c ls C hin hsz hP hl
  obtain ⟨hx, hb, hml, hown, -, -, -, -⟩ := id C
  subst hsz
  have hA0 : ∀ q, s.heap.size ≤ q → hA f s.heap.size q := hA.new
  have hS : va_S (hA f s.heap.size) s.heap s.heap [] := va_S.rf
  replace hl : lv_has ls 4 [(0, .ref y), (1, .int p0), (2, .int q0)] := hl
  obtain ⟨MK, PL, AB, BE, AS, FP, PC, PF, PT, PU, RA, KC, PK, ST, DC, DY, DS, SU, hv, hR⟩ := hm
  have hNN : bN b ≤ 40 := hok.1.1
  have hRC : bRc b ≤ 10 := hok.1.2.1
  have hHC : bHc b ≤ 40 := hok.1.2.2
  refine lv_aload_n hx hb d_M_alternates_0 rfl (lv_at hl 0 rfl) ?_
  refine lv_aload_n hx hb d_M_alternates_1 rfl (lv_at hl 0 rfl) ?_
  refine lv_iload_n hx hb d_M_alternates_2 rfl (lv_at hl 1 rfl) ?_
  refine g_calli (g_runV C hl.1 (ct_M_isPart f y ca b hok th bc cp ⟨MK, PL, AB, BE, AS, FP, PC, PF, PT, PU, RA, KC, PK, ST, DC, DY, DS, SU, hv, hR⟩ p0 _) (cx_V C 1 wd_605 wd_607 wp_14 wd_3 wd_608 rfl rfl (by decide +kernel) ⟨Nat.le_of_ble_eq_true rfl, Nat.le_of_ble_eq_true rfl⟩) hP hv.1 rfl rfl rfl (Nat.le_of_ble_eq_true rfl) d_M_alternates_3 ⟨Nat.le_of_ble_eq_true rfl, Nat.le_of_ble_eq_true rfl⟩) hP hS hA0 (fun r2 f1 H locs hq hP hS => ?_)
  obtain ⟨hzP, hu⟩ := hq
  rw [hu] at hP
  refine lv_if_eq (tgt := 21) hx hb d_M_alternates_6 (by decide) (fun c_6 => ?_) (fun c_6 => ?_)
  · refine lv_iconst (v := 1) hx hb d_M_alternates_21 (by decide) ?_
    have hB : ¬ (I_alt b p0 q0) := fun z9 => by first | exact bz_f hzP c_6 z9.1 | exact bz_f hzR c_14 z9.2
    refine g_put C i_M t_M t_M_ok n_M hP hS hv.1 rfl 0 (by decide) wd_506 rfl rfl rfl (rfl) (Nat.le_of_ble_eq_true rfl) d_M_alternates_22 (fun H locs hP hS => ?_)
    obtain ⟨f3, ef3⟩ : ∃ z99, z99 = va_up f y (some (ob 4 [.int 1, .int (nI (bN b)), .ref (ca 0), .ref (ca 1), .ref (ca 2), .ref (ca 3), .int (nI (bRc b)), .ref (ca 4), .int (nI (bHc b)), .ref (ca 5), .ref (ca 6), .ref (ca 7), .ref (ca 8), .ref (ca 9), .ref (ca 10), .ref (ca 11), .ref (ca 12), .ref (ca 13), .ref (ca 14), .ref (ca 15), .ref (ca 16), .ref (ca 17), .long bc, .int cp])) := ⟨_, rfl⟩
    replace hP : hH G (hA f s.heap.size) f3 H := by rw [ef3]; exact hP
    have hv_f3 : mv G f3 y ca 1 (nI (bN b)) (nI (bRc b)) (nI (bHc b)) bc cp MK PL AB BE AS FP PC PF PT PU RA KC PK ST DC DY DS SU := by rw [ef3]; exact mv_y hv _ _ _ _ _ _
    refine lv_aload_n hx hb d_M_alternates_25 rfl (lv_at hl 0 rfl) ?_
    refine g_get C i_M hP hv_f3.1 rfl 0 (by decide) wd_506 rfl rfl d_M_alternates_26 ?_
    refine lv_if_eq (tgt := 34) hx hb d_M_alternates_29 (by decide) (fun c_29 => ?_) (fun c_29 => ?_)
    · exact absurd c_29 (by decide)
    · refine lv_iconst (v := 0) hx hb d_M_alternates_32 (by decide) ?_
      exact g_iret C hP hS (⟨1, b, bc, cp, ⟨MK, PL, AB, BE, AS, FP, PC, PF, PT, PU, RA, KC, PK, ST, DC, DY, DS, SU, hv_f3, hR⟩, Or.inr (Or.inr ⟨hB, rfl, rfl⟩)⟩) (Nat.le_of_ble_eq_true rfl) (Nat.le_of_ble_eq_true rfl) d_M_alternates_33
  · refine lv_aload_n hx hb d_M_alternates_9 rfl (lv_at hl 0 rfl) ?_
    refine lv_iload_n hx hb d_M_alternates_10 rfl (lv_at hl 2 rfl) ?_
    refine g_calli (g_runV C hl.1 (ct_M_isRule f y ca b hok th bc cp ⟨MK, PL, AB, BE, AS, FP, PC, PF, PT, PU, RA, KC, PK, ST, DC, DY, DS, SU, hv, hR⟩ q0 _) (cx_V C 1 wd_632 wd_634 wp_16 wd_3 wd_635 rfl rfl (by decide +kernel) ⟨Nat.le_of_ble_eq_true rfl, Nat.le_of_ble_eq_true rfl⟩) hP hv.1 rfl rfl rfl (Nat.le_of_ble_eq_true rfl) d_M_alternates_11 ⟨Nat.le_of_ble_eq_true rfl, Nat.le_of_ble_eq_true rfl⟩) hP hS hA0 (fun r5 f4 H locs hq hP hS => ?_)
    obtain ⟨hzR, hu⟩ := hq
    rw [hu] at hP
    refine lv_if_eq (tgt := 21) hx hb d_M_alternates_14 (by decide) (fun c_14 => ?_) (fun c_14 => ?_)
    · refine lv_iconst (v := 1) hx hb d_M_alternates_21 (by decide) ?_
      have hB : ¬ (I_alt b p0 q0) := fun z9 => by first | exact bz_f hzP c_6 z9.1 | exact bz_f hzR c_14 z9.2
      refine g_put C i_M t_M t_M_ok n_M hP hS hv.1 rfl 0 (by decide) wd_506 rfl rfl rfl (rfl) (Nat.le_of_ble_eq_true rfl) d_M_alternates_22 (fun H locs hP hS => ?_)
      obtain ⟨f6, ef6⟩ : ∃ z99, z99 = va_up f y (some (ob 4 [.int 1, .int (nI (bN b)), .ref (ca 0), .ref (ca 1), .ref (ca 2), .ref (ca 3), .int (nI (bRc b)), .ref (ca 4), .int (nI (bHc b)), .ref (ca 5), .ref (ca 6), .ref (ca 7), .ref (ca 8), .ref (ca 9), .ref (ca 10), .ref (ca 11), .ref (ca 12), .ref (ca 13), .ref (ca 14), .ref (ca 15), .ref (ca 16), .ref (ca 17), .long bc, .int cp])) := ⟨_, rfl⟩
      replace hP : hH G (hA f s.heap.size) f6 H := by rw [ef6]; exact hP
      have hv_f6 : mv G f6 y ca 1 (nI (bN b)) (nI (bRc b)) (nI (bHc b)) bc cp MK PL AB BE AS FP PC PF PT PU RA KC PK ST DC DY DS SU := by rw [ef6]; exact mv_y hv _ _ _ _ _ _
      refine lv_aload_n hx hb d_M_alternates_25 rfl (lv_at hl 0 rfl) ?_
      refine g_get C i_M hP hv_f6.1 rfl 0 (by decide) wd_506 rfl rfl d_M_alternates_26 ?_
      refine lv_if_eq (tgt := 34) hx hb d_M_alternates_29 (by decide) (fun c_29 => ?_) (fun c_29 => ?_)
      · exact absurd c_29 (by decide)
      · refine lv_iconst (v := 0) hx hb d_M_alternates_32 (by decide) ?_
        exact g_iret C hP hS (⟨1, b, bc, cp, ⟨MK, PL, AB, BE, AS, FP, PC, PF, PT, PU, RA, KC, PK, ST, DC, DY, DS, SU, hv_f6, hR⟩, Or.inr (Or.inr ⟨hB, rfl, rfl⟩)⟩) (Nat.le_of_ble_eq_true rfl) (Nat.le_of_ble_eq_true rfl) d_M_alternates_33
    · refine lv_iconst (v := 0) hx hb d_M_alternates_17 (by decide) ?_
      refine lv_goto (tgt := 22) hx hb d_M_alternates_18 (by decide) ?_
      have hI : I_alt b p0 q0 := ⟨bz_t hzP c_6, bz_t hzR c_14⟩
      have hN : True := trivial
      obtain ⟨i, j, F, hi, rfl, hj, rfl, hF, rfl, rfl⟩ := hK0 hI hN
      refine g_put C i_M t_M t_M_ok n_M hP hS hv.1 rfl 0 (by decide) wd_506 rfl rfl rfl (rfl) (Nat.le_of_ble_eq_true rfl) d_M_alternates_22 (fun H locs hP hS => ?_)
      obtain ⟨f7, ef7⟩ : ∃ z99, z99 = va_up f y (some (ob 4 [.int 0, .int (nI (bN b)), .ref (ca 0), .ref (ca 1), .ref (ca 2), .ref (ca 3), .int (nI (bRc b)), .ref (ca 4), .int (nI (bHc b)), .ref (ca 5), .ref (ca 6), .ref (ca 7), .ref (ca 8), .ref (ca 9), .ref (ca 10), .ref (ca 11), .ref (ca 12), .ref (ca 13), .ref (ca 14), .ref (ca 15), .ref (ca 16), .ref (ca 17), .long bc, .int cp])) := ⟨_, rfl⟩
      replace hP : hH G (hA f s.heap.size) f7 H := by rw [ef7]; exact hP
      have hv_f7 : mv G f7 y ca 0 (nI (bN b)) (nI (bRc b)) (nI (bHc b)) bc cp MK PL AB BE AS FP PC PF PT PU RA KC PK ST DC DY DS SU := by rw [ef7]; exact mv_y hv _ _ _ _ _ _
      refine lv_aload_n hx hb d_M_alternates_25 rfl (lv_at hl 0 rfl) ?_
      refine g_get C i_M hP hv_f7.1 rfl 0 (by decide) wd_506 rfl rfl d_M_alternates_26 ?_
      refine lv_if_eq (tgt := 34) hx hb d_M_alternates_29 (by decide) (fun c_29 => ?_) (fun c_29 => ?_)
      · refine lv_aload_n hx hb d_M_alternates_34 rfl (lv_at hl 0 rfl) ?_
        refine lv_iconst (v := 0) hx hb d_M_alternates_35 (by decide) ?_
        refine g_put C i_M t_M t_M_ok n_M hP hS hv_f7.1 rfl 8 (by decide) wd_514 rfl rfl rfl (rfl) (Nat.le_of_ble_eq_true rfl) d_M_alternates_36 (fun H locs hP hS => ?_)
        obtain ⟨f8, ef8⟩ : ∃ z99, z99 = va_up f7 y (some (ob 4 [.int 0, .int (nI (bN b)), .ref (ca 0), .ref (ca 1), .ref (ca 2), .ref (ca 3), .int (nI (bRc b)), .ref (ca 4), .int 0, .ref (ca 5), .ref (ca 6), .ref (ca 7), .ref (ca 8), .ref (ca 9), .ref (ca 10), .ref (ca 11), .ref (ca 12), .ref (ca 13), .ref (ca 14), .ref (ca 15), .ref (ca 16), .ref (ca 17), .long bc, .int cp])) := ⟨_, rfl⟩
        replace hP : hH G (hA f s.heap.size) f8 H := by rw [ef8]; exact hP
        have hv_f8 : mv G f8 y ca 0 (nI (bN b)) (nI (bRc b)) 0 bc cp MK PL AB BE AS FP PC PF PT PU RA KC PK ST DC DY DS SU := by rw [ef8]; exact mv_y hv_f7 _ _ _ _ _ _
        refine lv_iconst (v := 0) hx hb d_M_alternates_39 (by decide) ?_
        refine lv_istore_n (lv' := [(3, .int 0), (0, .ref y), (1, .int (nI i)), (2, .int (nI j))]) hx hb d_M_alternates_40 rfl hl (by decide) rfl (fun ls hl => ?_)
        have loop : ∀ (d k : Nat) (fi : hm) (ls : Array Slot) (H : Heap) (locs : List Loc), bN b < k + d → k ≤ bN b → mS G fi y ca (bHiS b (fH (fun k => AL b k i j) (gb b none) (bHi b) k).1 (fH (fun k => AL b k i j) (gb b none) (bHi b) k).2) 0 bc cp → hH G (hA f s.heap.size) fi H → va_S (hA f s.heap.size) s.heap H locs → lv_has ls 4 [(3, .int (nI k)), (0, .ref y), (1, .int (nI i)), (2, .int (nI j))] → W p l e { frames := 3, cells := 0, slots := 0, locals := 140 } s m #[.ref y, .int (nI i), .int (nI j)] below meth c H locs 0 0 (MQ below (va_Qi (fun r u => ∃ th2 b2 bc2 cp2, mS G u y ca b2 th2 bc2 cp2 ∧ mp (I_alt b (nI i) (nI j)) (True) b (bHiS b F.1 F.2) (r = nI F.1) th2 b2) (hB G (hA f s.heap.size)) (hA f s.heap.size)) #[.ref y, .int (nI i), .int (nI j)] s 0 0 (hA f s.heap.size)) (F0 m 41 ls []) := by
          intro d
          induction d with
          | zero => intro k fi ls H locs h1 h2; exact absurd h1 (by omega)
          | succ d ih =>
            intro k fi ls H locs h1 h2 hmF hP hS hl
            obtain ⟨MK, PL, AB, BE, AS, FP, PC, PF, PT, PU, RA, KC, PK, ST, DC, DY, DS, SU, hvF0, hRF⟩ := hmF
            have hvF : mv G fi y ca 0 (nI (bN b)) (nI (bRc b)) (nI (fH (fun k => AL b k i j) (gb b none) (bHi b) k).1) bc cp MK PL AB BE AS FP PC PF PT PU RA KC PK ST DC DY DS SU := hvF0
            have hokF : bOK (bHiS b (fH (fun k => AL b k i j) (gb b none) (bHi b) k).1 (fH (fun k => AL b k i j) (gb b none) (bHi b) k).2) := ⟨⟨hok.1.1, hok.1.2.1, by have := (fH_mem (P := (fun k => AL b k i j)) (Q := (gb b none)) (h0 := bHi b) k).1; show (fH (fun k => AL b k i j) (gb b none) (bHi b) k).1 ≤ 40; omega⟩, hok.2.1, hok.2.2.1, hok.2.2.2.1, hok.2.2.2.2.1, fun z hz => Nat.lt_of_lt_of_le ((fH_mem (P := (fun k => AL b k i j)) (Q := (gb b none)) (h0 := bHi b) k).2 z hz).1 h2⟩
            refine lv_iload_n hx hb d_M_alternates_41 rfl (lv_at hl 0 rfl) ?_
            refine lv_aload_n hx hb d_M_alternates_42 rfl (lv_at hl 1 rfl) ?_
            refine g_get C i_M hP hvF.1 rfl 1 (by decide) wd_507 rfl rfl d_M_alternates_43 ?_
            refine lv_icmp_ge (tgt := 71) hx hb d_M_alternates_46 (by decide) (fun c_46 => ?_) (fun c_46 => ?_)
            · have q_1 : k = bN b := by have := (nI_leI (by omega) (by omega)).mp c_46; omega
              refine lv_aload_n hx hb d_M_alternates_71 rfl (lv_at hl 1 rfl) ?_
              refine g_get C i_M hP hvF.1 rfl 8 (by decide) wd_514 rfl rfl d_M_alternates_72 ?_
              subst q_1
              subst hF
              exact g_iret C hP hS (⟨0, (bHiS b (fH (fun k => AL b k i j) (gb b none) (bHi b) (bN b)).1 (fH (fun k => AL b k i j) (gb b none) (bHi b) (bN b)).2), bc, cp, ⟨MK, PL, AB, BE, AS, FP, PC, PF, PT, PU, RA, KC, PK, ST, DC, DY, DS, SU, hvF, hRF⟩, Or.inl ⟨hI, hN, rfl, rfl, rfl⟩⟩) (Nat.le_of_ble_eq_true rfl) (Nat.le_of_ble_eq_true rfl) d_M_alternates_75
            · have hkk : k < bN b := Nat.lt_of_not_le (fun z9 => c_46 ((nI_leI (by omega) (by omega)).mpr z9))
              refine lv_aload_n hx hb d_M_alternates_49 rfl (lv_at hl 1 rfl) ?_
              refine lv_iload_n hx hb d_M_alternates_50 rfl (lv_at hl 0 rfl) ?_
              refine lv_iload_n hx hb d_M_alternates_51 rfl (lv_at hl 2 rfl) ?_
              refine lv_iload_n hx hb d_M_alternates_52 rfl (lv_at hl 3 rfl) ?_
              refine g_calli (g_runV C hl.1 (ct_M_isAlternate fi y ca (bHiS b (fH (fun k => AL b k i j) (gb b none) (bHi b) k).1 (fH (fun k => AL b k i j) (gb b none) (bHi b) k).2) hokF 0 bc cp ⟨MK, PL, AB, BE, AS, FP, PC, PF, PT, PU, RA, KC, PK, ST, DC, DY, DS, SU, hvF, hRF⟩ k i j hkk hi hj _) (cx_V C 3 wd_640 wd_642 wp_17 wd_3 wd_643 rfl rfl (by decide +kernel) ⟨Nat.le_of_ble_eq_true rfl, Nat.le_of_ble_eq_true rfl⟩) hP hvF.1 rfl rfl rfl (Nat.le_of_ble_eq_true rfl) d_M_alternates_53 ⟨Nat.le_of_ble_eq_true rfl, Nat.le_of_ble_eq_true rfl⟩) hP hS hA0 (fun r2 f1 H locs hq hP hS => ?_)
              obtain ⟨hz, hu⟩ := hq
              rw [hu] at hP
              refine lv_if_eq (tgt := 65) hx hb d_M_alternates_56 (by decide) (fun c_56 => ?_) (fun c_56 => ?_)
              · have hmN : mS G fi y ca (bHiS b (fH (fun k => AL b k i j) (gb b none) (bHi b) (k + 1)).1 (fH (fun k => AL b k i j) (gb b none) (bHi b) (k + 1)).2) 0 bc cp := by rw [fH_f (P := (fun k => AL b k i j)) (i := k) (show ¬ AL b k i j from bz_f hz c_56)]; exact ⟨MK, PL, AB, BE, AS, FP, PC, PF, PT, PU, RA, KC, PK, ST, DC, DY, DS, SU, hvF, hRF⟩
                refine lv_iinc (v := nI (k + 1)) (lv' := [(3, .int (nI (k + 1))), (0, .ref y), (1, .int (nI i)), (2, .int (nI j))]) hx hb d_M_alternates_65 hl (k := 0) rfl (nI_1 k) (by decide) rfl (fun ls hl => ?_)
                refine lv_goto (tgt := 41) hx hb d_M_alternates_68 (by decide) ?_
                exact ih (k + 1) fi ls H locs (by omega) (by omega) hmN hP hS (lv_sub hl [0, 1, 2, 3] rfl)
              · refine lv_aload_n hx hb d_M_alternates_59 rfl (lv_at hl 1 rfl) ?_
                refine lv_iload_n hx hb d_M_alternates_60 rfl (lv_at hl 0 rfl) ?_
                refine lv_iconst (v := (-1)) hx hb d_M_alternates_61 (by decide) ?_
                refine g_callv (g_runV C hl.1 (ct_M_find fi y ca (bHiS b (fH (fun k => AL b k i j) (gb b none) (bHi b) k).1 (fH (fun k => AL b k i j) (gb b none) (bHi b) k).2) hokF 0 bc cp ⟨MK, PL, AB, BE, AS, FP, PC, PF, PT, PU, RA, KC, PK, ST, DC, DY, DS, SU, hvF, hRF⟩ k hkk none (by have := (fH_mem (P := (fun k => AL b k i j)) (Q := (gb b none)) (h0 := bHi b) k).1; show (fH (fun k => AL b k i j) (gb b none) (bHi b) k).1 < 40; omega) (fun n hn => by cases hn) _) (cx_V C 2 wd_651 wd_653 wp_19 wd_3 wd_654 rfl rfl (by decide +kernel) ⟨Nat.le_of_ble_eq_true rfl, Nat.le_of_ble_eq_true rfl⟩) hP hvF.1 rfl rfl rfl (Nat.le_of_ble_eq_true rfl) d_M_alternates_62 ⟨Nat.le_of_ble_eq_true rfl, Nat.le_of_ble_eq_true rfl⟩) hP hS hA0 (fun f3 H locs hq hP hS => ?_)
                have hmN : mS G f3 y ca (bHiS b (fH (fun k => AL b k i j) (gb b none) (bHi b) (k + 1)).1 (fH (fun k => AL b k i j) (gb b none) (bHi b) (k + 1)).2) 0 bc cp := by rw [fH_t (P := (fun k => AL b k i j)) (i := k) (show AL b k i j from bz_t hz c_56)]; exact hq
                refine lv_iinc (v := nI (k + 1)) (lv' := [(3, .int (nI (k + 1))), (0, .ref y), (1, .int (nI i)), (2, .int (nI j))]) hx hb d_M_alternates_65 hl (k := 0) rfl (nI_1 k) (by decide) rfl (fun ls hl => ?_)
                refine lv_goto (tgt := 41) hx hb d_M_alternates_68 (by decide) ?_
                exact ih (k + 1) f3 ls H locs (by omega) (by omega) hmN hP hS (lv_sub hl [0, 1, 2, 3] rfl)
        exact loop 41 0 f8 ls H locs (by omega) (Nat.zero_le _) ⟨MK, PL, AB, BE, AS, (fun k => nI (bHi b k)), PC, PF, PT, PU, RA, KC, PK, ST, DC, DY, DS, SU, (by rw [← hR.1.2.1]; exact hv_f8), mR_hi hR 0 (bHi b)⟩ hP hS (lv_sub hl [0, 1, 2, 3] rfl)
      · exact absurd c_29 (by decide)
set_option maxHeartbeats 4000000 in
set_option maxRecDepth 100000 in
theorem ct_M_search {l : Launch} {G : hG} (f : hm) (y : Nat) (ca : Nat → Nat) (b : BD) (hok : bOK b) (th : Int32) (bc : Int64) (cp : Int32) (hm : mS G f y ca b th bc cp) (n0 : Int32) (x0 : Int64) (y0 : Int64) (z0 : Int64) (w0 : Int64) (r0 : Int32) (b1 : BD) (hK0 : okx n0 12 → N_search x0 y0 z0 w0 → K_search b n0 x0 y0 z0 w0 r0 b1) : ci_ l G y_M_search w_M_search { frames := 3, cells := 0, slots := 0, locals := 140 } [.ref y, .int n0, .long x0, .long y0, .long z0, .long w0] f (fun r u => ∃ th2 b2 bc2 cp2, mS G u y ca b2 th2 bc2 cp2 ∧ mp (okx n0 12) (N_search x0 y0 z0 w0) b b1 (r = r0) th2 b2) := by
  intro sz
  refine h_ofW (cc := c_M_search) (maxL := 12) (ret := (some .int)) (by decide) rfl (Nat.le_of_ble_eq_true rfl) ?_
  intro p e s m below meth c ls C hin hsz hP hl
  obtain ⟨hx, hb, hml, hown, -, -, -, -⟩ := id C
  subst hsz
  have hA0 : ∀ q, s.heap.size ≤ q → hA f s.heap.size q := hA.new
  have hS : va_S (hA f s.heap.size) s.heap s.heap [] := va_S.rf
  replace hl : lv_has ls 12 [(0, .ref y), (1, .int n0), (2, .long x0), (4, .long y0), (6, .long z0), (8, .long w0)] := hl
  obtain ⟨MK, PL, AB, BE, AS, FP, PC, PF, PT, PU, RA, KC, PK, ST, DC, DY, DS, SU, hv, hR⟩ := hm
  have hNN : bN b ≤ 40 := hok.1.1
  have hRC : bRc b ≤ 10 := hok.1.2.1
  have hHC : bHc b ≤ 40 := hok.1.2.2
  refine lv_aload_n hx hb d_M_search_0 rfl (lv_at hl 0 rfl) ?_
  refine lv_iload_n hx hb d_M_search_1 rfl (lv_at hl 1 rfl) ?_
  refine g_calli (g_runS C hl.1 (ct_M_isName f n0 _) (cx_S C 1 wd_609 wd_610 wd_3 wd_611 rfl rfl (by decide +kernel) ⟨Nat.le_of_ble_eq_true rfl, Nat.le_of_ble_eq_true rfl⟩) hP rfl rfl (Nat.le_of_ble_eq_true rfl) d_M_search_2 ⟨Nat.le_of_ble_eq_true rfl, Nat.le_of_ble_eq_true rfl⟩) hP hS hA0 (fun r2 f1 H locs hq hP hS => ?_)
  obtain ⟨hzN, hu⟩ := hq
  rw [hu] at hP
  refine lv_if_ne (tgt := 12) hx hb d_M_search_5 (by decide) (fun c_5 => ?_) (fun c_5 => ?_)
  · refine lv_lload_n hx hb d_M_search_12 rfl (lv_at hl 2 rfl) ?_
    refine g_calli (g_runS C hl.1 (ct_M_isAbove f x0 _) (cx_S C 1 wd_597 wd_598 wd_3 wd_599 rfl rfl (by decide +kernel) ⟨Nat.le_of_ble_eq_true rfl, Nat.le_of_ble_eq_true rfl⟩) hP rfl rfl (Nat.le_of_ble_eq_true rfl) d_M_search_13 ⟨Nat.le_of_ble_eq_true rfl, Nat.le_of_ble_eq_true rfl⟩) hP hS hA0 (fun r4 f3 H locs hq hP hS => ?_)
    obtain ⟨hz1, hu⟩ := hq
    rw [hu] at hP
    refine lv_if_eq (tgt := 47) hx hb d_M_search_16 (by decide) (fun c_16 => ?_) (fun c_16 => ?_)
    · refine lv_iconst (v := 2) hx hb d_M_search_47 (by decide) ?_
      have hI : okx n0 12 := bz_t hzN c_5
      have hB : ¬ (N_search x0 y0 z0 w0) := fun z9 => by first | exact bz_f hz1 c_16 z9.1.1 | exact bz_f hz2 c_24 z9.2.1 | exact bz_f hz3 c_32 z9.1.2 | exact bz_f hz4 c_40 z9.2.2
      refine g_put C i_M t_M t_M_ok n_M hP hS hv.1 rfl 0 (by decide) wd_506 rfl rfl rfl (rfl) (Nat.le_of_ble_eq_true rfl) d_M_search_48 (fun H locs hP hS => ?_)
      obtain ⟨f5, ef5⟩ : ∃ z99, z99 = va_up f y (some (ob 4 [.int 2, .int (nI (bN b)), .ref (ca 0), .ref (ca 1), .ref (ca 2), .ref (ca 3), .int (nI (bRc b)), .ref (ca 4), .int (nI (bHc b)), .ref (ca 5), .ref (ca 6), .ref (ca 7), .ref (ca 8), .ref (ca 9), .ref (ca 10), .ref (ca 11), .ref (ca 12), .ref (ca 13), .ref (ca 14), .ref (ca 15), .ref (ca 16), .ref (ca 17), .long bc, .int cp])) := ⟨_, rfl⟩
      replace hP : hH G (hA f s.heap.size) f5 H := by rw [ef5]; exact hP
      have hv_f5 : mv G f5 y ca 2 (nI (bN b)) (nI (bRc b)) (nI (bHc b)) bc cp MK PL AB BE AS FP PC PF PT PU RA KC PK ST DC DY DS SU := by rw [ef5]; exact mv_y hv _ _ _ _ _ _
      refine lv_aload_n hx hb d_M_search_51 rfl (lv_at hl 0 rfl) ?_
      refine g_get C i_M hP hv_f5.1 rfl 0 (by decide) wd_506 rfl rfl d_M_search_52 ?_
      refine lv_if_eq (tgt := 60) hx hb d_M_search_55 (by decide) (fun c_55 => ?_) (fun c_55 => ?_)
      · exact absurd c_55 (by decide)
      · refine lv_iconst (v := 0) hx hb d_M_search_58 (by decide) ?_
        exact g_iret C hP hS (⟨2, b, bc, cp, ⟨MK, PL, AB, BE, AS, FP, PC, PF, PT, PU, RA, KC, PK, ST, DC, DY, DS, SU, hv_f5, hR⟩, Or.inr (Or.inl ⟨hI, hB, rfl, rfl⟩)⟩) (Nat.le_of_ble_eq_true rfl) (Nat.le_of_ble_eq_true rfl) d_M_search_59
    · refine lv_lload hx hb d_M_search_19 (lv_at hl 4 rfl) ?_
      refine g_calli (g_runS C hl.1 (ct_M_isAbove f z0 _) (cx_S C 1 wd_597 wd_598 wd_3 wd_599 rfl rfl (by decide +kernel) ⟨Nat.le_of_ble_eq_true rfl, Nat.le_of_ble_eq_true rfl⟩) hP rfl rfl (Nat.le_of_ble_eq_true rfl) d_M_search_21 ⟨Nat.le_of_ble_eq_true rfl, Nat.le_of_ble_eq_true rfl⟩) hP hS hA0 (fun r7 f6 H locs hq hP hS => ?_)
      obtain ⟨hz2, hu⟩ := hq
      rw [hu] at hP
      refine lv_if_eq (tgt := 47) hx hb d_M_search_24 (by decide) (fun c_24 => ?_) (fun c_24 => ?_)
      · refine lv_iconst (v := 2) hx hb d_M_search_47 (by decide) ?_
        have hI : okx n0 12 := bz_t hzN c_5
        have hB : ¬ (N_search x0 y0 z0 w0) := fun z9 => by first | exact bz_f hz1 c_16 z9.1.1 | exact bz_f hz2 c_24 z9.2.1 | exact bz_f hz3 c_32 z9.1.2 | exact bz_f hz4 c_40 z9.2.2
        refine g_put C i_M t_M t_M_ok n_M hP hS hv.1 rfl 0 (by decide) wd_506 rfl rfl rfl (rfl) (Nat.le_of_ble_eq_true rfl) d_M_search_48 (fun H locs hP hS => ?_)
        obtain ⟨f8, ef8⟩ : ∃ z99, z99 = va_up f y (some (ob 4 [.int 2, .int (nI (bN b)), .ref (ca 0), .ref (ca 1), .ref (ca 2), .ref (ca 3), .int (nI (bRc b)), .ref (ca 4), .int (nI (bHc b)), .ref (ca 5), .ref (ca 6), .ref (ca 7), .ref (ca 8), .ref (ca 9), .ref (ca 10), .ref (ca 11), .ref (ca 12), .ref (ca 13), .ref (ca 14), .ref (ca 15), .ref (ca 16), .ref (ca 17), .long bc, .int cp])) := ⟨_, rfl⟩
        replace hP : hH G (hA f s.heap.size) f8 H := by rw [ef8]; exact hP
        have hv_f8 : mv G f8 y ca 2 (nI (bN b)) (nI (bRc b)) (nI (bHc b)) bc cp MK PL AB BE AS FP PC PF PT PU RA KC PK ST DC DY DS SU := by rw [ef8]; exact mv_y hv _ _ _ _ _ _
        refine lv_aload_n hx hb d_M_search_51 rfl (lv_at hl 0 rfl) ?_
        refine g_get C i_M hP hv_f8.1 rfl 0 (by decide) wd_506 rfl rfl d_M_search_52 ?_
        refine lv_if_eq (tgt := 60) hx hb d_M_search_55 (by decide) (fun c_55 => ?_) (fun c_55 => ?_)
        · exact absurd c_55 (by decide)
        · refine lv_iconst (v := 0) hx hb d_M_search_58 (by decide) ?_
          exact g_iret C hP hS (⟨2, b, bc, cp, ⟨MK, PL, AB, BE, AS, FP, PC, PF, PT, PU, RA, KC, PK, ST, DC, DY, DS, SU, hv_f8, hR⟩, Or.inr (Or.inl ⟨hI, hB, rfl, rfl⟩)⟩) (Nat.le_of_ble_eq_true rfl) (Nat.le_of_ble_eq_true rfl) d_M_search_59
      · refine lv_lload hx hb d_M_search_27 (lv_at hl 3 rfl) ?_
        refine g_calli (g_runS C hl.1 (ct_M_isBelow f y0 _) (cx_S C 1 wd_601 wd_602 wd_3 wd_603 rfl rfl (by decide +kernel) ⟨Nat.le_of_ble_eq_true rfl, Nat.le_of_ble_eq_true rfl⟩) hP rfl rfl (Nat.le_of_ble_eq_true rfl) d_M_search_29 ⟨Nat.le_of_ble_eq_true rfl, Nat.le_of_ble_eq_true rfl⟩) hP hS hA0 (fun r10 f9 H locs hq hP hS => ?_)
        obtain ⟨hz3, hu⟩ := hq
        rw [hu] at hP
        refine lv_if_eq (tgt := 47) hx hb d_M_search_32 (by decide) (fun c_32 => ?_) (fun c_32 => ?_)
        · refine lv_iconst (v := 2) hx hb d_M_search_47 (by decide) ?_
          have hI : okx n0 12 := bz_t hzN c_5
          have hB : ¬ (N_search x0 y0 z0 w0) := fun z9 => by first | exact bz_f hz1 c_16 z9.1.1 | exact bz_f hz2 c_24 z9.2.1 | exact bz_f hz3 c_32 z9.1.2 | exact bz_f hz4 c_40 z9.2.2
          refine g_put C i_M t_M t_M_ok n_M hP hS hv.1 rfl 0 (by decide) wd_506 rfl rfl rfl (rfl) (Nat.le_of_ble_eq_true rfl) d_M_search_48 (fun H locs hP hS => ?_)
          obtain ⟨f11, ef11⟩ : ∃ z99, z99 = va_up f y (some (ob 4 [.int 2, .int (nI (bN b)), .ref (ca 0), .ref (ca 1), .ref (ca 2), .ref (ca 3), .int (nI (bRc b)), .ref (ca 4), .int (nI (bHc b)), .ref (ca 5), .ref (ca 6), .ref (ca 7), .ref (ca 8), .ref (ca 9), .ref (ca 10), .ref (ca 11), .ref (ca 12), .ref (ca 13), .ref (ca 14), .ref (ca 15), .ref (ca 16), .ref (ca 17), .long bc, .int cp])) := ⟨_, rfl⟩
          replace hP : hH G (hA f s.heap.size) f11 H := by rw [ef11]; exact hP
          have hv_f11 : mv G f11 y ca 2 (nI (bN b)) (nI (bRc b)) (nI (bHc b)) bc cp MK PL AB BE AS FP PC PF PT PU RA KC PK ST DC DY DS SU := by rw [ef11]; exact mv_y hv _ _ _ _ _ _
          refine lv_aload_n hx hb d_M_search_51 rfl (lv_at hl 0 rfl) ?_
          refine g_get C i_M hP hv_f11.1 rfl 0 (by decide) wd_506 rfl rfl d_M_search_52 ?_
          refine lv_if_eq (tgt := 60) hx hb d_M_search_55 (by decide) (fun c_55 => ?_) (fun c_55 => ?_)
          · exact absurd c_55 (by decide)
          · refine lv_iconst (v := 0) hx hb d_M_search_58 (by decide) ?_
            exact g_iret C hP hS (⟨2, b, bc, cp, ⟨MK, PL, AB, BE, AS, FP, PC, PF, PT, PU, RA, KC, PK, ST, DC, DY, DS, SU, hv_f11, hR⟩, Or.inr (Or.inl ⟨hI, hB, rfl, rfl⟩)⟩) (Nat.le_of_ble_eq_true rfl) (Nat.le_of_ble_eq_true rfl) d_M_search_59
        · refine lv_lload hx hb d_M_search_35 (lv_at hl 5 rfl) ?_
          refine g_calli (g_runS C hl.1 (ct_M_isBelow f w0 _) (cx_S C 1 wd_601 wd_602 wd_3 wd_603 rfl rfl (by decide +kernel) ⟨Nat.le_of_ble_eq_true rfl, Nat.le_of_ble_eq_true rfl⟩) hP rfl rfl (Nat.le_of_ble_eq_true rfl) d_M_search_37 ⟨Nat.le_of_ble_eq_true rfl, Nat.le_of_ble_eq_true rfl⟩) hP hS hA0 (fun r13 f12 H locs hq hP hS => ?_)
          obtain ⟨hz4, hu⟩ := hq
          rw [hu] at hP
          refine lv_if_eq (tgt := 47) hx hb d_M_search_40 (by decide) (fun c_40 => ?_) (fun c_40 => ?_)
          · refine lv_iconst (v := 2) hx hb d_M_search_47 (by decide) ?_
            have hI : okx n0 12 := bz_t hzN c_5
            have hB : ¬ (N_search x0 y0 z0 w0) := fun z9 => by first | exact bz_f hz1 c_16 z9.1.1 | exact bz_f hz2 c_24 z9.2.1 | exact bz_f hz3 c_32 z9.1.2 | exact bz_f hz4 c_40 z9.2.2
            refine g_put C i_M t_M t_M_ok n_M hP hS hv.1 rfl 0 (by decide) wd_506 rfl rfl rfl (rfl) (Nat.le_of_ble_eq_true rfl) d_M_search_48 (fun H locs hP hS => ?_)
            obtain ⟨f14, ef14⟩ : ∃ z99, z99 = va_up f y (some (ob 4 [.int 2, .int (nI (bN b)), .ref (ca 0), .ref (ca 1), .ref (ca 2), .ref (ca 3), .int (nI (bRc b)), .ref (ca 4), .int (nI (bHc b)), .ref (ca 5), .ref (ca 6), .ref (ca 7), .ref (ca 8), .ref (ca 9), .ref (ca 10), .ref (ca 11), .ref (ca 12), .ref (ca 13), .ref (ca 14), .ref (ca 15), .ref (ca 16), .ref (ca 17), .long bc, .int cp])) := ⟨_, rfl⟩
            replace hP : hH G (hA f s.heap.size) f14 H := by rw [ef14]; exact hP
            have hv_f14 : mv G f14 y ca 2 (nI (bN b)) (nI (bRc b)) (nI (bHc b)) bc cp MK PL AB BE AS FP PC PF PT PU RA KC PK ST DC DY DS SU := by rw [ef14]; exact mv_y hv _ _ _ _ _ _
            refine lv_aload_n hx hb d_M_search_51 rfl (lv_at hl 0 rfl) ?_
            refine g_get C i_M hP hv_f14.1 rfl 0 (by decide) wd_506 rfl rfl d_M_search_52 ?_
            refine lv_if_eq (tgt := 60) hx hb d_M_search_55 (by decide) (fun c_55 => ?_) (fun c_55 => ?_)
            · exact absurd c_55 (by decide)
            · refine lv_iconst (v := 0) hx hb d_M_search_58 (by decide) ?_
              exact g_iret C hP hS (⟨2, b, bc, cp, ⟨MK, PL, AB, BE, AS, FP, PC, PF, PT, PU, RA, KC, PK, ST, DC, DY, DS, SU, hv_f14, hR⟩, Or.inr (Or.inl ⟨hI, hB, rfl, rfl⟩)⟩) (Nat.le_of_ble_eq_true rfl) (Nat.le_of_ble_eq_true rfl) d_M_search_59
          · refine lv_iconst (v := 0) hx hb d_M_search_43 (by decide) ?_
            refine lv_goto (tgt := 48) hx hb d_M_search_44 (by decide) ?_
            have hI : okx n0 12 := bz_t hzN c_5
            have hN : N_search x0 y0 z0 w0 := ⟨⟨bz_t hz1 c_16, bz_t hz3 c_32⟩, ⟨bz_t hz2 c_24, bz_t hz4 c_40⟩⟩
            obtain ⟨j, a9, c9, d9, e9, F, hj, rfl, ha9, rfl, hc1, hc2, rfl, hd9, rfl, he1, he2, rfl, hF, rfl, rfl⟩ := hK0 hI hN
            refine g_put C i_M t_M t_M_ok n_M hP hS hv.1 rfl 0 (by decide) wd_506 rfl rfl rfl (rfl) (Nat.le_of_ble_eq_true rfl) d_M_search_48 (fun H locs hP hS => ?_)
            obtain ⟨f15, ef15⟩ : ∃ z99, z99 = va_up f y (some (ob 4 [.int 0, .int (nI (bN b)), .ref (ca 0), .ref (ca 1), .ref (ca 2), .ref (ca 3), .int (nI (bRc b)), .ref (ca 4), .int (nI (bHc b)), .ref (ca 5), .ref (ca 6), .ref (ca 7), .ref (ca 8), .ref (ca 9), .ref (ca 10), .ref (ca 11), .ref (ca 12), .ref (ca 13), .ref (ca 14), .ref (ca 15), .ref (ca 16), .ref (ca 17), .long bc, .int cp])) := ⟨_, rfl⟩
            replace hP : hH G (hA f s.heap.size) f15 H := by rw [ef15]; exact hP
            have hv_f15 : mv G f15 y ca 0 (nI (bN b)) (nI (bRc b)) (nI (bHc b)) bc cp MK PL AB BE AS FP PC PF PT PU RA KC PK ST DC DY DS SU := by rw [ef15]; exact mv_y hv _ _ _ _ _ _
            refine lv_aload_n hx hb d_M_search_51 rfl (lv_at hl 0 rfl) ?_
            refine g_get C i_M hP hv_f15.1 rfl 0 (by decide) wd_506 rfl rfl d_M_search_52 ?_
            refine lv_if_eq (tgt := 60) hx hb d_M_search_55 (by decide) (fun c_55 => ?_) (fun c_55 => ?_)
            · refine lv_aload_n hx hb d_M_search_60 rfl (lv_at hl 0 rfl) ?_
              refine lv_iconst (v := 0) hx hb d_M_search_61 (by decide) ?_
              refine g_put C i_M t_M t_M_ok n_M hP hS hv_f15.1 rfl 8 (by decide) wd_514 rfl rfl rfl (rfl) (Nat.le_of_ble_eq_true rfl) d_M_search_62 (fun H locs hP hS => ?_)
              obtain ⟨f16, ef16⟩ : ∃ z99, z99 = va_up f15 y (some (ob 4 [.int 0, .int (nI (bN b)), .ref (ca 0), .ref (ca 1), .ref (ca 2), .ref (ca 3), .int (nI (bRc b)), .ref (ca 4), .int 0, .ref (ca 5), .ref (ca 6), .ref (ca 7), .ref (ca 8), .ref (ca 9), .ref (ca 10), .ref (ca 11), .ref (ca 12), .ref (ca 13), .ref (ca 14), .ref (ca 15), .ref (ca 16), .ref (ca 17), .long bc, .int cp])) := ⟨_, rfl⟩
              replace hP : hH G (hA f s.heap.size) f16 H := by rw [ef16]; exact hP
              have hv_f16 : mv G f16 y ca 0 (nI (bN b)) (nI (bRc b)) 0 bc cp MK PL AB BE AS FP PC PF PT PU RA KC PK ST DC DY DS SU := by rw [ef16]; exact mv_y hv_f15 _ _ _ _ _ _
              refine lv_iconst (v := 0) hx hb d_M_search_65 (by decide) ?_
              refine lv_istore (lv' := [(10, .int 0), (0, .ref y), (1, .int (nI j)), (2, .long (lN a9)), (4, .long (lN c9)), (6, .long (lN d9)), (8, .long (lN e9))]) hx hb d_M_search_66 hl (by decide) rfl (fun ls hl => ?_)
              have loop : ∀ (d k : Nat) (fi : hm) (ls : Array Slot) (H : Heap) (locs : List Loc), bN b < k + d → k ≤ bN b → mS G fi y ca (bHiS b (fH (sP b j a9 c9 d9 e9) (gb b (some j)) (bHi b) k).1 (fH (sP b j a9 c9 d9 e9) (gb b (some j)) (bHi b) k).2) 0 bc cp → hH G (hA f s.heap.size) fi H → va_S (hA f s.heap.size) s.heap H locs → lv_has ls 12 [(10, .int (nI k)), (0, .ref y), (1, .int (nI j)), (2, .long (lN a9)), (4, .long (lN c9)), (6, .long (lN d9)), (8, .long (lN e9))] → W p l e { frames := 3, cells := 0, slots := 0, locals := 140 } s m #[.ref y, .int (nI j), .long (lN a9), .long (lN c9), .long (lN d9), .long (lN e9)] below meth c H locs 0 0 (MQ below (va_Qi (fun r u => ∃ th2 b2 bc2 cp2, mS G u y ca b2 th2 bc2 cp2 ∧ mp (okx (nI j) 12) (N_search (lN a9) (lN c9) (lN d9) (lN e9)) b (bHiS b F.1 F.2) (r = nI F.1) th2 b2) (hB G (hA f s.heap.size)) (hA f s.heap.size)) #[.ref y, .int (nI j), .long (lN a9), .long (lN c9), .long (lN d9), .long (lN e9)] s 0 0 (hA f s.heap.size)) (F0 m 68 ls []) := by
                intro d
                induction d with
                | zero => intro k fi ls H locs h1 h2; exact absurd h1 (by omega)
                | succ d ih =>
                  intro k fi ls H locs h1 h2 hmF hP hS hl
                  obtain ⟨MK, PL, AB, BE, AS, FP, PC, PF, PT, PU, RA, KC, PK, ST, DC, DY, DS, SU, hvF0, hRF⟩ := hmF
                  have hvF : mv G fi y ca 0 (nI (bN b)) (nI (bRc b)) (nI (fH (sP b j a9 c9 d9 e9) (gb b (some j)) (bHi b) k).1) bc cp MK PL AB BE AS FP PC PF PT PU RA KC PK ST DC DY DS SU := hvF0
                  have hokF : bOK (bHiS b (fH (sP b j a9 c9 d9 e9) (gb b (some j)) (bHi b) k).1 (fH (sP b j a9 c9 d9 e9) (gb b (some j)) (bHi b) k).2) := ⟨⟨hok.1.1, hok.1.2.1, by have := (fH_mem (P := (sP b j a9 c9 d9 e9)) (Q := (gb b (some j))) (h0 := bHi b) k).1; show (fH (sP b j a9 c9 d9 e9) (gb b (some j)) (bHi b) k).1 ≤ 40; omega⟩, hok.2.1, hok.2.2.1, hok.2.2.2.1, hok.2.2.2.2.1, fun z hz => Nat.lt_of_lt_of_le ((fH_mem (P := (sP b j a9 c9 d9 e9)) (Q := (gb b (some j))) (h0 := bHi b) k).2 z hz).1 h2⟩
                  refine lv_iload hx hb d_M_search_68 (lv_at hl 0 rfl) ?_
                  refine lv_aload_n hx hb d_M_search_70 rfl (lv_at hl 1 rfl) ?_
                  refine g_get C i_M hP hvF.1 rfl 1 (by decide) wd_507 rfl rfl d_M_search_71 ?_
                  refine lv_icmp_ge (tgt := 156) hx hb d_M_search_74 (by decide) (fun c_74 => ?_) (fun c_74 => ?_)
                  · have q_1 : k = bN b := by have := (nI_leI (by omega) (by omega)).mp c_74; omega
                    refine lv_aload_n hx hb d_M_search_156 rfl (lv_at hl 1 rfl) ?_
                    refine g_get C i_M hP hvF.1 rfl 8 (by decide) wd_514 rfl rfl d_M_search_157 ?_
                    subst q_1
                    subst hF
                    exact g_iret C hP hS (⟨0, (bHiS b (fH (sP b j a9 c9 d9 e9) (gb b (some j)) (bHi b) (bN b)).1 (fH (sP b j a9 c9 d9 e9) (gb b (some j)) (bHi b) (bN b)).2), bc, cp, ⟨MK, PL, AB, BE, AS, FP, PC, PF, PT, PU, RA, KC, PK, ST, DC, DY, DS, SU, hvF, hRF⟩, Or.inl ⟨hI, hN, rfl, rfl, rfl⟩⟩) (Nat.le_of_ble_eq_true rfl) (Nat.le_of_ble_eq_true rfl) d_M_search_160
                  · have hkk : k < bN b := Nat.lt_of_not_le (fun z9 => c_74 ((nI_leI (by omega) (by omega)).mpr z9))
                    have hDk := hok.2.1 k hkk
                    refine lv_bipush (v := 12) hx hb d_M_search_77 (by decide) ?_
                    refine lv_iload hx hb d_M_search_79 (lv_at hl 0 rfl) ?_
                    refine lv_imul hx hb d_M_search_81 ?_
                    refine g_eqi (y := nI (12 * k)) (pk_mul _ _) ?_
                    refine lv_iload_n hx hb d_M_search_82 rfl (lv_at hl 2 rfl) ?_
                    refine lv_iadd hx hb d_M_search_83 ?_
                    refine g_eqi (y := nI (12 * k + j)) (nI_add _ _) ?_
                    refine lv_istore (lv' := [(11, .int (nI (12 * k + j))), (10, .int (nI k)), (0, .ref y), (1, .int (nI j)), (2, .long (lN a9)), (4, .long (lN c9)), (6, .long (lN d9)), (8, .long (lN e9))]) hx hb d_M_search_84 hl (by decide) rfl (fun ls hl => ?_)
                    refine lv_aload_n hx hb d_M_search_86 rfl (lv_at hl 2 rfl) ?_
                    refine lv_iload hx hb d_M_search_87 (lv_at hl 1 rfl) ?_
                    refine lv_iload_n hx hb d_M_search_89 rfl (lv_at hl 3 rfl) ?_
                    refine g_calli (g_runV C hl.1 (ct_M_hasValue fi y ca (bHiS b (fH (sP b j a9 c9 d9 e9) (gb b (some j)) (bHi b) k).1 (fH (sP b j a9 c9 d9 e9) (gb b (some j)) (bHi b) k).2) hokF 0 bc cp ⟨MK, PL, AB, BE, AS, FP, PC, PF, PT, PU, RA, KC, PK, ST, DC, DY, DS, SU, hvF, hRF⟩ k j hkk hj _) (cx_V C 2 wd_620 wd_622 wp_15 wd_3 wd_623 rfl rfl (by decide +kernel) ⟨Nat.le_of_ble_eq_true rfl, Nat.le_of_ble_eq_true rfl⟩) hP hvF.1 rfl rfl rfl (Nat.le_of_ble_eq_true rfl) d_M_search_90 ⟨Nat.le_of_ble_eq_true rfl, Nat.le_of_ble_eq_true rfl⟩) hP hS hA0 (fun r2 f1 H locs hq hP hS => ?_)
                    obtain ⟨hz, hu⟩ := hq
                    rw [hu] at hP
                    refine lv_if_eq (tgt := 150) hx hb d_M_search_93 (by decide) (fun c_93 => ?_) (fun c_93 => ?_)
                    · have hmN : mS G fi y ca (bHiS b (fH (sP b j a9 c9 d9 e9) (gb b (some j)) (bHi b) (k + 1)).1 (fH (sP b j a9 c9 d9 e9) (gb b (some j)) (bHi b) (k + 1)).2) 0 bc cp := by rw [fH_f (P := (sP b j a9 c9 d9 e9)) (i := k) (show ¬ sP b j a9 c9 d9 e9 k from fun z9 => bz_f hz c_93 z9.1)]; exact ⟨MK, PL, AB, BE, AS, FP, PC, PF, PT, PU, RA, KC, PK, ST, DC, DY, DS, SU, hvF, hRF⟩
                      refine lv_iinc (v := nI (k + 1)) (lv' := [(10, .int (nI (k + 1))), (11, .int (nI (12 * k + j))), (0, .ref y), (1, .int (nI j)), (2, .long (lN a9)), (4, .long (lN c9)), (6, .long (lN d9)), (8, .long (lN e9))]) hx hb d_M_search_150 hl (k := 1) rfl (nI_1 k) (by decide) rfl (fun ls hl => ?_)
                      refine lv_goto (tgt := 68) hx hb d_M_search_153 (by decide) ?_
                      exact ih (k + 1) fi ls H locs (by omega) (by omega) hmN hP hS (lv_sub hl [0, 2, 3, 4, 5, 6, 7] rfl)
                    · have q_1 : pVb (bD b k) j ≠ 0 := bz_t hz c_93
                      refine lv_aload_n hx hb d_M_search_96 rfl (lv_at hl 2 rfl) ?_
                      refine g_get C i_M hP hvF.1 rfl 4 (by decide) wd_510 rfl rfl d_M_search_97 ?_
                      refine lv_iload hx hb d_M_search_100 (lv_at hl 0 rfl) ?_
                      refine g_laldN C hP hvF.2.2.2.1 (j := (12 * k + j)) (by omega) (by decide) d_M_search_102 ?_
                      refine g_eql (y := lN (pVa (bD b k) j)) (((hRF.2.1 k hkk).2 j hj).1.trans (if_neg q_1)) ?_
                      refine lv_aload_n hx hb d_M_search_103 rfl (lv_at hl 2 rfl) ?_
                      refine g_get C i_M hP hvF.1 rfl 5 (by decide) wd_511 rfl rfl d_M_search_104 ?_
                      refine lv_iload hx hb d_M_search_107 (lv_at hl 0 rfl) ?_
                      refine g_laldN C hP hvF.2.2.2.2.1 (j := (12 * k + j)) (by omega) (by decide) d_M_search_109 ?_
                      refine g_eql (y := lN (pVb (bD b k) j)) (((hRF.2.1 k hkk).2 j hj).2 q_1) ?_
                      refine lv_lload_n hx hb d_M_search_110 rfl (lv_at hl 4 rfl) ?_
                      refine lv_lload hx hb d_M_search_111 (lv_at hl 5 rfl) ?_
                      refine g_calli (g_runS C hl.1 (ct_M_compare fi (pVa (bD b k) j) (pVb (bD b k) j) a9 c9 (hDk.2.1 j).1 (Nat.pos_of_ne_zero q_1) (Nat.lt_trans (hDk.2.1 j).2 (by decide)) (by omega) (by omega) (by omega) _) (cx_S C 4 wd_648 wd_649 wd_3 wd_650 rfl rfl (by decide +kernel) ⟨Nat.le_of_ble_eq_true rfl, Nat.le_of_ble_eq_true rfl⟩) hP rfl rfl (Nat.le_of_ble_eq_true rfl) d_M_search_113 ⟨Nat.le_of_ble_eq_true rfl, Nat.le_of_ble_eq_true rfl⟩) hP hS hA0 (fun r4 f3 H locs hq hP hS => ?_)
                      obtain ⟨rfl, hu⟩ := hq
                      rw [hu] at hP
                      refine lv_if_lt (tgt := 150) hx hb d_M_search_116 (by decide) (fun c_116 => ?_) (fun c_116 => ?_)
                      · have hmN : mS G fi y ca (bHiS b (fH (sP b j a9 c9 d9 e9) (gb b (some j)) (bHi b) (k + 1)).1 (fH (sP b j a9 c9 d9 e9) (gb b (some j)) (bHi b) (k + 1)).2) 0 bc cp := by rw [fH_f (P := (sP b j a9 c9 d9 e9)) (i := k) (show ¬ sP b j a9 c9 d9 e9 k from fun z9 => z9.2.1 c_116)]; exact ⟨MK, PL, AB, BE, AS, FP, PC, PF, PT, PU, RA, KC, PK, ST, DC, DY, DS, SU, hvF, hRF⟩
                        refine lv_iinc (v := nI (k + 1)) (lv' := [(10, .int (nI (k + 1))), (11, .int (nI (12 * k + j))), (0, .ref y), (1, .int (nI j)), (2, .long (lN a9)), (4, .long (lN c9)), (6, .long (lN d9)), (8, .long (lN e9))]) hx hb d_M_search_150 hl (k := 1) rfl (nI_1 k) (by decide) rfl (fun ls hl => ?_)
                        refine lv_goto (tgt := 68) hx hb d_M_search_153 (by decide) ?_
                        exact ih (k + 1) fi ls H locs (by omega) (by omega) hmN hP hS (lv_sub hl [0, 2, 3, 4, 5, 6, 7] rfl)
                      · refine lv_aload_n hx hb d_M_search_119 rfl (lv_at hl 2 rfl) ?_
                        refine g_get C i_M hP hvF.1 rfl 4 (by decide) wd_510 rfl rfl d_M_search_120 ?_
                        refine lv_iload hx hb d_M_search_123 (lv_at hl 0 rfl) ?_
                        refine g_laldN C hP hvF.2.2.2.1 (j := (12 * k + j)) (by omega) (by decide) d_M_search_125 ?_
                        refine g_eql (y := lN (pVa (bD b k) j)) (((hRF.2.1 k hkk).2 j hj).1.trans (if_neg q_1)) ?_
                        refine lv_aload_n hx hb d_M_search_126 rfl (lv_at hl 2 rfl) ?_
                        refine g_get C i_M hP hvF.1 rfl 5 (by decide) wd_511 rfl rfl d_M_search_127 ?_
                        refine lv_iload hx hb d_M_search_130 (lv_at hl 0 rfl) ?_
                        refine g_laldN C hP hvF.2.2.2.2.1 (j := (12 * k + j)) (by omega) (by decide) d_M_search_132 ?_
                        refine g_eql (y := lN (pVb (bD b k) j)) (((hRF.2.1 k hkk).2 j hj).2 q_1) ?_
                        refine lv_lload hx hb d_M_search_133 (lv_at hl 6 rfl) ?_
                        refine lv_lload hx hb d_M_search_135 (lv_at hl 7 rfl) ?_
                        refine g_calli (g_runS C hl.1 (ct_M_compare fi (pVa (bD b k) j) (pVb (bD b k) j) d9 e9 (hDk.2.1 j).1 (Nat.pos_of_ne_zero q_1) (Nat.lt_trans (hDk.2.1 j).2 (by decide)) (by omega) (by omega) (by omega) _) (cx_S C 4 wd_648 wd_649 wd_3 wd_650 rfl rfl (by decide +kernel) ⟨Nat.le_of_ble_eq_true rfl, Nat.le_of_ble_eq_true rfl⟩) hP rfl rfl (Nat.le_of_ble_eq_true rfl) d_M_search_137 ⟨Nat.le_of_ble_eq_true rfl, Nat.le_of_ble_eq_true rfl⟩) hP hS hA0 (fun r6 f5 H locs hq hP hS => ?_)
                        obtain ⟨rfl, hu⟩ := hq
                        rw [hu] at hP
                        refine lv_if_gt (tgt := 150) hx hb d_M_search_140 (by decide) (fun c_140 => ?_) (fun c_140 => ?_)
                        · have hmN : mS G fi y ca (bHiS b (fH (sP b j a9 c9 d9 e9) (gb b (some j)) (bHi b) (k + 1)).1 (fH (sP b j a9 c9 d9 e9) (gb b (some j)) (bHi b) (k + 1)).2) 0 bc cp := by rw [fH_f (P := (sP b j a9 c9 d9 e9)) (i := k) (show ¬ sP b j a9 c9 d9 e9 k from fun z9 => z9.2.2 c_140)]; exact ⟨MK, PL, AB, BE, AS, FP, PC, PF, PT, PU, RA, KC, PK, ST, DC, DY, DS, SU, hvF, hRF⟩
                          refine lv_iinc (v := nI (k + 1)) (lv' := [(10, .int (nI (k + 1))), (11, .int (nI (12 * k + j))), (0, .ref y), (1, .int (nI j)), (2, .long (lN a9)), (4, .long (lN c9)), (6, .long (lN d9)), (8, .long (lN e9))]) hx hb d_M_search_150 hl (k := 1) rfl (nI_1 k) (by decide) rfl (fun ls hl => ?_)
                          refine lv_goto (tgt := 68) hx hb d_M_search_153 (by decide) ?_
                          exact ih (k + 1) fi ls H locs (by omega) (by omega) hmN hP hS (lv_sub hl [0, 2, 3, 4, 5, 6, 7] rfl)
                        · refine lv_aload_n hx hb d_M_search_143 rfl (lv_at hl 2 rfl) ?_
                          refine lv_iload hx hb d_M_search_144 (lv_at hl 1 rfl) ?_
                          refine lv_iload_n hx hb d_M_search_146 rfl (lv_at hl 3 rfl) ?_
                          refine g_callv (g_runV C hl.1 (ct_M_find fi y ca (bHiS b (fH (sP b j a9 c9 d9 e9) (gb b (some j)) (bHi b) k).1 (fH (sP b j a9 c9 d9 e9) (gb b (some j)) (bHi b) k).2) hokF 0 bc cp ⟨MK, PL, AB, BE, AS, FP, PC, PF, PT, PU, RA, KC, PK, ST, DC, DY, DS, SU, hvF, hRF⟩ k hkk (some j) (by have := (fH_mem (P := (sP b j a9 c9 d9 e9)) (Q := (gb b (some j))) (h0 := bHi b) k).1; show (fH (sP b j a9 c9 d9 e9) (gb b (some j)) (bHi b) k).1 < 40; omega) (fun n hn => by cases hn; exact ⟨hj, q_1, fun z hz => ((fH_mem (P := (sP b j a9 c9 d9 e9)) (Q := (gb b (some j))) (h0 := bHi b) k).2 z hz).2.1⟩) _) (cx_V C 2 wd_651 wd_653 wp_19 wd_3 wd_654 rfl rfl (by decide +kernel) ⟨Nat.le_of_ble_eq_true rfl, Nat.le_of_ble_eq_true rfl⟩) hP hvF.1 rfl rfl rfl (Nat.le_of_ble_eq_true rfl) d_M_search_147 ⟨Nat.le_of_ble_eq_true rfl, Nat.le_of_ble_eq_true rfl⟩) hP hS hA0 (fun f7 H locs hq hP hS => ?_)
                          have hmN : mS G f7 y ca (bHiS b (fH (sP b j a9 c9 d9 e9) (gb b (some j)) (bHi b) (k + 1)).1 (fH (sP b j a9 c9 d9 e9) (gb b (some j)) (bHi b) (k + 1)).2) 0 bc cp := by rw [fH_t (P := (sP b j a9 c9 d9 e9)) (i := k) (show sP b j a9 c9 d9 e9 k from ⟨q_1, c_116, c_140⟩)]; exact hq
                          refine lv_iinc (v := nI (k + 1)) (lv' := [(10, .int (nI (k + 1))), (11, .int (nI (12 * k + j))), (0, .ref y), (1, .int (nI j)), (2, .long (lN a9)), (4, .long (lN c9)), (6, .long (lN d9)), (8, .long (lN e9))]) hx hb d_M_search_150 hl (k := 1) rfl (nI_1 k) (by decide) rfl (fun ls hl => ?_)
                          refine lv_goto (tgt := 68) hx hb d_M_search_153 (by decide) ?_
                          exact ih (k + 1) f7 ls H locs (by omega) (by omega) hmN hP hS (lv_sub hl [0, 2, 3, 4, 5, 6, 7] rfl)
              exact loop 41 0 f16 ls H locs (by omega) (Nat.zero_le _) ⟨MK, PL, AB, BE, AS, (fun k => nI (bHi b k)), PC, PF, PT, PU, RA, KC, PK, ST, DC, DY, DS, SU, (by rw [← hR.1.2.1]; exact hv_f16), mR_hi hR 0 (bHi b)⟩ hP hS (lv_sub hl [0, 1, 2, 3, 4, 5, 6] rfl)
            · exact absurd c_55 (by decide)
  · refine lv_iconst (v := 1) hx hb d_M_search_8 (by decide) ?_
    refine lv_goto (tgt := 48) hx hb d_M_search_9 (by decide) ?_
    have hB : ¬ (okx n0 12) := fun z9 => bz_f hzN c_5 z9
    refine g_put C i_M t_M t_M_ok n_M hP hS hv.1 rfl 0 (by decide) wd_506 rfl rfl rfl (rfl) (Nat.le_of_ble_eq_true rfl) d_M_search_48 (fun H locs hP hS => ?_)
    obtain ⟨f17, ef17⟩ : ∃ z99, z99 = va_up f y (some (ob 4 [.int 1, .int (nI (bN b)), .ref (ca 0), .ref (ca 1), .ref (ca 2), .ref (ca 3), .int (nI (bRc b)), .ref (ca 4), .int (nI (bHc b)), .ref (ca 5), .ref (ca 6), .ref (ca 7), .ref (ca 8), .ref (ca 9), .ref (ca 10), .ref (ca 11), .ref (ca 12), .ref (ca 13), .ref (ca 14), .ref (ca 15), .ref (ca 16), .ref (ca 17), .long bc, .int cp])) := ⟨_, rfl⟩
    replace hP : hH G (hA f s.heap.size) f17 H := by rw [ef17]; exact hP
    have hv_f17 : mv G f17 y ca 1 (nI (bN b)) (nI (bRc b)) (nI (bHc b)) bc cp MK PL AB BE AS FP PC PF PT PU RA KC PK ST DC DY DS SU := by rw [ef17]; exact mv_y hv _ _ _ _ _ _
    refine lv_aload_n hx hb d_M_search_51 rfl (lv_at hl 0 rfl) ?_
    refine g_get C i_M hP hv_f17.1 rfl 0 (by decide) wd_506 rfl rfl d_M_search_52 ?_
    refine lv_if_eq (tgt := 60) hx hb d_M_search_55 (by decide) (fun c_55 => ?_) (fun c_55 => ?_)
    · exact absurd c_55 (by decide)
    · refine lv_iconst (v := 0) hx hb d_M_search_58 (by decide) ?_
      exact g_iret C hP hS (⟨1, b, bc, cp, ⟨MK, PL, AB, BE, AS, FP, PC, PF, PT, PU, RA, KC, PK, ST, DC, DY, DS, SU, hv_f17, hR⟩, Or.inr (Or.inr ⟨hB, rfl, rfl⟩)⟩) (Nat.le_of_ble_eq_true rfl) (Nat.le_of_ble_eq_true rfl) d_M_search_59
