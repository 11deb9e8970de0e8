/-! PartBook: cheapest, chosenFor, cost, best, choose, buy, the constructor. -/
theorem oC_m {o : Option (Nat × Nat)} (h : oC o = -1) (hs : ∀ p, o = some p → p.2 < 2 ^ 63) : o = none := by
  rcases o with _ | p
  · rfl
  · exact absurd h (lN_nm1 (hs p rfl))
theorem OF_lt {b : BD} {i q : Nat} {d : Int64} {o : Nat × Nat} (hD : pOK (bD b i)) (hra : ∀ j, j < 4 → 1 ≤ bRa b j ∧ bRa b j ≤ 1000000) (h : OF b i q d (some o)) : BT (bRa b) (bD b i) q (some o) ∧ o.2 < 2 ^ 63 ∧ o.1 ≤ pPc (bD b i) := by
  obtain ⟨v, -, h⟩ := h
  rcases h with ⟨-, h⟩ | ⟨-, h⟩
  · refine ⟨h, ?_⟩
    obtain ⟨k, hk, hc, e, -⟩ := h
    have h1 := cst_lt (ra := bRa b) (T := o.1) hD hra (Nat.le_trans hc.2.1 hD.1.2.1) hk
    exact ⟨by omega, hc.2.1⟩
  · cases h
set_option maxHeartbeats 4000000 in
set_option maxRecDepth 100000 in
theorem ct_B_cheapest {l : Launch} {G : hG} (f : hm) (x : Nat) (a : AD) (b : BD) (hk : bk G f x a b) (i : Nat) (hi : i < bN b) (ru : Nat) (hru : ru < bRc b) (q : Nat) (hq1 : 1 ≤ q) (hq2 : q ≤ 10000) (d : Int64) : cq_ l G y_B_cheapest w_B_cheapest { frames := 5, cells := 0, slots := 0, locals := 200 } [.ref x, .ref (aAd a i 0), .int (nI ru), .int (nI q), .long d] f (fun r u => (∃ o, CH b i ru q d o ∧ r = o.map (fun p => aAd a p 0)) ∧ u = f) := by
  intro sz
  refine h_ofW (cc := c_B_cheapest) (maxL := 13) (ret := (some (.object "PartBook$Part"))) (by decide) rfl (Nat.le_of_ble_eq_true rfl) ?_
  intro p e s m below meth c ls C hin hsz hP hl
  obtain ⟨hx, hb, hml, hown, -, -, -, -⟩ := id C
  subst hsz
  have hA0 : ∀ q, s.heap.size ≤ q → hA f s.heap.size q := hA.new
  have hS : va_S (hA f s.heap.size) s.heap s.heap [] := va_S.rf
  replace hl : lv_has ls 13 [(0, .ref x), (1, .ref (aAd a i 0)), (2, .int (nI ru)), (3, .int (nI q)), (4, .long d)] := hl
  have hNN : bN b ≤ 40 := hk.2.2.2.2.1.1
  have hRC : bRc b ≤ 10 := hk.2.2.2.2.1.2.1
  have hHC : bHc b ≤ 40 := hk.2.2.2.2.1.2.2
  have hpi_ := hk.2.1 i hi
  have hDi_ := hk.2.2.2.2.2.1 i hi
  have hra := hk.2.2.2.2.2.2.2.2.1
  have loop : ∀ (dd k : Nat) (o : Option Nat) (L : Int64) (ls : Array Slot) (H : Heap) (locs : List Loc), bN b < k + dd → k ≤ bN b → CHr b i ru q d (fun p => p < bN b ∧ (p = i ∨ (p < k ∧ AL b p i ru))) o → (∀ p o1, o = some p → OF b p q d (some o1) → L = lN o1.2) → hH G (hA f s.heap.size) f H → va_S (hA f s.heap.size) s.heap H locs → lv_has ls 13 [(9, .int (nI k)), (6, .long L), (8, va_rf (o.map (fun p => aAd a p 0))), (0, .ref x), (1, .ref (aAd a i 0)), (2, .int (nI ru)), (3, .int (nI q)), (4, .long d)] → W p l e { frames := 5, cells := 0, slots := 0, locals := 200 } s m #[.ref x, .ref (aAd a i 0), .int (nI ru), .int (nI q), .long d] below meth c H locs 0 0 (MQ below (va_Qq (fun r u => (∃ o, CH b i ru q d o ∧ r = o.map (fun p => aAd a p 0)) ∧ u = f) (hB G (hA f s.heap.size)) (hA f s.heap.size)) #[.ref x, .ref (aAd a i 0), .int (nI ru), .int (nI q), .long d] s 0 0 (hA f s.heap.size)) (F0 m 29 ls []) := by
    intro dd
    induction dd with
    | zero => intro k o L ls H locs h1 h2; exact absurd h1 (by omega)
    | succ dd ih =>
      intro k o L ls H locs h1 h2 hCH hL hP hS hl
      rcases o with _ | p0
      · replace hl : lv_has ls 13 [(9, .int (nI k)), (6, .long L), (8, .null), (0, .ref x), (1, .ref (aAd a i 0)), (2, .int (nI ru)), (3, .int (nI q)), (4, .long d)] := hl
        refine lv_iload hx hb d_B_cheapest_29 (lv_at hl 0 rfl) ?_
        refine lv_aload_n hx hb d_B_cheapest_31 rfl (lv_at hl 3 rfl) ?_
        refine g_get C i_B hP hk.1.1 rfl 1 (by decide) wd_32 rfl rfl d_B_cheapest_32 ?_
        refine lv_icmp_ge (tgt := 130) hx hb d_B_cheapest_35 (by decide) (fun c_35 => ?_) (fun c_35 => ?_)
        · have q_1 : k = bN b := by have := (nI_leI (by omega) (by omega)).mp c_35; omega
          refine lv_aloadN hx hb d_B_cheapest_130 (lv_at hl 2 rfl) ?_
          exact g_qret (v := none) C hP hS (⟨⟨none, by rw [q_1] at hCH; have h7 : (fun p => p < bN b ∧ (p = i ∨ (p < bN b ∧ AL b p i ru))) = (fun p => p < bN b ∧ (p = i ∨ AL b p i ru)) := funext fun p => propext ⟨fun hp => ⟨hp.1, hp.2.imp id (fun z => z.2)⟩, fun hp => ⟨hp.1, hp.2.imp id (fun z => ⟨hp.1, z⟩)⟩⟩; rw [h7] at hCH; exact hCH, rfl⟩, rfl⟩) (Nat.le_of_ble_eq_true rfl) (Nat.le_of_ble_eq_true rfl) d_B_cheapest_132
        · have hkk : k < bN b := Nat.lt_of_not_le (fun z9 => c_35 ((nI_leI (by omega) (by omega)).mpr z9))
          have hpk_ := hk.2.1 k hkk
          have hDk_ := hk.2.2.2.2.2.1 k hkk
          refine lv_aload_n hx hb d_B_cheapest_38 rfl (lv_at hl 3 rfl) ?_
          refine g_get C i_B hP hk.1.1 rfl 0 (by decide) wd_31 rfl rfl d_B_cheapest_39 ?_
          refine lv_iload hx hb d_B_cheapest_42 (lv_at hl 0 rfl) ?_
          refine g_aaldN C hP hk.1.2.1 (j := k) (by omega) (by decide) d_B_cheapest_44 ?_
          refine g_eqq (y := aAd a k 0) (if_pos hkk) ?_
          refine lv_astore (lv' := [(10, .ref (aAd a k 0)), (9, .int (nI k)), (6, .long L), (8, .null), (0, .ref x), (1, .ref (aAd a i 0)), (2, .int (nI ru)), (3, .int (nI q)), (4, .long d)]) hx hb d_B_cheapest_45 hl (by decide) rfl (fun ls hl => ?_)
          refine lv_aload_n hx hb d_B_cheapest_47 rfl (lv_at hl 4 rfl) ?_
          refine lv_aload hx hb d_B_cheapest_48 (lv_at hl 0 rfl) ?_
          refine lv_aload_n hx hb d_B_cheapest_50 rfl (lv_at hl 5 rfl) ?_
          refine lv_iload_n hx hb d_B_cheapest_51 rfl (lv_at hl 6 rfl) ?_
          refine g_calli (g_runV C hl.1 (ct_B_isAlternate f x a b hk k i hkk hi ru hru _) (cx_V C 3 wd_311 wd_313 wp_2 wd_1 wd_314 rfl rfl (by decide +kernel) ⟨Nat.le_of_ble_eq_true rfl, Nat.le_of_ble_eq_true rfl⟩) hP hk.1.1 rfl rfl rfl (Nat.le_of_ble_eq_true rfl) d_B_cheapest_52 ⟨Nat.le_of_ble_eq_true rfl, Nat.le_of_ble_eq_true rfl⟩) hP hS hA0 (fun r2 f1 H locs hq hP hS => ?_)
          obtain ⟨hq, hu⟩ := hq
          rw [hu] at hP
          refine lv_if_eq (tgt := 124) hx hb d_B_cheapest_55 (by decide) (fun c_55 => ?_) (fun c_55 => ?_)
          · have hnA : ¬ AL b k i ru := bz_f hq c_55
            have hN : CHr b i ru q d (fun p => p < bN b ∧ (p = i ∨ (p < (k + 1) ∧ AL b p i ru))) none := by
              rw [show (fun p => p < bN b ∧ (p = i ∨ (p < (k + 1) ∧ AL b p i ru))) = (fun p => p < bN b ∧ (p = i ∨ (p < k ∧ AL b p i ru))) from funext fun p => propext ⟨fun hp => ⟨hp.1, hp.2.imp id (fun z => ⟨by rcases Nat.lt_succ_iff_lt_or_eq.mp z.1 with y | y; exact y; exact absurd (y ▸ z.2) hnA, z.2⟩)⟩, fun hp => ⟨hp.1, hp.2.imp id (fun z => ⟨Nat.lt_succ_of_lt z.1, z.2⟩)⟩⟩]; exact hCH
            refine lv_iinc (v := nI (k + 1)) (lv' := [(9, .int (nI (k + 1))), (10, .ref (aAd a k 0)), (6, .long L), (8, .null), (0, .ref x), (1, .ref (aAd a i 0)), (2, .int (nI ru)), (3, .int (nI q)), (4, .long d)]) hx hb d_B_cheapest_124 hl (k := 1) rfl (nI_1 k) (by decide) rfl (fun ls hl => ?_)
            refine lv_goto (tgt := 29) hx hb d_B_cheapest_127 (by decide) ?_
            exact ih (k + 1) none L ls H locs (by omega) (by omega) hN hL hP hS (lv_sub hl [0, 2, 3, 4, 5, 6, 7, 8] rfl)
          · refine lv_aload_n hx hb d_B_cheapest_58 rfl (lv_at hl 4 rfl) ?_
            refine lv_aload hx hb d_B_cheapest_59 (lv_at hl 0 rfl) ?_
            refine lv_iload_n hx hb d_B_cheapest_61 rfl (lv_at hl 7 rfl) ?_
            refine lv_lload hx hb d_B_cheapest_62 (lv_at hl 8 rfl) ?_
            refine g_calll (g_runV C hl.1 (ct_B_offer f x a b hk k hkk q hq1 hq2 d _) (cx_V C 3 wd_480 wd_482 wp_13 wd_1 wd_483 rfl rfl (by decide +kernel) ⟨Nat.le_of_ble_eq_true rfl, Nat.le_of_ble_eq_true rfl⟩) hP hk.1.1 rfl rfl rfl (Nat.le_of_ble_eq_true rfl) d_B_cheapest_64 ⟨Nat.le_of_ble_eq_true rfl, Nat.le_of_ble_eq_true rfl⟩) hP hS hA0 (fun r4 f3 H locs hq hP hS => ?_)
            obtain ⟨⟨ok, hOFk, rfl⟩, hu⟩ := hq
            rw [hu] at hP
            refine lv_lstore (lv' := [(11, .long (oC ok)), (10, .ref (aAd a k 0)), (9, .int (nI k)), (6, .long L), (8, .null), (0, .ref x), (1, .ref (aAd a i 0)), (2, .int (nI ru)), (3, .int (nI q)), (4, .long d)]) hx hb d_B_cheapest_67 hl (by decide) rfl (fun ls hl => ?_)
            refine lv_lload hx hb d_B_cheapest_69 (lv_at hl 0 rfl) ?_
            refine lv_ldc2 hx hb hown (C.w wd_295) d_B_cheapest_71 ?_
            refine W.lcmp hx hb d_B_cheapest_74 ?_
            refine lv_if_eq (tgt := 124) hx hb d_B_cheapest_75 (by decide) (fun c_75 => ?_) (fun c_75 => ?_)
            · have c_75 := (lg_cmp_eq _ _).mp c_75
              have hno : ok = none := oC_m c_75 (fun p hp => (OF_lt hDk_ hra (hp ▸ hOFk)).2.1)
              have hN : CHr b i ru q d (fun p => p < bN b ∧ (p = i ∨ (p < (k + 1) ∧ AL b p i ru))) none := CH_skip hCH (fun p hp => ⟨hp.1, hp.2.imp id (fun z => ⟨Nat.lt_succ_of_lt z.1, z.2⟩)⟩) (fun p hp => hp.2.elim (fun z => Or.inl ⟨hp.1, Or.inl z⟩) (fun z => by rcases Nat.lt_succ_iff_lt_or_eq.mp z.1 with y | y; exact Or.inl ⟨hp.1, Or.inr ⟨y, z.2⟩⟩; exact Or.inr y)) (fun hm o1 h9 => by rw [hno] at hOFk; cases OF_uni h9 hOFk)
              refine lv_iinc (v := nI (k + 1)) (lv' := [(9, .int (nI (k + 1))), (11, .long (oC ok)), (10, .ref (aAd a k 0)), (6, .long L), (8, .null), (0, .ref x), (1, .ref (aAd a i 0)), (2, .int (nI ru)), (3, .int (nI q)), (4, .long d)]) hx hb d_B_cheapest_124 hl (k := 2) rfl (nI_1 k) (by decide) rfl (fun ls hl => ?_)
              refine lv_goto (tgt := 29) hx hb d_B_cheapest_127 (by decide) ?_
              exact ih (k + 1) none L ls H locs (by omega) (by omega) hN hL hP hS (lv_sub hl [0, 3, 4, 5, 6, 7, 8, 9] rfl)
            · have c_75 := fun z => c_75 ((lg_cmp_eq _ _).mpr z)
              have hAL : AL b k i ru := bz_t hq c_55
              obtain ⟨pk, rfl⟩ : ∃ pk, ok = some pk := by rcases ok with _ | pk; exact absurd rfl c_75; exact ⟨pk, rfl⟩
              obtain ⟨hB1, hB2, -⟩ := OF_lt hDk_ hra hOFk
              have hMk : (fun p => p < bN b ∧ (p = i ∨ (p < (k + 1) ∧ AL b p i ru))) k := ⟨hkk, Or.inr ⟨Nat.lt_succ_self k, hAL⟩⟩
              refine lv_aloadN hx hb d_B_cheapest_78 (lv_at hl 4 rfl) ?_
              refine lv_ifnullN (tgt := 116) hx hb d_B_cheapest_80 (by decide) ?_
              have hN : CHr b i ru q d (fun p => p < bN b ∧ (p = i ∨ (p < (k + 1) ∧ AL b p i ru))) (some k) := CH_take hCH (fun p hp => hp.2.elim (fun z => Or.inl ⟨hp.1, Or.inl z⟩) (fun z => by rcases Nat.lt_succ_iff_lt_or_eq.mp z.1 with y | y; exact Or.inl ⟨hp.1, Or.inr ⟨y, z.2⟩⟩; exact Or.inr y)) hMk hOFk (fun p o1 hp h9 => by cases hp)
              refine lv_aload hx hb d_B_cheapest_116 (lv_at hl 1 rfl) ?_
              refine lv_astore (lv' := [(8, .ref (aAd a k 0)), (11, .long (lN pk.2)), (10, .ref (aAd a k 0)), (9, .int (nI k)), (6, .long L), (0, .ref x), (1, .ref (aAd a i 0)), (2, .int (nI ru)), (3, .int (nI q)), (4, .long d)]) hx hb d_B_cheapest_118 hl (by decide) rfl (fun ls hl => ?_)
              refine lv_lload hx hb d_B_cheapest_120 (lv_at hl 1 rfl) ?_
              refine lv_lstore (lv' := [(6, .long (lN pk.2)), (8, .ref (aAd a k 0)), (11, .long (lN pk.2)), (10, .ref (aAd a k 0)), (9, .int (nI k)), (0, .ref x), (1, .ref (aAd a i 0)), (2, .int (nI ru)), (3, .int (nI q)), (4, .long d)]) hx hb d_B_cheapest_122 hl (by decide) rfl (fun ls hl => ?_)
              refine lv_iinc (v := nI (k + 1)) (lv' := [(9, .int (nI (k + 1))), (6, .long (lN pk.2)), (8, .ref (aAd a k 0)), (11, .long (lN pk.2)), (10, .ref (aAd a k 0)), (0, .ref x), (1, .ref (aAd a i 0)), (2, .int (nI ru)), (3, .int (nI q)), (4, .long d)]) hx hb d_B_cheapest_124 hl (k := 4) rfl (nI_1 k) (by decide) rfl (fun ls hl => ?_)
              refine lv_goto (tgt := 29) hx hb d_B_cheapest_127 (by decide) ?_
              exact ih (k + 1) (some k) (lN pk.2) ls H locs (by omega) (by omega) hN (fun p o1 hp h9 => by cases hp; cases OF_uni h9 hOFk; rfl) hP hS (lv_sub hl [0, 1, 2, 5, 6, 7, 8, 9] rfl)
      · replace hl : lv_has ls 13 [(9, .int (nI k)), (6, .long L), (8, .ref (aAd a p0 0)), (0, .ref x), (1, .ref (aAd a i 0)), (2, .int (nI ru)), (3, .int (nI q)), (4, .long d)] := hl
        have hCH0 := hCH
        obtain ⟨o0, hm0, hf0, -⟩ := hCH0
        have hp0 : p0 < bN b := hm0.1
        have hpp0_ := hk.2.1 p0 hp0
        refine lv_iload hx hb d_B_cheapest_29 (lv_at hl 0 rfl) ?_
        refine lv_aload_n hx hb d_B_cheapest_31 rfl (lv_at hl 3 rfl) ?_
        refine g_get C i_B hP hk.1.1 rfl 1 (by decide) wd_32 rfl rfl d_B_cheapest_32 ?_
        refine lv_icmp_ge (tgt := 130) hx hb d_B_cheapest_35 (by decide) (fun c_35 => ?_) (fun c_35 => ?_)
        · have q_1 : k = bN b := by have := (nI_leI (by omega) (by omega)).mp c_35; omega
          refine lv_aload hx hb d_B_cheapest_130 (lv_at hl 2 rfl) ?_
          exact g_qret (v := (some (aAd a p0 0))) C hP hS (⟨⟨(some p0), by rw [q_1] at hCH; have h7 : (fun p => p < bN b ∧ (p = i ∨ (p < bN b ∧ AL b p i ru))) = (fun p => p < bN b ∧ (p = i ∨ AL b p i ru)) := funext fun p => propext ⟨fun hp => ⟨hp.1, hp.2.imp id (fun z => z.2)⟩, fun hp => ⟨hp.1, hp.2.imp id (fun z => ⟨hp.1, z⟩)⟩⟩; rw [h7] at hCH; exact hCH, rfl⟩, rfl⟩) (Nat.le_of_ble_eq_true rfl) (Nat.le_of_ble_eq_true rfl) d_B_cheapest_132
        · have hkk : k < bN b := Nat.lt_of_not_le (fun z9 => c_35 ((nI_leI (by omega) (by omega)).mpr z9))
          have hpk_ := hk.2.1 k hkk
          have hDk_ := hk.2.2.2.2.2.1 k hkk
          refine lv_aload_n hx hb d_B_cheapest_38 rfl (lv_at hl 3 rfl) ?_
          refine g_get C i_B hP hk.1.1 rfl 0 (by decide) wd_31 rfl rfl d_B_cheapest_39 ?_
          refine lv_iload hx hb d_B_cheapest_42 (lv_at hl 0 rfl) ?_
          refine g_aaldN C hP hk.1.2.1 (j := k) (by omega) (by decide) d_B_cheapest_44 ?_
          refine g_eqq (y := aAd a k 0) (if_pos hkk) ?_
          refine lv_astore (lv' := [(10, .ref (aAd a k 0)), (9, .int (nI k)), (6, .long L), (8, .ref (aAd a p0 0)), (0, .ref x), (1, .ref (aAd a i 0)), (2, .int (nI ru)), (3, .int (nI q)), (4, .long d)]) hx hb d_B_cheapest_45 hl (by decide) rfl (fun ls hl => ?_)
          refine lv_aload_n hx hb d_B_cheapest_47 rfl (lv_at hl 4 rfl) ?_
          refine lv_aload hx hb d_B_cheapest_48 (lv_at hl 0 rfl) ?_
          refine lv_aload_n hx hb d_B_cheapest_50 rfl (lv_at hl 5 rfl) ?_
          refine lv_iload_n hx hb d_B_cheapest_51 rfl (lv_at hl 6 rfl) ?_
          refine g_calli (g_runV C hl.1 (ct_B_isAlternate f x a b hk k i hkk hi ru hru _) (cx_V C 3 wd_311 wd_313 wp_2 wd_1 wd_314 rfl rfl (by decide +kernel) ⟨Nat.le_of_ble_eq_true rfl, Nat.le_of_ble_eq_true rfl⟩) hP hk.1.1 rfl rfl rfl (Nat.le_of_ble_eq_true rfl) d_B_cheapest_52 ⟨Nat.le_of_ble_eq_true rfl, Nat.le_of_ble_eq_true rfl⟩) hP hS hA0 (fun r2 f1 H locs hq hP hS => ?_)
          obtain ⟨hq, hu⟩ := hq
          rw [hu] at hP
          refine lv_if_eq (tgt := 124) hx hb d_B_cheapest_55 (by decide) (fun c_55 => ?_) (fun c_55 => ?_)
          · have hnA : ¬ AL b k i ru := bz_f hq c_55
            have hN : CHr b i ru q d (fun p => p < bN b ∧ (p = i ∨ (p < (k + 1) ∧ AL b p i ru))) (some p0) := by
              rw [show (fun p => p < bN b ∧ (p = i ∨ (p < (k + 1) ∧ AL b p i ru))) = (fun p => p < bN b ∧ (p = i ∨ (p < k ∧ AL b p i ru))) from funext fun p => propext ⟨fun hp => ⟨hp.1, hp.2.imp id (fun z => ⟨by rcases Nat.lt_succ_iff_lt_or_eq.mp z.1 with y | y; exact y; exact absurd (y ▸ z.2) hnA, z.2⟩)⟩, fun hp => ⟨hp.1, hp.2.imp id (fun z => ⟨Nat.lt_succ_of_lt z.1, z.2⟩)⟩⟩]; exact hCH
            refine lv_iinc (v := nI (k + 1)) (lv' := [(9, .int (nI (k + 1))), (10, .ref (aAd a k 0)), (6, .long L), (8, .ref (aAd a p0 0)), (0, .ref x), (1, .ref (aAd a i 0)), (2, .int (nI ru)), (3, .int (nI q)), (4, .long d)]) hx hb d_B_cheapest_124 hl (k := 1) rfl (nI_1 k) (by decide) rfl (fun ls hl => ?_)
            refine lv_goto (tgt := 29) hx hb d_B_cheapest_127 (by decide) ?_
            exact ih (k + 1) (some p0) L ls H locs (by omega) (by omega) hN hL hP hS (lv_sub hl [0, 2, 3, 4, 5, 6, 7, 8] rfl)
          · refine lv_aload_n hx hb d_B_cheapest_58 rfl (lv_at hl 4 rfl) ?_
            refine lv_aload hx hb d_B_cheapest_59 (lv_at hl 0 rfl) ?_
            refine lv_iload_n hx hb d_B_cheapest_61 rfl (lv_at hl 7 rfl) ?_
            refine lv_lload hx hb d_B_cheapest_62 (lv_at hl 8 rfl) ?_
            refine g_calll (g_runV C hl.1 (ct_B_offer f x a b hk k hkk q hq1 hq2 d _) (cx_V C 3 wd_480 wd_482 wp_13 wd_1 wd_483 rfl rfl (by decide +kernel) ⟨Nat.le_of_ble_eq_true rfl, Nat.le_of_ble_eq_true rfl⟩) hP hk.1.1 rfl rfl rfl (Nat.le_of_ble_eq_true rfl) d_B_cheapest_64 ⟨Nat.le_of_ble_eq_true rfl, Nat.le_of_ble_eq_true rfl⟩) hP hS hA0 (fun r4 f3 H locs hq hP hS => ?_)
            obtain ⟨⟨ok, hOFk, rfl⟩, hu⟩ := hq
            rw [hu] at hP
            refine lv_lstore (lv' := [(11, .long (oC ok)), (10, .ref (aAd a k 0)), (9, .int (nI k)), (6, .long L), (8, .ref (aAd a p0 0)), (0, .ref x), (1, .ref (aAd a i 0)), (2, .int (nI ru)), (3, .int (nI q)), (4, .long d)]) hx hb d_B_cheapest_67 hl (by decide) rfl (fun ls hl => ?_)
            refine lv_lload hx hb d_B_cheapest_69 (lv_at hl 0 rfl) ?_
            refine lv_ldc2 hx hb hown (C.w wd_295) d_B_cheapest_71 ?_
            refine W.lcmp hx hb d_B_cheapest_74 ?_
            refine lv_if_eq (tgt := 124) hx hb d_B_cheapest_75 (by decide) (fun c_75 => ?_) (fun c_75 => ?_)
            · have c_75 := (lg_cmp_eq _ _).mp c_75
              have hno : ok = none := oC_m c_75 (fun p hp => (OF_lt hDk_ hra (hp ▸ hOFk)).2.1)
              have hN : CHr b i ru q d (fun p => p < bN b ∧ (p = i ∨ (p < (k + 1) ∧ AL b p i ru))) (some p0) := CH_skip hCH (fun p hp => ⟨hp.1, hp.2.imp id (fun z => ⟨Nat.lt_succ_of_lt z.1, z.2⟩)⟩) (fun p hp => hp.2.elim (fun z => Or.inl ⟨hp.1, Or.inl z⟩) (fun z => by rcases Nat.lt_succ_iff_lt_or_eq.mp z.1 with y | y; exact Or.inl ⟨hp.1, Or.inr ⟨y, z.2⟩⟩; exact Or.inr y)) (fun hm o1 h9 => by rw [hno] at hOFk; cases OF_uni h9 hOFk)
              refine lv_iinc (v := nI (k + 1)) (lv' := [(9, .int (nI (k + 1))), (11, .long (oC ok)), (10, .ref (aAd a k 0)), (6, .long L), (8, .ref (aAd a p0 0)), (0, .ref x), (1, .ref (aAd a i 0)), (2, .int (nI ru)), (3, .int (nI q)), (4, .long d)]) hx hb d_B_cheapest_124 hl (k := 2) rfl (nI_1 k) (by decide) rfl (fun ls hl => ?_)
              refine lv_goto (tgt := 29) hx hb d_B_cheapest_127 (by decide) ?_
              exact ih (k + 1) (some p0) L ls H locs (by omega) (by omega) hN hL hP hS (lv_sub hl [0, 3, 4, 5, 6, 7, 8, 9] rfl)
            · have c_75 := fun z => c_75 ((lg_cmp_eq _ _).mpr z)
              have hAL : AL b k i ru := bz_t hq c_55
              obtain ⟨pk, rfl⟩ : ∃ pk, ok = some pk := by rcases ok with _ | pk; exact absurd rfl c_75; exact ⟨pk, rfl⟩
              obtain ⟨hB1, hB2, -⟩ := OF_lt hDk_ hra hOFk
              have hMk : (fun p => p < bN b ∧ (p = i ∨ (p < (k + 1) ∧ AL b p i ru))) k := ⟨hkk, Or.inr ⟨Nat.lt_succ_self k, hAL⟩⟩
              have hL1 := hL p0 o0 rfl hf0
              have hB3 := (OF_lt (hk.2.2.2.2.2.1 p0 hp0) hra hf0).2.1
              subst hL1
              refine lv_aload hx hb d_B_cheapest_78 (lv_at hl 4 rfl) ?_
              refine lv_ifnull hx hb d_B_cheapest_80 ?_
              refine lv_lload hx hb d_B_cheapest_83 (lv_at hl 0 rfl) ?_
              refine lv_lload hx hb d_B_cheapest_85 (lv_at hl 3 rfl) ?_
              refine W.lcmp hx hb d_B_cheapest_87 ?_
              refine lv_if_lt (tgt := 116) hx hb d_B_cheapest_88 (by decide) (fun c_88 => ?_) (fun c_88 => ?_)
              · have c_88 := (lg_cmp_lt _ _).mp c_88
                have hN : CHr b i ru q d (fun p => p < bN b ∧ (p = i ∨ (p < (k + 1) ∧ AL b p i ru))) (some k) := CH_take hCH (fun p hp => hp.2.elim (fun z => Or.inl ⟨hp.1, Or.inl z⟩) (fun z => by rcases Nat.lt_succ_iff_lt_or_eq.mp z.1 with y | y; exact Or.inl ⟨hp.1, Or.inr ⟨y, z.2⟩⟩; exact Or.inr y)) hMk hOFk (fun p o1 hp h9 => by cases hp; cases OF_uni h9 hf0; exact Or.inl ((pk_lLT (by omega) (by omega)).mp c_88))
                refine lv_aload hx hb d_B_cheapest_116 (lv_at hl 1 rfl) ?_
                refine lv_astore (lv' := [(8, .ref (aAd a k 0)), (11, .long (lN pk.2)), (10, .ref (aAd a k 0)), (9, .int (nI k)), (6, .long (lN o0.2)), (0, .ref x), (1, .ref (aAd a i 0)), (2, .int (nI ru)), (3, .int (nI q)), (4, .long d)]) hx hb d_B_cheapest_118 hl (by decide) rfl (fun ls hl => ?_)
                refine lv_lload hx hb d_B_cheapest_120 (lv_at hl 1 rfl) ?_
                refine lv_lstore (lv' := [(6, .long (lN pk.2)), (8, .ref (aAd a k 0)), (11, .long (lN pk.2)), (10, .ref (aAd a k 0)), (9, .int (nI k)), (0, .ref x), (1, .ref (aAd a i 0)), (2, .int (nI ru)), (3, .int (nI q)), (4, .long d)]) hx hb d_B_cheapest_122 hl (by decide) rfl (fun ls hl => ?_)
                refine lv_iinc (v := nI (k + 1)) (lv' := [(9, .int (nI (k + 1))), (6, .long (lN pk.2)), (8, .ref (aAd a k 0)), (11, .long (lN pk.2)), (10, .ref (aAd a k 0)), (0, .ref x), (1, .ref (aAd a i 0)), (2, .int (nI ru)), (3, .int (nI q)), (4, .long d)]) hx hb d_B_cheapest_124 hl (k := 4) rfl (nI_1 k) (by decide) rfl (fun ls hl => ?_)
                refine lv_goto (tgt := 29) hx hb d_B_cheapest_127 (by decide) ?_
                exact ih (k + 1) (some k) (lN pk.2) ls H locs (by omega) (by omega) hN (fun p o1 hp h9 => by cases hp; cases OF_uni h9 hOFk; rfl) hP hS (lv_sub hl [0, 1, 2, 5, 6, 7, 8, 9] rfl)
              · have c_88 := fun z => c_88 ((lg_cmp_lt _ _).mpr z)
                refine lv_lload hx hb d_B_cheapest_91 (lv_at hl 0 rfl) ?_
                refine lv_lload hx hb d_B_cheapest_93 (lv_at hl 3 rfl) ?_
                refine W.lcmp hx hb d_B_cheapest_95 ?_
                refine lv_if_ne (tgt := 124) hx hb d_B_cheapest_96 (by decide) (fun c_96 => ?_) (fun c_96 => ?_)
                · have c_96 := fun z => c_96 ((lg_cmp_eq _ _).mpr z)
                  have hN : CHr b i ru q d (fun p => p < bN b ∧ (p = i ∨ (p < (k + 1) ∧ AL b p i ru))) (some p0) := CH_keep hCH hf0 (fun p hp => ⟨hp.1, hp.2.imp id (fun z => ⟨Nat.lt_succ_of_lt z.1, z.2⟩)⟩) (fun p hp => hp.2.elim (fun z => Or.inl ⟨hp.1, Or.inl z⟩) (fun z => by rcases Nat.lt_succ_iff_lt_or_eq.mp z.1 with y | y; exact Or.inl ⟨hp.1, Or.inr ⟨y, z.2⟩⟩; exact Or.inr y)) hOFk (Or.inl (by have h7 : ¬ pk.2 < o0.2 := fun z => c_88 ((pk_lLT (by omega) (by omega)).mpr z); have h8 : pk.2 ≠ o0.2 := fun z => c_96 (by show lN _ = lN _; rw [z]); omega))
                  refine lv_iinc (v := nI (k + 1)) (lv' := [(9, .int (nI (k + 1))), (11, .long (lN pk.2)), (10, .ref (aAd a k 0)), (6, .long (lN o0.2)), (8, .ref (aAd a p0 0)), (0, .ref x), (1, .ref (aAd a i 0)), (2, .int (nI ru)), (3, .int (nI q)), (4, .long d)]) hx hb d_B_cheapest_124 hl (k := 2) rfl (nI_1 k) (by decide) rfl (fun ls hl => ?_)
                  refine lv_goto (tgt := 29) hx hb d_B_cheapest_127 (by decide) ?_
                  exact ih (k + 1) (some p0) (lN o0.2) ls H locs (by omega) (by omega) hN (fun p o1 hp h9 => by cases hp; cases OF_uni h9 hf0; rfl) hP hS (lv_sub hl [0, 3, 4, 5, 6, 7, 8, 9] rfl)
                · have c_96 := (lg_cmp_eq _ _).mp c_96
                  have q_2 : pk.2 = o0.2 := (pk_lEQ (by omega) (by omega)).mp c_96
                  refine lv_aload hx hb d_B_cheapest_99 (lv_at hl 4 rfl) ?_
                  refine lv_aload_n hx hb d_B_cheapest_101 rfl (lv_at hl 6 rfl) ?_
                  refine lv_acmp_eq (rx := (some (aAd a p0 0))) (ry := (some (aAd a i 0))) (tgt := 124) hx hb d_B_cheapest_102 (by decide) (fun c_102 => ?_) (fun c_102 => ?_)
                  · have q_3 : p0 = i := (hk.2.2.1 p0 0 i 0 hp0 (by decide) hi (by decide) (Option.some.inj c_102)).1
                    have hN : CHr b i ru q d (fun p => p < bN b ∧ (p = i ∨ (p < (k + 1) ∧ AL b p i ru))) (some p0) := CH_keep hCH hf0 (fun p hp => ⟨hp.1, hp.2.imp id (fun z => ⟨Nat.lt_succ_of_lt z.1, z.2⟩)⟩) (fun p hp => hp.2.elim (fun z => Or.inl ⟨hp.1, Or.inl z⟩) (fun z => by rcases Nat.lt_succ_iff_lt_or_eq.mp z.1 with y | y; exact Or.inl ⟨hp.1, Or.inr ⟨y, z.2⟩⟩; exact Or.inr y)) hOFk (Or.inr ⟨q_2.symm, hAL.1, Or.inl q_3⟩)
                    refine lv_iinc (v := nI (k + 1)) (lv' := [(9, .int (nI (k + 1))), (11, .long (lN pk.2)), (10, .ref (aAd a k 0)), (6, .long (lN o0.2)), (8, .ref (aAd a p0 0)), (0, .ref x), (1, .ref (aAd a i 0)), (2, .int (nI ru)), (3, .int (nI q)), (4, .long d)]) hx hb d_B_cheapest_124 hl (k := 2) rfl (nI_1 k) (by decide) rfl (fun ls hl => ?_)
                    refine lv_goto (tgt := 29) hx hb d_B_cheapest_127 (by decide) ?_
                    exact ih (k + 1) (some p0) (lN o0.2) ls H locs (by omega) (by omega) hN (fun p o1 hp h9 => by cases hp; cases OF_uni h9 hf0; rfl) hP hS (lv_sub hl [0, 3, 4, 5, 6, 7, 8, 9] rfl)
                  · have q_3 : p0 ≠ i := fun z9 => c_102 (by rw [z9])
                    refine lv_aload_n hx hb d_B_cheapest_105 rfl (lv_at hl 5 rfl) ?_
                    refine lv_aload hx hb d_B_cheapest_106 (lv_at hl 1 rfl) ?_
                    refine lv_aload hx hb d_B_cheapest_108 (lv_at hl 4 rfl) ?_
                    refine g_calli (g_runV C hl.1 (ct_B_standsBefore f x a b hk k p0 hkk hp0 _) (cx_V C 2 wd_333 wd_335 wp_5 wd_1 wd_336 rfl rfl (by decide +kernel) ⟨Nat.le_of_ble_eq_true rfl, Nat.le_of_ble_eq_true rfl⟩) hP hk.1.1 rfl rfl rfl (Nat.le_of_ble_eq_true rfl) d_B_cheapest_110 ⟨Nat.le_of_ble_eq_true rfl, Nat.le_of_ble_eq_true rfl⟩) hP hS hA0 (fun r6 f5 H locs hq hP hS => ?_)
                    obtain ⟨hsb, hu⟩ := hq
                    rw [hu] at hP
                    refine lv_if_eq (tgt := 124) hx hb d_B_cheapest_113 (by decide) (fun c_113 => ?_) (fun c_113 => ?_)
                    · have hN : CHr b i ru q d (fun p => p < bN b ∧ (p = i ∨ (p < (k + 1) ∧ AL b p i ru))) (some p0) := CH_keep hCH hf0 (fun p hp => ⟨hp.1, hp.2.imp id (fun z => ⟨Nat.lt_succ_of_lt z.1, z.2⟩)⟩) (fun p hp => hp.2.elim (fun z => Or.inl ⟨hp.1, Or.inl z⟩) (fun z => by rcases Nat.lt_succ_iff_lt_or_eq.mp z.1 with y | y; exact Or.inl ⟨hp.1, Or.inr ⟨y, z.2⟩⟩; exact Or.inr y)) hOFk (by by_cases z : p0 = k; exact absurd (hm0.2.resolve_left q_3).1 (by omega); exact Or.inr ⟨q_2.symm, hAL.1, Or.inr (sb_tot (Ne.symm z) (bz_f hsb c_113))⟩)
                      refine lv_iinc (v := nI (k + 1)) (lv' := [(9, .int (nI (k + 1))), (11, .long (lN pk.2)), (10, .ref (aAd a k 0)), (6, .long (lN o0.2)), (8, .ref (aAd a p0 0)), (0, .ref x), (1, .ref (aAd a i 0)), (2, .int (nI ru)), (3, .int (nI q)), (4, .long d)]) hx hb d_B_cheapest_124 hl (k := 2) rfl (nI_1 k) (by decide) rfl (fun ls hl => ?_)
                      refine lv_goto (tgt := 29) hx hb d_B_cheapest_127 (by decide) ?_
                      exact ih (k + 1) (some p0) (lN o0.2) ls H locs (by omega) (by omega) hN (fun p o1 hp h9 => by cases hp; cases OF_uni h9 hf0; rfl) hP hS (lv_sub hl [0, 3, 4, 5, 6, 7, 8, 9] rfl)
                    · have hN : CHr b i ru q d (fun p => p < bN b ∧ (p = i ∨ (p < (k + 1) ∧ AL b p i ru))) (some k) := CH_take hCH (fun p hp => hp.2.elim (fun z => Or.inl ⟨hp.1, Or.inl z⟩) (fun z => by rcases Nat.lt_succ_iff_lt_or_eq.mp z.1 with y | y; exact Or.inl ⟨hp.1, Or.inr ⟨y, z.2⟩⟩; exact Or.inr y)) hMk hOFk (fun p o1 hp h9 => by cases hp; cases OF_uni h9 hf0; exact Or.inr ⟨q_2, q_3, Or.inr (bz_t hsb c_113)⟩)
                      refine lv_aload hx hb d_B_cheapest_116 (lv_at hl 1 rfl) ?_
                      refine lv_astore (lv' := [(8, .ref (aAd a k 0)), (11, .long (lN pk.2)), (10, .ref (aAd a k 0)), (9, .int (nI k)), (6, .long (lN o0.2)), (0, .ref x), (1, .ref (aAd a i 0)), (2, .int (nI ru)), (3, .int (nI q)), (4, .long d)]) hx hb d_B_cheapest_118 hl (by decide) rfl (fun ls hl => ?_)
                      refine lv_lload hx hb d_B_cheapest_120 (lv_at hl 1 rfl) ?_
                      refine lv_lstore (lv' := [(6, .long (lN pk.2)), (8, .ref (aAd a k 0)), (11, .long (lN pk.2)), (10, .ref (aAd a k 0)), (9, .int (nI k)), (0, .ref x), (1, .ref (aAd a i 0)), (2, .int (nI ru)), (3, .int (nI q)), (4, .long d)]) hx hb d_B_cheapest_122 hl (by decide) rfl (fun ls hl => ?_)
                      refine lv_iinc (v := nI (k + 1)) (lv' := [(9, .int (nI (k + 1))), (6, .long (lN pk.2)), (8, .ref (aAd a k 0)), (11, .long (lN pk.2)), (10, .ref (aAd a k 0)), (0, .ref x), (1, .ref (aAd a i 0)), (2, .int (nI ru)), (3, .int (nI q)), (4, .long d)]) hx hb d_B_cheapest_124 hl (k := 4) rfl (nI_1 k) (by decide) rfl (fun ls hl => ?_)
                      refine lv_goto (tgt := 29) hx hb d_B_cheapest_127 (by decide) ?_
                      exact ih (k + 1) (some k) (lN pk.2) ls H locs (by omega) (by omega) hN (fun p o1 hp h9 => by cases hp; cases OF_uni h9 hOFk; rfl) hP hS (lv_sub hl [0, 1, 2, 5, 6, 7, 8, 9] rfl)
  refine lv_aload_n hx hb d_B_cheapest_0 rfl (lv_at hl 0 rfl) ?_
  refine lv_aload_n hx hb d_B_cheapest_1 rfl (lv_at hl 1 rfl) ?_
  refine lv_iload_n hx hb d_B_cheapest_2 rfl (lv_at hl 3 rfl) ?_
  refine lv_lload hx hb d_B_cheapest_3 (lv_at hl 4 rfl) ?_
  refine g_calll (g_runV C hl.1 (ct_B_offer f x a b hk i hi q hq1 hq2 d _) (cx_V C 3 wd_480 wd_482 wp_13 wd_1 wd_483 rfl rfl (by decide +kernel) ⟨Nat.le_of_ble_eq_true rfl, Nat.le_of_ble_eq_true rfl⟩) hP hk.1.1 rfl rfl rfl (Nat.le_of_ble_eq_true rfl) d_B_cheapest_5 ⟨Nat.le_of_ble_eq_true rfl, Nat.le_of_ble_eq_true rfl⟩) hP hS hA0 (fun r2 f1 H locs hq hP hS => ?_)
  obtain ⟨⟨o, hOF, rfl⟩, hu⟩ := hq
  rw [hu] at hP
  refine lv_lstore (lv' := [(6, .long (oC o)), (0, .ref x), (1, .ref (aAd a i 0)), (2, .int (nI ru)), (3, .int (nI q)), (4, .long d)]) hx hb d_B_cheapest_8 hl (by decide) rfl (fun ls hl => ?_)
  refine lv_lload hx hb d_B_cheapest_10 (lv_at hl 0 rfl) ?_
  refine lv_ldc2 hx hb hown (C.w wd_295) d_B_cheapest_12 ?_
  refine W.lcmp hx hb d_B_cheapest_15 ?_
  refine lv_if_ne (tgt := 23) hx hb d_B_cheapest_16 (by decide) (fun c_16 => ?_) (fun c_16 => ?_)
  · have c_16 := fun z => c_16 ((lg_cmp_eq _ _).mpr z)
    obtain ⟨p1, rfl⟩ : ∃ p1, o = some p1 := by rcases o with _ | p1; exact absurd rfl c_16; exact ⟨p1, rfl⟩
    refine lv_aload_n hx hb d_B_cheapest_23 rfl (lv_at hl 2 rfl) ?_
    refine lv_astore (lv' := [(8, .ref (aAd a i 0)), (6, .long (oC (some p1))), (0, .ref x), (1, .ref (aAd a i 0)), (2, .int (nI ru)), (3, .int (nI q)), (4, .long d)]) hx hb d_B_cheapest_24 hl (by decide) rfl (fun ls hl => ?_)
    refine lv_iconst (v := 0) hx hb d_B_cheapest_26 (by decide) ?_
    refine lv_istore (lv' := [(9, .int 0), (8, .ref (aAd a i 0)), (6, .long (oC (some p1))), (0, .ref x), (1, .ref (aAd a i 0)), (2, .int (nI ru)), (3, .int (nI q)), (4, .long d)]) hx hb d_B_cheapest_27 hl (by decide) rfl (fun ls hl => ?_)
    exact loop 41 0 (some i) (oC (some p1)) ls H locs (by omega) (Nat.zero_le _) ⟨p1, ⟨hi, Or.inl rfl⟩, hOF, fun p o1 h1 h2 => by have hpi : p = i := h1.2.resolve_right (fun z => absurd z.1 (Nat.not_lt_zero _)); rw [hpi] at h2; cases OF_uni h2 hOF; exact Or.inr ⟨rfl, Or.inl hpi⟩⟩ (fun p o1 h1 h2 => by cases h1; cases OF_uni h2 hOF; rfl) hP hS (lv_sub hl [0, 2, 1, 3, 4, 5, 6, 7] rfl)
  · have c_16 := (lg_cmp_eq _ _).mp c_16
    have q_1 : o = none := oC_m c_16 (fun p hp => (OF_lt hDi_ hra (hp ▸ hOF)).2.1)
    refine lv_null hx hb d_B_cheapest_19 ?_
    refine lv_goto (tgt := 24) hx hb d_B_cheapest_20 (by decide) ?_
    refine lv_astoreN (lv' := [(8, .null), (6, .long (oC o)), (0, .ref x), (1, .ref (aAd a i 0)), (2, .int (nI ru)), (3, .int (nI q)), (4, .long d)]) hx hb d_B_cheapest_24 hl (by decide) rfl (fun ls hl => ?_)
    refine lv_iconst (v := 0) hx hb d_B_cheapest_26 (by decide) ?_
    refine lv_istore (lv' := [(9, .int 0), (8, .null), (6, .long (oC o)), (0, .ref x), (1, .ref (aAd a i 0)), (2, .int (nI ru)), (3, .int (nI q)), (4, .long d)]) hx hb d_B_cheapest_27 hl (by decide) rfl (fun ls hl => ?_)
    exact loop 41 0 none (oC o) ls H locs (by omega) (Nat.zero_le _) (fun p o1 h1 h2 => by rw [q_1] at hOF; have hpi : p = i := h1.2.resolve_right (fun z => absurd z.1 (Nat.not_lt_zero _)); rw [hpi] at h2; cases OF_uni h2 hOF) (fun p o1 h1 => by cases h1) hP hS (lv_sub hl [0, 2, 1, 3, 4, 5, 6, 7] rfl)
set_option maxHeartbeats 4000000 in
set_option maxRecDepth 100000 in
theorem ct_B_chosenFor {l : Launch} {G : hG} {sa : xS} (hl0 : l.stackTraces = false) (f : hm) (x : Nat) (a : AD) (b : BD) (hk : bk G f x a b) (p0 q0 n0 : Int32) (d : Int64) : xq_ l G sa y_B_chosenFor w_B_chosenFor { frames := 7, cells := 3, slots := 18, locals := 240 } [.ref x, .int p0, .int q0, .int n0, .long d] f (fun r u => I_alt b p0 q0 ∧ N_q n0 ∧ (∃ v o, K_chosen b p0 q0 n0 d v o ∧ r = o.map (fun p => aAd a p 0)) ∧ u = f) (bad (I_alt b p0 q0) (N_q n0)) := by
  intro sz
  refine x_ofW (cc := c_B_chosenFor) (maxL := 7) (ret := (some (.object "PartBook$Part"))) (by decide) rfl (Nat.le_of_ble_eq_true rfl) ?_
  intro p e s m below meth c ls C hex hN hZ hsz hP hl
  obtain ⟨hx, hb, hml, hown, -, -, -, -⟩ := id C
  subst hsz
  have hA0 : ∀ q, s.heap.size ≤ q → hA f s.heap.size q := hA.new
  have hS : va_S (hA f s.heap.size) s.heap s.heap [] := va_S.rf
  replace hl : lv_has ls 7 [(0, .ref x), (1, .int p0), (2, .int q0), (3, .int n0), (4, .long d)] := hl
  have hNN : bN b ≤ 40 := hk.2.2.2.2.1.1
  have hRC : bRc b ≤ 10 := hk.2.2.2.2.1.2.1
  have hHC : bHc b ≤ 40 := hk.2.2.2.2.1.2.2
  refine lv_aload_n hx hb d_B_chosenFor_0 rfl (lv_at hl 0 rfl) ?_
  refine lv_iload_n hx hb d_B_chosenFor_1 rfl (lv_at hl 1 rfl) ?_
  refine x_callq (x_runV C hN hZ hl.1 (ct_B_partOf (sa := sa) hl0 f x p0 (aPa a) (bN b) _ _ _ _ _ _ _ (fun i => aAd a i 0) hNN hk.1.1 hk.1.2.1 (fun j hj => if_pos hj) _) (cx_V C 1 wd_239 wd_241 wp_1 wd_1 wd_242 rfl rfl (by decide +kernel) ⟨Nat.le_of_ble_eq_true rfl, Nat.le_of_ble_eq_true rfl⟩) hP hS hA0 hk.1.1 rfl rfl rfl (Nat.le_of_ble_eq_true rfl) d_B_chosenFor_2 ⟨Nat.le_of_ble_eq_true rfl, Nat.le_of_ble_eq_true rfl⟩) hP hS hA0 (fun E ce q9 H locs hE hP hS h1 h2 h3 => x_out C hex hP hS (Or.inl ⟨hE.1, fun z9 => hE.2 z9.1⟩) h1 h2 h3 (Nat.le_of_ble_eq_true rfl) (Nat.le_of_ble_eq_true rfl)) (fun r2 f1 H locs hq hP hS => ?_)
  obtain ⟨hu, i, hi, rfl, rfl⟩ := hq
  rw [hu] at hP
  have hp_ := hk.2.1 i hi
  have hD_ := hk.2.2.2.2.2.1 i hi
  refine lv_astore (lv' := [(6, .ref (aAd a i 0)), (0, .ref x), (1, .int (nI i)), (2, .int q0), (3, .int n0), (4, .long d)]) hx hb d_B_chosenFor_5 hl (by decide) rfl (fun ls hl => ?_)
  refine lv_iload_n hx hb d_B_chosenFor_7 rfl (lv_at hl 3 rfl) ?_
  refine lv_aload_n hx hb d_B_chosenFor_8 rfl (lv_at hl 1 rfl) ?_
  refine g_get C i_B hP hk.1.1 rfl 4 (by decide) wd_35 rfl rfl d_B_chosenFor_9 ?_
  refine x_callv (x_runS C hN hZ hl.1 (ct_B_checkIndex (sa := sa) hl0 f q0 (nI (bRc b)) _) (cx_S C 2 wd_259 wd_260 wd_1 wd_261 rfl rfl (by decide +kernel) ⟨Nat.le_of_ble_eq_true rfl, Nat.le_of_ble_eq_true rfl⟩) hP hS hA0 rfl rfl (Nat.le_of_ble_eq_true rfl) d_B_chosenFor_12 ⟨Nat.le_of_ble_eq_true rfl, Nat.le_of_ble_eq_true rfl⟩) hP hS hA0 (fun E ce q9 H locs hE hP hS h1 h2 h3 => x_out C hex hP hS (Or.inl ⟨hE.1, fun z9 => hE.2 ((ix_chk (by omega)).mpr z9.2)⟩) h1 h2 h3 (Nat.le_of_ble_eq_true rfl) (Nat.le_of_ble_eq_true rfl)) (fun f3 H locs hq hP hS => ?_)
  obtain ⟨hu, q_z⟩ := hq
  obtain ⟨j, hj, rfl⟩ := (ix_chk (n := (bRc b)) (by omega)).mp q_z
  rw [hu] at hP
  refine lv_iload_n hx hb d_B_chosenFor_15 rfl (lv_at hl 4 rfl) ?_
  refine lv_i2l (v := n0.toInt64) hx hb d_B_chosenFor_16 rfl ?_
  refine lv_lconst (v := 1) hx hb d_B_chosenFor_17 (by decide) ?_
  refine lv_ldc2 hx hb hown (C.w wd_351) d_B_chosenFor_18 ?_
  refine x_callv (x_runS C hN hZ hl.1 (ct_B_checkNumber (sa := sa) hl0 f (n0).toInt64 1 10000 _) (cx_S C 3 wd_75 wd_76 wd_1 wd_77 rfl rfl (by decide +kernel) ⟨Nat.le_of_ble_eq_true rfl, Nat.le_of_ble_eq_true rfl⟩) hP hS hA0 rfl rfl (Nat.le_of_ble_eq_true rfl) d_B_chosenFor_21 ⟨Nat.le_of_ble_eq_true rfl, Nat.le_of_ble_eq_true rfl⟩) hP hS hA0 (fun E ce q9 H locs hE hP hS h1 h2 h3 => x_out C hex hP hS (Or.inr ⟨hE.1, ⟨⟨i, hi, rfl⟩, ⟨j, hj, rfl⟩⟩, fun z9 => hE.2 ((nu_chk (by decide) (by decide)).mpr z9)⟩) h1 h2 h3 (Nat.le_of_ble_eq_true rfl) (Nat.le_of_ble_eq_true rfl)) (fun f5 H locs hq hP hS => ?_)
  obtain ⟨hu, q_z⟩ := hq
  have hn0 : (1 : Int32) ≤ n0 ∧ n0 ≤ 10000 := (nu_chk (by decide) (by decide)).mp q_z
  rw [hu] at hP
  have hN0 : N_q n0 := hn0
  obtain ⟨v, hv1, hv2, rfl⟩ := nu_nat1 (n := 10000) hn0 (by decide)
  refine lv_aload_n hx hb d_B_chosenFor_24 rfl (lv_at hl 1 rfl) ?_
  refine lv_aload hx hb d_B_chosenFor_25 (lv_at hl 0 rfl) ?_
  refine lv_iload_n hx hb d_B_chosenFor_27 rfl (lv_at hl 3 rfl) ?_
  refine lv_iload_n hx hb d_B_chosenFor_28 rfl (lv_at hl 4 rfl) ?_
  refine lv_lload hx hb d_B_chosenFor_29 (lv_at hl 5 rfl) ?_
  refine g_callq (g_runV C hl.1 (ct_B_cheapest f x a b hk i hi j hj v hv1 hv2 d _) (cx_V C 4 wd_476 wd_478 wp_12 wd_1 wd_479 rfl rfl (by decide +kernel) ⟨Nat.le_of_ble_eq_true rfl, Nat.le_of_ble_eq_true rfl⟩) hP hk.1.1 rfl rfl rfl (Nat.le_of_ble_eq_true rfl) d_B_chosenFor_31 ⟨Nat.le_of_ble_eq_true rfl, Nat.le_of_ble_eq_true rfl⟩) hP hS hA0 (fun r8 f7 H locs hq hP hS => ?_)
  obtain ⟨⟨o, hCH, rfl⟩, hu⟩ := hq
  rw [hu] at hP
  refine vx_ret ?_
  exact g_qret C hP hS (⟨⟨⟨i, hi, rfl⟩, ⟨j, hj, rfl⟩⟩, hN0, ⟨v, o, ⟨i, j, hi, rfl, hj, rfl, hv1, hv2, rfl, hCH⟩, rfl⟩, rfl⟩) (Nat.le_of_ble_eq_true rfl) (Nat.le_of_ble_eq_true rfl) d_B_chosenFor_34
set_option maxHeartbeats 4000000 in
set_option maxRecDepth 100000 in
theorem ct_B_cost {l : Launch} {G : hG} {sa : xS} (hl0 : l.stackTraces = false) (f : hm) (x : Nat) (a : AD) (b : BD) (hk : bk G f x a b) (p0 n0 : Int32) : xl_ l G sa y_B_cost w_B_cost { frames := 7, cells := 2, slots := 12, locals := 180 } [.ref x, .int p0, .int n0] f (fun r u => okx p0 (bN b) ∧ N_q n0 ∧ K_cost b p0 n0 r ∧ u = f) (bad (okx p0 (bN b)) (N_q n0)) := by
  intro sz
  refine x_ofW (cc := c_B_cost) (maxL := 4) (ret := (some .long)) (by decide) rfl (Nat.le_of_ble_eq_true rfl) ?_
  intro p e s m below meth c ls C hex hN hZ hsz hP hl
  obtain ⟨hx, hb, hml, hown, -, -, -, -⟩ := id C
  subst hsz
  have hA0 : ∀ q, s.heap.size ≤ q → hA f s.heap.size q := hA.new
  have hS : va_S (hA f s.heap.size) s.heap s.heap [] := va_S.rf
  replace hl : lv_has ls 4 [(0, .ref x), (1, .int p0), (2, .int n0)] := hl
  have hNN : bN b ≤ 40 := hk.2.2.2.2.1.1
  have hRC : bRc b ≤ 10 := hk.2.2.2.2.1.2.1
  have hHC : bHc b ≤ 40 := hk.2.2.2.2.1.2.2
  refine lv_aload_n hx hb d_B_cost_0 rfl (lv_at hl 0 rfl) ?_
  refine lv_iload_n hx hb d_B_cost_1 rfl (lv_at hl 1 rfl) ?_
  refine x_callq (x_runV C hN hZ hl.1 (ct_B_partOf (sa := sa) hl0 f x p0 (aPa a) (bN b) _ _ _ _ _ _ _ (fun i => aAd a i 0) hNN hk.1.1 hk.1.2.1 (fun j hj => if_pos hj) _) (cx_V C 1 wd_239 wd_241 wp_1 wd_1 wd_242 rfl rfl (by decide +kernel) ⟨Nat.le_of_ble_eq_true rfl, Nat.le_of_ble_eq_true rfl⟩) hP hS hA0 hk.1.1 rfl rfl rfl (Nat.le_of_ble_eq_true rfl) d_B_cost_2 ⟨Nat.le_of_ble_eq_true rfl, Nat.le_of_ble_eq_true rfl⟩) hP hS hA0 (fun E ce q9 H locs hE hP hS h1 h2 h3 => x_out C hex hP hS (Or.inl hE) h1 h2 h3 (Nat.le_of_ble_eq_true rfl) (Nat.le_of_ble_eq_true rfl)) (fun r2 f1 H locs hq hP hS => ?_)
  obtain ⟨hu, i, hi, rfl, rfl⟩ := hq
  rw [hu] at hP
  have hp_ := hk.2.1 i hi
  have hD_ := hk.2.2.2.2.2.1 i hi
  refine lv_astore_n (lv' := [(3, .ref (aAd a i 0)), (0, .ref x), (1, .int (nI i)), (2, .int n0)]) hx hb d_B_cost_5 rfl hl (by decide) rfl (fun ls hl => ?_)
  refine lv_iload_n hx hb d_B_cost_6 rfl (lv_at hl 3 rfl) ?_
  refine lv_i2l (v := n0.toInt64) hx hb d_B_cost_7 rfl ?_
  refine lv_lconst (v := 1) hx hb d_B_cost_8 (by decide) ?_
  refine lv_ldc2 hx hb hown (C.w wd_351) d_B_cost_9 ?_
  refine x_callv (x_runS C hN hZ hl.1 (ct_B_checkNumber (sa := sa) hl0 f (n0).toInt64 1 10000 _) (cx_S C 3 wd_75 wd_76 wd_1 wd_77 rfl rfl (by decide +kernel) ⟨Nat.le_of_ble_eq_true rfl, Nat.le_of_ble_eq_true rfl⟩) hP hS hA0 rfl rfl (Nat.le_of_ble_eq_true rfl) d_B_cost_12 ⟨Nat.le_of_ble_eq_true rfl, Nat.le_of_ble_eq_true rfl⟩) hP hS hA0 (fun E ce q9 H locs hE hP hS h1 h2 h3 => x_out C hex hP hS (Or.inr ⟨hE.1, ⟨i, hi, rfl⟩, fun z9 => hE.2 ((nu_chk (by decide) (by decide)).mpr z9)⟩) h1 h2 h3 (Nat.le_of_ble_eq_true rfl) (Nat.le_of_ble_eq_true rfl)) (fun f3 H locs hq hP hS => ?_)
  obtain ⟨hu, q_z⟩ := hq
  have hn0 : (1 : Int32) ≤ n0 ∧ n0 ≤ 10000 := (nu_chk (by decide) (by decide)).mp q_z
  rw [hu] at hP
  have hN0 : N_q n0 := hn0
  obtain ⟨v, hv1, hv2, rfl⟩ := nu_nat1 (n := 10000) hn0 (by decide)
  refine lv_aload_n hx hb d_B_cost_15 rfl (lv_at hl 1 rfl) ?_
  refine lv_aload_n hx hb d_B_cost_16 rfl (lv_at hl 0 rfl) ?_
  refine lv_iload_n hx hb d_B_cost_17 rfl (lv_at hl 3 rfl) ?_
  refine g_calll (g_runV C hl.1 (ct_B_leastCost f x a b hk i hi v hv1 hv2 _) (cx_V C 2 wd_427 wd_429 wp_8 wd_1 wd_430 rfl rfl (by decide +kernel) ⟨Nat.le_of_ble_eq_true rfl, Nat.le_of_ble_eq_true rfl⟩) hP hk.1.1 rfl rfl rfl (Nat.le_of_ble_eq_true rfl) d_B_cost_18 ⟨Nat.le_of_ble_eq_true rfl, Nat.le_of_ble_eq_true rfl⟩) hP hS hA0 (fun r6 f5 H locs hq hP hS => ?_)
  obtain ⟨⟨o, hBT, rfl⟩, hu⟩ := hq
  rw [hu] at hP
  refine vx_ret ?_
  exact g_lret C hP hS (⟨⟨i, hi, rfl⟩, hN0, ⟨i, v, o, hi, rfl, hv1, hv2, rfl, hBT, rfl⟩, rfl⟩) (Nat.le_of_ble_eq_true rfl) (Nat.le_of_ble_eq_true rfl) d_B_cost_21
set_option maxHeartbeats 4000000 in
set_option maxRecDepth 100000 in
theorem ct_B_best {l : Launch} {G : hG} {sa : xS} (hl0 : l.stackTraces = false) (f : hm) (x : Nat) (a : AD) (b : BD) (hk : bk G f x a b) (p0 n0 : Int32) : xi_ l G sa y_B_best w_B_best { frames := 7, cells := 2, slots := 12, locals := 180 } [.ref x, .int p0, .int n0] f (fun r u => okx p0 (bN b) ∧ N_q n0 ∧ K_best b p0 n0 r ∧ u = f) (bad (okx p0 (bN b)) (N_q n0)) := by
  intro sz
  refine x_ofW (cc := c_B_best) (maxL := 4) (ret := (some .int)) (by decide) rfl (Nat.le_of_ble_eq_true rfl) ?_
  intro p e s m below meth c ls C hex hN hZ hsz hP hl
  obtain ⟨hx, hb, hml, hown, -, -, -, -⟩ := id C
  subst hsz
  have hA0 : ∀ q, s.heap.size ≤ q → hA f s.heap.size q := hA.new
  have hS : va_S (hA f s.heap.size) s.heap s.heap [] := va_S.rf
  replace hl : lv_has ls 4 [(0, .ref x), (1, .int p0), (2, .int n0)] := hl
  have hNN : bN b ≤ 40 := hk.2.2.2.2.1.1
  have hRC : bRc b ≤ 10 := hk.2.2.2.2.1.2.1
  have hHC : bHc b ≤ 40 := hk.2.2.2.2.1.2.2
  refine lv_aload_n hx hb d_B_best_0 rfl (lv_at hl 0 rfl) ?_
  refine lv_iload_n hx hb d_B_best_1 rfl (lv_at hl 1 rfl) ?_
  refine x_callq (x_runV C hN hZ hl.1 (ct_B_partOf (sa := sa) hl0 f x p0 (aPa a) (bN b) _ _ _ _ _ _ _ (fun i => aAd a i 0) hNN hk.1.1 hk.1.2.1 (fun j hj => if_pos hj) _) (cx_V C 1 wd_239 wd_241 wp_1 wd_1 wd_242 rfl rfl (by decide +kernel) ⟨Nat.le_of_ble_eq_true rfl, Nat.le_of_ble_eq_true rfl⟩) hP hS hA0 hk.1.1 rfl rfl rfl (Nat.le_of_ble_eq_true rfl) d_B_best_2 ⟨Nat.le_of_ble_eq_true rfl, Nat.le_of_ble_eq_true rfl⟩) hP hS hA0 (fun E ce q9 H locs hE hP hS h1 h2 h3 => x_out C hex hP hS (Or.inl hE) h1 h2 h3 (Nat.le_of_ble_eq_true rfl) (Nat.le_of_ble_eq_true rfl)) (fun r2 f1 H locs hq hP hS => ?_)
  obtain ⟨hu, i, hi, rfl, rfl⟩ := hq
  rw [hu] at hP
  have hp_ := hk.2.1 i hi
  have hD_ := hk.2.2.2.2.2.1 i hi
  refine lv_astore_n (lv' := [(3, .ref (aAd a i 0)), (0, .ref x), (1, .int (nI i)), (2, .int n0)]) hx hb d_B_best_5 rfl hl (by decide) rfl (fun ls hl => ?_)
  refine lv_iload_n hx hb d_B_best_6 rfl (lv_at hl 3 rfl) ?_
  refine lv_i2l (v := n0.toInt64) hx hb d_B_best_7 rfl ?_
  refine lv_lconst (v := 1) hx hb d_B_best_8 (by decide) ?_
  refine lv_ldc2 hx hb hown (C.w wd_351) d_B_best_9 ?_
  refine x_callv (x_runS C hN hZ hl.1 (ct_B_checkNumber (sa := sa) hl0 f (n0).toInt64 1 10000 _) (cx_S C 3 wd_75 wd_76 wd_1 wd_77 rfl rfl (by decide +kernel) ⟨Nat.le_of_ble_eq_true rfl, Nat.le_of_ble_eq_true rfl⟩) hP hS hA0 rfl rfl (Nat.le_of_ble_eq_true rfl) d_B_best_12 ⟨Nat.le_of_ble_eq_true rfl, Nat.le_of_ble_eq_true rfl⟩) hP hS hA0 (fun E ce q9 H locs hE hP hS h1 h2 h3 => x_out C hex hP hS (Or.inr ⟨hE.1, ⟨i, hi, rfl⟩, fun z9 => hE.2 ((nu_chk (by decide) (by decide)).mpr z9)⟩) h1 h2 h3 (Nat.le_of_ble_eq_true rfl) (Nat.le_of_ble_eq_true rfl)) (fun f3 H locs hq hP hS => ?_)
  obtain ⟨hu, q_z⟩ := hq
  have hn0 : (1 : Int32) ≤ n0 ∧ n0 ≤ 10000 := (nu_chk (by decide) (by decide)).mp q_z
  rw [hu] at hP
  have hN0 : N_q n0 := hn0
  obtain ⟨v, hv1, hv2, rfl⟩ := nu_nat1 (n := 10000) hn0 (by decide)
  refine lv_aload_n hx hb d_B_best_15 rfl (lv_at hl 1 rfl) ?_
  refine lv_aload_n hx hb d_B_best_16 rfl (lv_at hl 0 rfl) ?_
  refine lv_iload_n hx hb d_B_best_17 rfl (lv_at hl 3 rfl) ?_
  refine g_calli (g_runV C hl.1 (ct_B_bestTotal f x a b hk i hi v hv1 hv2 _) (cx_V C 2 wd_431 wd_433 wp_9 wd_1 wd_434 rfl rfl (by decide +kernel) ⟨Nat.le_of_ble_eq_true rfl, Nat.le_of_ble_eq_true rfl⟩) hP hk.1.1 rfl rfl rfl (Nat.le_of_ble_eq_true rfl) d_B_best_18 ⟨Nat.le_of_ble_eq_true rfl, Nat.le_of_ble_eq_true rfl⟩) hP hS hA0 (fun r6 f5 H locs hq hP hS => ?_)
  obtain ⟨⟨o, hBT, rfl⟩, hu⟩ := hq
  rw [hu] at hP
  refine vx_ret ?_
  exact g_iret C hP hS (⟨⟨i, hi, rfl⟩, hN0, ⟨i, v, o, hi, rfl, hv1, hv2, rfl, hBT, rfl⟩, rfl⟩) (Nat.le_of_ble_eq_true rfl) (Nat.le_of_ble_eq_true rfl) d_B_best_21
set_option maxHeartbeats 4000000 in
set_option maxRecDepth 100000 in
theorem ct_B_choose {l : Launch} {G : hG} {sa : xS} (hl0 : l.stackTraces = false) (f : hm) (x : Nat) (a : AD) (b : BD) (hk : bk G f x a b) (p0 q0 n0 : Int32) (d : Int64) : xi_ l G sa y_B_choose w_B_choose { frames := 8, cells := 3, slots := 18, locals := 280 } [.ref x, .int p0, .int q0, .int n0, .long d] f (fun r u => I_alt b p0 q0 ∧ N_q n0 ∧ K_choose b p0 q0 n0 d r ∧ u = f) (bad (I_alt b p0 q0) (N_q n0)) := by
  intro sz
  refine x_ofW (cc := c_B_choose) (maxL := 7) (ret := (some .int)) (by decide) rfl (Nat.le_of_ble_eq_true rfl) ?_
  intro p e s m below meth c ls C hex hN hZ hsz hP hl
  obtain ⟨hx, hb, hml, hown, -, -, -, -⟩ := id C
  subst hsz
  have hA0 : ∀ q, s.heap.size ≤ q → hA f s.heap.size q := hA.new
  have hS : va_S (hA f s.heap.size) s.heap s.heap [] := va_S.rf
  replace hl : lv_has ls 7 [(0, .ref x), (1, .int p0), (2, .int q0), (3, .int n0), (4, .long d)] := hl
  have hNN : bN b ≤ 40 := hk.2.2.2.2.1.1
  have hRC : bRc b ≤ 10 := hk.2.2.2.2.1.2.1
  have hHC : bHc b ≤ 40 := hk.2.2.2.2.1.2.2
  refine lv_aload_n hx hb d_B_choose_0 rfl (lv_at hl 0 rfl) ?_
  refine lv_iload_n hx hb d_B_choose_1 rfl (lv_at hl 1 rfl) ?_
  refine lv_iload_n hx hb d_B_choose_2 rfl (lv_at hl 2 rfl) ?_
  refine lv_iload_n hx hb d_B_choose_3 rfl (lv_at hl 3 rfl) ?_
  refine lv_lload hx hb d_B_choose_4 (lv_at hl 4 rfl) ?_
  refine x_callq (x_runV C hN hZ hl.1 (ct_B_chosenFor (sa := sa) hl0 f x a b hk p0 q0 n0 d _) (cx_V C 4 wd_472 wd_474 wp_11 wd_1 wd_475 rfl rfl (by decide +kernel) ⟨Nat.le_of_ble_eq_true rfl, Nat.le_of_ble_eq_true rfl⟩) hP hS hA0 hk.1.1 rfl rfl rfl (Nat.le_of_ble_eq_true rfl) d_B_choose_6 ⟨Nat.le_of_ble_eq_true rfl, Nat.le_of_ble_eq_true rfl⟩) hP hS hA0 (fun E ce q9 H locs hE hP hS h1 h2 h3 => x_out C hex hP hS (hE) h1 h2 h3 (Nat.le_of_ble_eq_true rfl) (Nat.le_of_ble_eq_true rfl)) (fun r2 f1 H locs hq hP hS => ?_)
  obtain ⟨hI0, hN0, ⟨v, o, hK, rfl⟩, hu⟩ := hq
  rw [hu] at hP
  rcases o with _ | z
  · have q_0 : True := trivial
    refine lv_astoreN (lv' := [(6, .null), (0, .ref x), (1, .int p0), (2, .int q0), (3, .int n0), (4, .long d)]) hx hb d_B_choose_9 hl (by decide) rfl (fun ls hl => ?_)
    refine lv_aloadN hx hb d_B_choose_11 (lv_at hl 0 rfl) ?_
    refine lv_ifnonnullN hx hb d_B_choose_13 ?_
    refine lv_iconst (v := (-1)) hx hb d_B_choose_16 (by decide) ?_
    refine lv_goto (tgt := 25) hx hb d_B_choose_17 (by decide) ?_
    refine vx_ret ?_
    exact g_iret C hP hS (⟨hI0, hN0, ⟨v, none, hK, rfl⟩, rfl⟩) (Nat.le_of_ble_eq_true rfl) (Nat.le_of_ble_eq_true rfl) d_B_choose_25
  · have hK2 := hK
    obtain ⟨i, j, hi, e1, hj, e2, hv1, hv2, rfl, hCH⟩ := hK2
    obtain ⟨o1, hm1, hf1, -⟩ := id hCH
    have hz := hm1.1
    have hpz_ := hk.2.1 z hz
    have hDz_ := hk.2.2.2.2.2.1 z hz
    refine lv_astore (lv' := [(6, .ref (aAd a z 0)), (0, .ref x), (1, .int p0), (2, .int q0), (3, .int (nI v)), (4, .long d)]) hx hb d_B_choose_9 hl (by decide) rfl (fun ls hl => ?_)
    refine lv_aload hx hb d_B_choose_11 (lv_at hl 0 rfl) ?_
    refine lv_ifnonnull (tgt := 20) hx hb d_B_choose_13 (by decide) ?_
    refine lv_aload hx hb d_B_choose_20 (lv_at hl 0 rfl) ?_
    refine g_get C i_P hP hpz_.1.1 rfl 0 (by decide) wd_191 rfl rfl d_B_choose_22 ?_
    refine vx_ret ?_
    exact g_iret C hP hS (⟨hI0, hN0, ⟨v, some z, hK, rfl⟩, rfl⟩) (Nat.le_of_ble_eq_true rfl) (Nat.le_of_ble_eq_true rfl) d_B_choose_25
set_option maxHeartbeats 4000000 in
set_option maxRecDepth 100000 in
theorem ct_B_buy {l : Launch} {G : hG} {sa : xS} (hl0 : l.stackTraces = false) (f : hm) (x : Nat) (a : AD) (b : BD) (hk : bk G f x a b) (p0 q0 n0 : Int32) (d : Int64) : xi_ l G sa y_B_buy w_B_buy { frames := 8, cells := 3, slots := 18, locals := 280 } [.ref x, .int p0, .int q0, .int n0, .long d] f (fun r u => I_alt b p0 q0 ∧ N_q n0 ∧ ∃ a1 b1, bk G u x a1 b1 ∧ K_buy b p0 q0 n0 d r b1) (bad (I_alt b p0 q0) (N_q n0)) := by
  intro sz
  refine x_ofW (cc := c_B_buy) (maxL := 8) (ret := (some .int)) (by decide) rfl (Nat.le_of_ble_eq_true rfl) ?_
  intro p e s m below meth c ls C hex hN hZ hsz hP hl
  obtain ⟨hx, hb, hml, hown, -, -, -, -⟩ := id C
  subst hsz
  have hA0 : ∀ q, s.heap.size ≤ q → hA f s.heap.size q := hA.new
  have hS : va_S (hA f s.heap.size) s.heap s.heap [] := va_S.rf
  replace hl : lv_has ls 8 [(0, .ref x), (1, .int p0), (2, .int q0), (3, .int n0), (4, .long d)] := hl
  have hNN : bN b ≤ 40 := hk.2.2.2.2.1.1
  have hRC : bRc b ≤ 10 := hk.2.2.2.2.1.2.1
  have hHC : bHc b ≤ 40 := hk.2.2.2.2.1.2.2
  refine lv_aload_n hx hb d_B_buy_0 rfl (lv_at hl 0 rfl) ?_
  refine lv_iload_n hx hb d_B_buy_1 rfl (lv_at hl 1 rfl) ?_
  refine lv_iload_n hx hb d_B_buy_2 rfl (lv_at hl 2 rfl) ?_
  refine lv_iload_n hx hb d_B_buy_3 rfl (lv_at hl 3 rfl) ?_
  refine lv_lload hx hb d_B_buy_4 (lv_at hl 4 rfl) ?_
  refine x_callq (x_runV C hN hZ hl.1 (ct_B_chosenFor (sa := sa) hl0 f x a b hk p0 q0 n0 d _) (cx_V C 4 wd_472 wd_474 wp_11 wd_1 wd_475 rfl rfl (by decide +kernel) ⟨Nat.le_of_ble_eq_true rfl, Nat.le_of_ble_eq_true rfl⟩) hP hS hA0 hk.1.1 rfl rfl rfl (Nat.le_of_ble_eq_true rfl) d_B_buy_6 ⟨Nat.le_of_ble_eq_true rfl, Nat.le_of_ble_eq_true rfl⟩) hP hS hA0 (fun E ce q9 H locs hE hP hS h1 h2 h3 => x_out C hex hP hS (hE) h1 h2 h3 (Nat.le_of_ble_eq_true rfl) (Nat.le_of_ble_eq_true rfl)) (fun r2 f1 H locs hq hP hS => ?_)
  obtain ⟨hI0, hN0, ⟨v, o, hK, rfl⟩, hu⟩ := hq
  rw [hu] at hP
  rcases o with _ | z
  · have q_0 : True := trivial
    refine lv_astoreN (lv' := [(6, .null), (0, .ref x), (1, .int p0), (2, .int q0), (3, .int n0), (4, .long d)]) hx hb d_B_buy_9 hl (by decide) rfl (fun ls hl => ?_)
    refine lv_aloadN hx hb d_B_buy_11 (lv_at hl 0 rfl) ?_
    refine lv_ifnonnullN hx hb d_B_buy_13 ?_
    refine lv_iconst (v := (-1)) hx hb d_B_buy_16 (by decide) ?_
    refine vx_ret ?_
    exact g_iret C hP hS (⟨hI0, hN0, a, b, hk, v, none, hK, Or.inl ⟨rfl, rfl, rfl⟩⟩) (Nat.le_of_ble_eq_true rfl) (Nat.le_of_ble_eq_true rfl) d_B_buy_17
  · have hK2 := hK
    obtain ⟨i, j, hi, e1, hj, e2, hv1, hv2, rfl, hCH⟩ := hK2
    obtain ⟨o1, hm1, hf1, -⟩ := id hCH
    have hz := hm1.1
    have hpz_ := hk.2.1 z hz
    have hDz_ := hk.2.2.2.2.2.1 z hz
    refine lv_astore (lv' := [(6, .ref (aAd a z 0)), (0, .ref x), (1, .int p0), (2, .int q0), (3, .int (nI v)), (4, .long d)]) hx hb d_B_buy_9 hl (by decide) rfl (fun ls hl => ?_)
    refine lv_aload hx hb d_B_buy_11 (lv_at hl 0 rfl) ?_
    refine lv_ifnonnull (tgt := 18) hx hb d_B_buy_13 (by decide) ?_
    refine lv_aload_n hx hb d_B_buy_18 rfl (lv_at hl 1 rfl) ?_
    refine lv_aload hx hb d_B_buy_19 (lv_at hl 0 rfl) ?_
    refine lv_iload_n hx hb d_B_buy_21 rfl (lv_at hl 4 rfl) ?_
    refine g_calli (g_runV C hl.1 (ct_B_bestTotal f x a b hk z hz v hv1 hv2 _) (cx_V C 2 wd_431 wd_433 wp_9 wd_1 wd_434 rfl rfl (by decide +kernel) ⟨Nat.le_of_ble_eq_true rfl, Nat.le_of_ble_eq_true rfl⟩) hP hk.1.1 rfl rfl rfl (Nat.le_of_ble_eq_true rfl) d_B_buy_22 ⟨Nat.le_of_ble_eq_true rfl, Nat.le_of_ble_eq_true rfl⟩) hP hS hA0 (fun r4 f3 H locs hq hP hS => ?_)
    obtain ⟨⟨ot, hBT, rfl⟩, hu⟩ := hq
    rw [hu] at hP
    obtain ⟨hB1, -, hB3⟩ := OF_lt hDz_ hk.2.2.2.2.2.2.2.2.1 hf1
    have e9 : ot = some o1 := BT_uni hBT hB1
    subst e9
    have hpc := hDz_.1.2.1
    refine lv_istore (lv' := [(7, .int (nI o1.1)), (6, .ref (aAd a z 0)), (0, .ref x), (1, .int p0), (2, .int q0), (3, .int (nI v)), (4, .long d)]) hx hb d_B_buy_25 hl (by decide) rfl (fun ls hl => ?_)
    refine lv_aload hx hb d_B_buy_27 (lv_at hl 1 rfl) ?_
    refine lv_dup hx hb d_B_buy_29 rfl ?_
    refine g_get C i_P hP hpz_.1.1 rfl 2 (by decide) wd_195 rfl rfl d_B_buy_30 ?_
    refine lv_iload hx hb d_B_buy_33 (lv_at hl 0 rfl) ?_
    refine lv_isub hx hb d_B_buy_35 ?_
    refine g_eqi (y := nI (pPc (bD b z) - o1.1)) (pk_sub hB3) ?_
    refine g_put C i_P t_P t_P_ok n_P hP hS hpz_.1.1 rfl 2 (by decide) wd_195 rfl rfl rfl (rfl) (Nat.le_of_ble_eq_true rfl) d_B_buy_36 (fun H locs hP hS => ?_)
    obtain ⟨f5, ef5⟩ : ∃ z99, z99 = va_up f (aAd a z 0) (some (ob 1 [.int (nI z), .int (nI (pMk (bD b z))), .int (nI (pPc (bD b z) - o1.1)), .ref (aAd a z 1), .ref (aAd a z 2), .ref (aAd a z 3), .ref (aAd a z 7), .ref (aAd a z 11)])) := ⟨_, rfl⟩
    replace hP : hH G (hA f s.heap.size) f5 H := by rw [ef5]; exact hP
    have hpz_11_f5 : f5 (aAd a z 0) = some (ob 1 [.int (nI z), .int (nI (pMk (bD b z))), .int (nI (pPc (bD b z) - o1.1)), .ref (aAd a z 1), .ref (aAd a z 2), .ref (aAd a z 3), .ref (aAd a z 7), .ref (aAd a z 11)]) := by rw [ef5]; exact va_up_self _ _ _
    refine lv_iload hx hb d_B_buy_39 (lv_at hl 0 rfl) ?_
    have hv_ : pV G f5 (aAd a z) z (dPc (bD b z) (pPc (bD b z) - o1.1)) (aSm a z) := pV_pc hpz_ (hk.2.2.1 z · z · hz · hz ·) _ ef5
    refine vx_ret ?_
    exact g_iret C hP hS (⟨hI0, hN0, _, _, bk_upd (S := [aAd a z 0]) hk hz (by rw [ef5]; refine hE.up ?_ (by simp); exact hE.rf) (fun q hq => Or.inl ⟨0, by omega, List.mem_singleton.mp hq⟩) hv_ (Or.inl rfl) ⟨⟨hDz_.1.1, by show pPc (bD b z) - o1.1 ≤ 20000; omega, hDz_.1.2.2⟩, hDz_.2⟩, v, some z, hK, Or.inr ⟨z, o1, rfl, hz, hB1, rfl, rfl⟩⟩) (Nat.le_of_ble_eq_true rfl) (Nat.le_of_ble_eq_true rfl) d_B_buy_41
