/-! PartBook: alternates, search. -/
set_option maxHeartbeats 4000000 in
set_option maxRecDepth 100000 in
theorem ct_B_alternates {l : Launch} {G : hG} {sa : xS} (hl0 : l.stackTraces = false) (f : hm) (x : Nat) (a : AD) (b : BD) (hk : bk G f x a b) (p0 q0 : Int32) : xi_ l G sa y_B_alternates w_B_alternates { frames := 8, cells := 2, slots := 12, locals := 160 } [.ref x, .int p0, .int q0] f (fun r u => I_alt b p0 q0 ∧ ∃ a1 b1, bk G u x a1 b1 ∧ K_alt b p0 q0 r b1) (fun E => E = eI ∧ ¬ I_alt b p0 q0) := by
  intro sz
  refine x_ofW (cc := c_B_alternates) (maxL := 5) (ret := (some .int)) (by decide) rfl (Nat.le_of_ble_eq_true rfl) ?_
  intro p e s m below meth c ls C hex hN hZ hsz hP hl
  obtain ⟨hx, hb, hml, hown, -, -, -, -⟩ := id C
  subst hsz
  have hA0 : ∀ q, s.heap.size ≤ q → hA f s.heap.size q := hA.new
  have hS : va_S (hA f s.heap.size) s.heap s.heap [] := va_S.rf
  replace hl : lv_has ls 5 [(0, .ref x), (1, .int p0), (2, .int q0)] := hl
  have hNN : bN b ≤ 40 := hk.2.2.2.2.1.1
  have hRC : bRc b ≤ 10 := hk.2.2.2.2.1.2.1
  have hHC : bHc b ≤ 40 := hk.2.2.2.2.1.2.2
  refine lv_aload_n hx hb d_B_alternates_0 rfl (lv_at hl 0 rfl) ?_
  refine lv_iload_n hx hb d_B_alternates_1 rfl (lv_at hl 1 rfl) ?_
  refine x_callq (x_runV C hN hZ hl.1 (ct_B_partOf (sa := sa) hl0 f x p0 (aPa a) (bN b) _ _ _ _ _ _ _ (fun i => aAd a i 0) hNN hk.1.1 hk.1.2.1 (fun j hj => if_pos hj) _) (cx_V C 1 wd_239 wd_241 wp_1 wd_1 wd_242 rfl rfl (by decide +kernel) ⟨Nat.le_of_ble_eq_true rfl, Nat.le_of_ble_eq_true rfl⟩) hP hS hA0 hk.1.1 rfl rfl rfl (Nat.le_of_ble_eq_true rfl) d_B_alternates_2 ⟨Nat.le_of_ble_eq_true rfl, Nat.le_of_ble_eq_true rfl⟩) hP hS hA0 (fun E ce q9 H locs hE hP hS h1 h2 h3 => x_out C hex hP hS (⟨hE.1, fun z9 => hE.2 z9.1⟩) h1 h2 h3 (Nat.le_of_ble_eq_true rfl) (Nat.le_of_ble_eq_true rfl)) (fun r2 f1 H locs hq hP hS => ?_)
  obtain ⟨hu, i, hi, rfl, rfl⟩ := hq
  rw [hu] at hP
  have hp_ := hk.2.1 i hi
  have hD_ := hk.2.2.2.2.2.1 i hi
  refine lv_astore_n (lv' := [(3, .ref (aAd a i 0)), (0, .ref x), (1, .int (nI i)), (2, .int q0)]) hx hb d_B_alternates_5 rfl hl (by decide) rfl (fun ls hl => ?_)
  refine lv_iload_n hx hb d_B_alternates_6 rfl (lv_at hl 3 rfl) ?_
  refine lv_aload_n hx hb d_B_alternates_7 rfl (lv_at hl 1 rfl) ?_
  refine g_get C i_B hP hk.1.1 rfl 4 (by decide) wd_35 rfl rfl d_B_alternates_8 ?_
  refine x_callv (x_runS C hN hZ hl.1 (ct_B_checkIndex (sa := sa) hl0 f q0 (nI (bRc b)) _) (cx_S C 2 wd_259 wd_260 wd_1 wd_261 rfl rfl (by decide +kernel) ⟨Nat.le_of_ble_eq_true rfl, Nat.le_of_ble_eq_true rfl⟩) hP hS hA0 rfl rfl (Nat.le_of_ble_eq_true rfl) d_B_alternates_11 ⟨Nat.le_of_ble_eq_true rfl, Nat.le_of_ble_eq_true rfl⟩) hP hS hA0 (fun E ce q9 H locs hE hP hS h1 h2 h3 => x_out C hex hP hS (⟨hE.1, fun z9 => hE.2 ((ix_chk (by omega)).mpr z9.2)⟩) h1 h2 h3 (Nat.le_of_ble_eq_true rfl) (Nat.le_of_ble_eq_true rfl)) (fun f3 H locs hq hP hS => ?_)
  obtain ⟨hu, q_z⟩ := hq
  obtain ⟨j, hj, rfl⟩ := (ix_chk (n := (bRc b)) (by omega)).mp q_z
  rw [hu] at hP
  refine lv_aload_n hx hb d_B_alternates_14 rfl (lv_at hl 1 rfl) ?_
  refine lv_iconst (v := 0) hx hb d_B_alternates_15 (by decide) ?_
  refine g_put C i_B t_B t_B_ok n_B hP hS hk.1.1 rfl 7 (by decide) wd_38 rfl rfl rfl (rfl) (Nat.le_of_ble_eq_true rfl) d_B_alternates_16 (fun H locs hP hS => ?_)
  obtain ⟨f5, ef5⟩ : ∃ z99, z99 = va_up f x (some (ob 3 [.ref (aPa a), .int (nI (bN b)), .ref (aPl a), .ref (aAs a), .int (nI (bRc b)), .ref (aRa a), .ref (aHi a), .int 0])) := ⟨_, rfl⟩
  replace hP : hH G (hA f s.heap.size) f5 H := by rw [ef5]; exact hP
  have hk11_f5 : f5 x = some (ob 3 [.ref (aPa a), .int (nI (bN b)), .ref (aPl a), .ref (aAs a), .int (nI (bRc b)), .ref (aRa a), .ref (aHi a), .int 0]) := by rw [ef5]; exact va_up_self _ _ _
  have hk121_f5 := (hm_up (v := some (ob 3 [.ref (aPa a), .int (nI (bN b)), .ref (aPl a), .ref (aAs a), .int (nI (bRc b)), .ref (aRa a), .ref (aHi a), .int 0])) ef5 (hm_ne hk.1.2.1 hk.1.1 (by simp))).trans hk.1.2.1
  have hk1221_f5 := (hm_up (v := some (ob 3 [.ref (aPa a), .int (nI (bN b)), .ref (aPl a), .ref (aAs a), .int (nI (bRc b)), .ref (aRa a), .ref (aHi a), .int 0])) ef5 (hm_ne hk.1.2.2.1 hk.1.1 (by simp))).trans hk.1.2.2.1
  have hk12221_f5 := (hm_up (v := some (ob 3 [.ref (aPa a), .int (nI (bN b)), .ref (aPl a), .ref (aAs a), .int (nI (bRc b)), .ref (aRa a), .ref (aHi a), .int 0])) ef5 (hm_ne hk.1.2.2.2.1 hk.1.1 (by simp))).trans hk.1.2.2.2.1
  have hk122221_f5 := (hm_up (v := some (ob 3 [.ref (aPa a), .int (nI (bN b)), .ref (aPl a), .ref (aAs a), .int (nI (bRc b)), .ref (aRa a), .ref (aHi a), .int 0])) ef5 (hm_ne hk.1.2.2.2.2.1 hk.1.1 (by simp))).trans hk.1.2.2.2.2.1
  have hk122222_f5 := (hm_up (v := some (ob 3 [.ref (aPa a), .int (nI (bN b)), .ref (aPl a), .ref (aAs a), .int (nI (bRc b)), .ref (aRa a), .ref (aHi a), .int 0])) ef5 (hm_ne hk.1.2.2.2.2.2 hk.1.1 (by simp))).trans hk.1.2.2.2.2.2
  refine lv_iconst (v := 0) hx hb d_B_alternates_19 (by decide) ?_
  refine lv_istore (lv' := [(4, .int 0), (3, .ref (aAd a i 0)), (0, .ref x), (1, .int (nI i)), (2, .int (nI j))]) hx hb d_B_alternates_20 hl (by decide) rfl (fun ls hl => ?_)
  have loop : ∀ (d k : Nat) (fi : hm) (ls : Array Slot) (H : Heap) (locs : List Loc), bN b < k + d → k ≤ bN b → bk G fi x a (bHiS b (fH (fun k => AL b k i j) (gb b none) (bHi b) k).1 (fH (fun k => AL b k i j) (gb b none) (bHi b) k).2) → hH G (hA f s.heap.size) fi H → va_S (hA f s.heap.size) s.heap H locs → lv_has ls 5 [(4, .int (nI k)), (0, .ref x), (3, .ref (aAd a i 0)), (2, .int (nI j))] → W p l e { frames := 8, cells := 2, slots := 12, locals := 160 } s m #[.ref x, .int (nI i), .int (nI j)] below meth c H locs 2 12 (vx_MQ below (va_Qi (fun r u => I_alt b (nI i) (nI j) ∧ ∃ a1 b1, bk G u x a1 b1 ∧ K_alt b (nI i) (nI j) r b1) (hB G (hA f s.heap.size)) (hA f s.heap.size)) (xX G f s.heap.size (fun E => E = eI ∧ ¬ I_alt b (nI i) (nI j))) #[.ref x, .int (nI i), .int (nI j)] s 2 12 (hA f s.heap.size)) (F0 m 22 ls []) := by
    intro d
    induction d with
    | zero => intro k fi ls H locs h1 h2; exact absurd h1 (by omega)
    | succ d ih =>
      intro k fi ls H locs h1 h2 hkF hP hS hl
      have oF : fi x = some (ob 3 [.ref (aPa a), .int (nI (bN b)), .ref (aPl a), .ref (aAs a), .int (nI (bRc b)), .ref (aRa a), .ref (aHi a), .int (nI (fH (fun k => AL b k i j) (gb b none) (bHi b) k).1)]) := hkF.1.1
      refine lv_iload hx hb d_B_alternates_22 (lv_at hl 0 rfl) ?_
      refine lv_aload_n hx hb d_B_alternates_24 rfl (lv_at hl 1 rfl) ?_
      refine g_get C i_B hP oF rfl 1 (by decide) wd_32 rfl rfl d_B_alternates_25 ?_
      refine lv_icmp_ge (tgt := 65) hx hb d_B_alternates_28 (by decide) (fun c_28 => ?_) (fun c_28 => ?_)
      · have q_1 : k = bN b := by have := (nI_leI (by omega) (by omega)).mp c_28; omega
        refine lv_aload_n hx hb d_B_alternates_65 rfl (lv_at hl 1 rfl) ?_
        refine g_get C i_B hP oF rfl 7 (by decide) wd_38 rfl rfl d_B_alternates_66 ?_
        refine vx_ret ?_
        exact g_iret C hP hS (⟨⟨⟨i, hi, rfl⟩, ⟨j, hj, rfl⟩⟩, a, _, hkF, i, j, _, hi, rfl, hj, rfl, by rw [← q_1], rfl, rfl⟩) (Nat.le_of_ble_eq_true rfl) (Nat.le_of_ble_eq_true rfl) d_B_alternates_69
      · have hkk : k < bN b := Nat.lt_of_not_le (fun z9 => c_28 ((nI_leI (by omega) (by omega)).mpr z9))
        refine lv_aload_n hx hb d_B_alternates_31 rfl (lv_at hl 1 rfl) ?_
        refine lv_aload_n hx hb d_B_alternates_32 rfl (lv_at hl 1 rfl) ?_
        refine g_get C i_B hP oF rfl 0 (by decide) wd_31 rfl rfl d_B_alternates_33 ?_
        refine lv_iload hx hb d_B_alternates_36 (lv_at hl 0 rfl) ?_
        refine g_aaldN C hP hkF.1.2.1 (j := k) (by omega) (by decide) d_B_alternates_38 ?_
        refine g_eqq (y := aAd a k 0) (if_pos hkk) ?_
        refine lv_aload_n hx hb d_B_alternates_39 rfl (lv_at hl 2 rfl) ?_
        refine lv_iload_n hx hb d_B_alternates_40 rfl (lv_at hl 3 rfl) ?_
        refine g_calli (g_runV C hl.1 (ct_B_isAlternate fi x a (bHiS b (fH (fun k => AL b k i j) (gb b none) (bHi b) k).1 (fH (fun k => AL b k i j) (gb b none) (bHi b) k).2) hkF k i hkk hi j hj _) (cx_V C 3 wd_311 wd_313 wp_2 wd_1 wd_314 rfl rfl (by decide +kernel) ⟨Nat.le_of_ble_eq_true rfl, Nat.le_of_ble_eq_true rfl⟩) hP oF rfl rfl rfl (Nat.le_of_ble_eq_true rfl) d_B_alternates_41 ⟨Nat.le_of_ble_eq_true rfl, Nat.le_of_ble_eq_true rfl⟩) hP hS hA0 (fun r2 f1 H locs hq hP hS => ?_)
        obtain ⟨hq, hu⟩ := hq
        rw [hu] at hP
        refine lv_if_eq (tgt := 59) hx hb d_B_alternates_44 (by decide) (fun c_44 => ?_) (fun c_44 => ?_)
        · have hkN : bk G fi x a (bHiS b (fH (fun k => AL b k i j) (gb b none) (bHi b) (k + 1)).1 (fH (fun k => AL b k i j) (gb b none) (bHi b) (k + 1)).2) := by rw [fH_f (P := (fun k => AL b k i j)) (i := k) (show ¬ AL b k i j from bz_f hq c_44)]; exact hkF
          refine lv_iinc (v := nI (k + 1)) (lv' := [(4, .int (nI (k + 1))), (0, .ref x), (3, .ref (aAd a i 0)), (2, .int (nI j))]) hx hb d_B_alternates_59 hl (k := 0) rfl (nI_1 k) (by decide) rfl (fun ls hl => ?_)
          refine lv_goto (tgt := 22) hx hb d_B_alternates_62 (by decide) ?_
          exact ih (k + 1) fi ls H locs (by omega) (by omega) hkN hP hS (lv_sub hl [0, 1, 2, 3] rfl)
        · have hq9 := hq
          refine lv_aload_n hx hb d_B_alternates_47 rfl (lv_at hl 1 rfl) ?_
          refine lv_aload_n hx hb d_B_alternates_48 rfl (lv_at hl 1 rfl) ?_
          refine g_get C i_B hP oF rfl 0 (by decide) wd_31 rfl rfl d_B_alternates_49 ?_
          refine lv_iload hx hb d_B_alternates_52 (lv_at hl 0 rfl) ?_
          refine g_aaldN C hP hkF.1.2.1 (j := k) (by omega) (by decide) d_B_alternates_54 ?_
          refine g_eqq (y := aAd a k 0) (if_pos hkk) ?_
          refine lv_iconst (v := (-1)) hx hb d_B_alternates_55 (by decide) ?_
          refine g_callv (g_runV C hl.1 (ct_B_addHit fi x a (bHiS b (fH (fun k => AL b k i j) (gb b none) (bHi b) k).1 (fH (fun k => AL b k i j) (gb b none) (bHi b) k).2) hkF k hkk none (by have := (fH_mem (P := (fun k => AL b k i j)) (Q := (gb b none)) (h0 := bHi b) k).1; show (fH (fun k => AL b k i j) (gb b none) (bHi b) k).1 < 40; omega) (fun n hn => by cases hn) _) (cx_V C 2 wd_325 wd_327 wp_3 wd_1 wd_328 rfl rfl (by decide +kernel) ⟨Nat.le_of_ble_eq_true rfl, Nat.le_of_ble_eq_true rfl⟩) hP oF rfl rfl rfl (Nat.le_of_ble_eq_true rfl) d_B_alternates_56 ⟨Nat.le_of_ble_eq_true rfl, Nat.le_of_ble_eq_true rfl⟩) hP hS hA0 (fun f3 H locs hq hP hS => ?_)
          have hkN : bk G f3 x a (bHiS b (fH (fun k => AL b k i j) (gb b none) (bHi b) (k + 1)).1 (fH (fun k => AL b k i j) (gb b none) (bHi b) (k + 1)).2) := by rw [fH_t (P := (fun k => AL b k i j)) (i := k) (show AL b k i j from bz_t hq9 c_44)]; exact hq
          refine lv_iinc (v := nI (k + 1)) (lv' := [(4, .int (nI (k + 1))), (0, .ref x), (3, .ref (aAd a i 0)), (2, .int (nI j))]) hx hb d_B_alternates_59 hl (k := 0) rfl (nI_1 k) (by decide) rfl (fun ls hl => ?_)
          refine lv_goto (tgt := 22) hx hb d_B_alternates_62 (by decide) ?_
          exact ih (k + 1) f3 ls H locs (by omega) (by omega) hkN hP hS (lv_sub hl [0, 1, 2, 3] rfl)
  have hkE : bk G f5 x a (bHiS b 0 (bHi b)) := bk_six hk (by rw [ef5]; refine hE.up ?_ (by simp); exact hE.rf) ⟨hk11_f5, hk121_f5, hk1221_f5, hk12221_f5, hk122221_f5, hk122222_f5⟩ rfl rfl ⟨⟨hNN, hRC, Nat.zero_le _⟩, hk.2.2.2.2.2.1, hk.2.2.2.2.2.2.1, hk.2.2.2.2.2.2.2.1, hk.2.2.2.2.2.2.2.2.1, fun k hk9 => absurd hk9 (Nat.not_lt_zero _)⟩
  exact loop 41 0 f5 ls H locs (by omega) (Nat.zero_le _) hkE hP hS (lv_sub hl [0, 2, 1, 4] rfl)
set_option maxHeartbeats 4000000 in
set_option maxRecDepth 100000 in
theorem ct_B_search {l : Launch} {G : hG} {sa : xS} (hl0 : l.stackTraces = false) (f : hm) (x : Nat) (a : AD) (b : BD) (hk : bk G f x a b) (n0 : Int32) (x0 y0 z0 w0 : Int64) : xi_ l G sa y_B_search w_B_search { frames := 8, cells := 5, slots := 30, locals := 160 } [.ref x, .int n0, .long x0, .long y0, .long z0, .long w0] f (fun r u => okx n0 12 ∧ N_search x0 y0 z0 w0 ∧ ∃ a1 b1, bk G u x a1 b1 ∧ K_search b n0 x0 y0 z0 w0 r b1) (bad (okx n0 12) (N_search x0 y0 z0 w0)) := by
  intro sz
  refine x_ofW (cc := c_B_search) (maxL := 12) (ret := (some .int)) (by decide) rfl (Nat.le_of_ble_eq_true rfl) ?_
  intro p e s m below meth c ls C hex hN hZ hsz hP hl
  obtain ⟨hx, hb, hml, hown, -, -, -, -⟩ := id C
  subst hsz
  have hA0 : ∀ q, s.heap.size ≤ q → hA f s.heap.size q := hA.new
  have hS : va_S (hA f s.heap.size) s.heap s.heap [] := va_S.rf
  replace hl : lv_has ls 12 [(0, .ref x), (1, .int n0), (2, .long x0), (4, .long y0), (6, .long z0), (8, .long w0)] := hl
  have hNN : bN b ≤ 40 := hk.2.2.2.2.1.1
  have hRC : bRc b ≤ 10 := hk.2.2.2.2.1.2.1
  have hHC : bHc b ≤ 40 := hk.2.2.2.2.1.2.2
  refine lv_iload_n hx hb d_B_search_0 rfl (lv_at hl 1 rfl) ?_
  refine lv_bipush (v := 12) hx hb d_B_search_1 (by decide) ?_
  refine x_callv (x_runS C hN hZ hl.1 (ct_B_checkIndex (sa := sa) hl0 f n0 (nI 12) _) (cx_S C 2 wd_259 wd_260 wd_1 wd_261 rfl rfl (by decide +kernel) ⟨Nat.le_of_ble_eq_true rfl, Nat.le_of_ble_eq_true rfl⟩) hP hS hA0 rfl rfl (Nat.le_of_ble_eq_true rfl) d_B_search_3 ⟨Nat.le_of_ble_eq_true rfl, Nat.le_of_ble_eq_true rfl⟩) hP hS hA0 (fun E ce q9 H locs hE hP hS h1 h2 h3 => x_out C hex hP hS (Or.inl ⟨hE.1, fun z9 => hE.2 ((ix_chk (n := 12) (by omega)).mpr z9)⟩) h1 h2 h3 (Nat.le_of_ble_eq_true rfl) (Nat.le_of_ble_eq_true rfl)) (fun f1 H locs hq hP hS => ?_)
  obtain ⟨hu, q_z⟩ := hq
  obtain ⟨j, hj, rfl⟩ := (ix_chk (n := 12) (by omega)).mp q_z
  rw [hu] at hP
  refine lv_lload_n hx hb d_B_search_6 rfl (lv_at hl 2 rfl) ?_
  refine lv_lload hx hb d_B_search_7 (lv_at hl 3 rfl) ?_
  refine x_callv (x_runS C hN hZ hl.1 (ct_B_checkFraction (sa := sa) hl0 f x0 y0 _) (cx_S C 2 wd_263 wd_264 wd_1 wd_265 rfl rfl (by decide +kernel) ⟨Nat.le_of_ble_eq_true rfl, Nat.le_of_ble_eq_true rfl⟩) hP hS hA0 rfl rfl (Nat.le_of_ble_eq_true rfl) d_B_search_9 ⟨Nat.le_of_ble_eq_true rfl, Nat.le_of_ble_eq_true rfl⟩) hP hS hA0 (fun E ce q9 H locs hE hP hS h1 h2 h3 => x_out C hex hP hS (Or.inr ⟨hE.1, ⟨j, hj, rfl⟩, fun z9 => hE.2 z9.1⟩) h1 h2 h3 (Nat.le_of_ble_eq_true rfl) (Nat.le_of_ble_eq_true rfl)) (fun f3 H locs hq hP hS => ?_)
  obtain ⟨hu, hf1⟩ := hq
  rw [hu] at hP
  refine lv_lload hx hb d_B_search_12 (lv_at hl 4 rfl) ?_
  refine lv_lload hx hb d_B_search_14 (lv_at hl 5 rfl) ?_
  refine x_callv (x_runS C hN hZ hl.1 (ct_B_checkFraction (sa := sa) hl0 f z0 w0 _) (cx_S C 2 wd_263 wd_264 wd_1 wd_265 rfl rfl (by decide +kernel) ⟨Nat.le_of_ble_eq_true rfl, Nat.le_of_ble_eq_true rfl⟩) hP hS hA0 rfl rfl (Nat.le_of_ble_eq_true rfl) d_B_search_16 ⟨Nat.le_of_ble_eq_true rfl, Nat.le_of_ble_eq_true rfl⟩) hP hS hA0 (fun E ce q9 H locs hE hP hS h1 h2 h3 => x_out C hex hP hS (Or.inr ⟨hE.1, ⟨j, hj, rfl⟩, fun z9 => hE.2 z9.2⟩) h1 h2 h3 (Nat.le_of_ble_eq_true rfl) (Nat.le_of_ble_eq_true rfl)) (fun f5 H locs hq hP hS => ?_)
  obtain ⟨hu, hf2⟩ := hq
  rw [hu] at hP
  have hN0 : N_search x0 y0 z0 w0 := ⟨hf1, hf2⟩
  obtain ⟨a9, ha1, rfl⟩ := lu_nat (n := 1000000000) hf1.1 (by decide)
  obtain ⟨c1, hc1, hc2, rfl⟩ := lu_nat1 (n := 1000000) hf1.2 (by decide)
  obtain ⟨d1, hd1, rfl⟩ := lu_nat (n := 1000000000) hf2.1 (by decide)
  obtain ⟨e1, he1, he2, rfl⟩ := lu_nat1 (n := 1000000) hf2.2 (by decide)
  refine lv_aload_n hx hb d_B_search_19 rfl (lv_at hl 0 rfl) ?_
  refine lv_iconst (v := 0) hx hb d_B_search_20 (by decide) ?_
  refine g_put C i_B t_B t_B_ok n_B hP hS hk.1.1 rfl 7 (by decide) wd_38 rfl rfl rfl (rfl) (Nat.le_of_ble_eq_true rfl) d_B_search_21 (fun H locs hP hS => ?_)
  obtain ⟨f7, ef7⟩ : ∃ z99, z99 = va_up f x (some (ob 3 [.ref (aPa a), .int (nI (bN b)), .ref (aPl a), .ref (aAs a), .int (nI (bRc b)), .ref (aRa a), .ref (aHi a), .int 0])) := ⟨_, rfl⟩
  replace hP : hH G (hA f s.heap.size) f7 H := by rw [ef7]; exact hP
  have hk11_f7 : f7 x = some (ob 3 [.ref (aPa a), .int (nI (bN b)), .ref (aPl a), .ref (aAs a), .int (nI (bRc b)), .ref (aRa a), .ref (aHi a), .int 0]) := by rw [ef7]; exact va_up_self _ _ _
  have hk121_f7 := (hm_up (v := some (ob 3 [.ref (aPa a), .int (nI (bN b)), .ref (aPl a), .ref (aAs a), .int (nI (bRc b)), .ref (aRa a), .ref (aHi a), .int 0])) ef7 (hm_ne hk.1.2.1 hk.1.1 (by simp))).trans hk.1.2.1
  have hk1221_f7 := (hm_up (v := some (ob 3 [.ref (aPa a), .int (nI (bN b)), .ref (aPl a), .ref (aAs a), .int (nI (bRc b)), .ref (aRa a), .ref (aHi a), .int 0])) ef7 (hm_ne hk.1.2.2.1 hk.1.1 (by simp))).trans hk.1.2.2.1
  have hk12221_f7 := (hm_up (v := some (ob 3 [.ref (aPa a), .int (nI (bN b)), .ref (aPl a), .ref (aAs a), .int (nI (bRc b)), .ref (aRa a), .ref (aHi a), .int 0])) ef7 (hm_ne hk.1.2.2.2.1 hk.1.1 (by simp))).trans hk.1.2.2.2.1
  have hk122221_f7 := (hm_up (v := some (ob 3 [.ref (aPa a), .int (nI (bN b)), .ref (aPl a), .ref (aAs a), .int (nI (bRc b)), .ref (aRa a), .ref (aHi a), .int 0])) ef7 (hm_ne hk.1.2.2.2.2.1 hk.1.1 (by simp))).trans hk.1.2.2.2.2.1
  have hk122222_f7 := (hm_up (v := some (ob 3 [.ref (aPa a), .int (nI (bN b)), .ref (aPl a), .ref (aAs a), .int (nI (bRc b)), .ref (aRa a), .ref (aHi a), .int 0])) ef7 (hm_ne hk.1.2.2.2.2.2 hk.1.1 (by simp))).trans hk.1.2.2.2.2.2
  refine lv_iconst (v := 0) hx hb d_B_search_24 (by decide) ?_
  refine lv_istore (lv' := [(10, .int 0), (0, .ref x), (1, .int (nI j)), (2, .long (lN a9)), (4, .long (lN c1)), (6, .long (lN d1)), (8, .long (lN e1))]) hx hb d_B_search_25 hl (by decide) rfl (fun ls hl => ?_)
  have loop : ∀ (d k : Nat) (fi : hm) (ls : Array Slot) (H : Heap) (locs : List Loc), bN b < k + d → k ≤ bN b → bk G fi x a (bHiS b (fH (sP b j a9 c1 d1 e1) (gb b (some j)) (bHi b) k).1 (fH (sP b j a9 c1 d1 e1) (gb b (some j)) (bHi b) k).2) → hH G (hA f s.heap.size) fi H → va_S (hA f s.heap.size) s.heap H locs → lv_has ls 12 [(10, .int (nI k)), (0, .ref x), (1, .int (nI j)), (2, .long (lN a9)), (4, .long (lN c1)), (6, .long (lN d1)), (8, .long (lN e1))] → W p l e { frames := 8, cells := 5, slots := 30, locals := 160 } s m #[.ref x, .int (nI j), .long (lN a9), .long (lN c1), .long (lN d1), .long (lN e1)] below meth c H locs 5 30 (vx_MQ below (va_Qi (fun r u => okx (nI j) 12 ∧ N_search (lN a9) (lN c1) (lN d1) (lN e1) ∧ ∃ a1 b1, bk G u x a1 b1 ∧ K_search b (nI j) (lN a9) (lN c1) (lN d1) (lN e1) r b1) (hB G (hA f s.heap.size)) (hA f s.heap.size)) (xX G f s.heap.size (bad (okx (nI j) 12) (N_search (lN a9) (lN c1) (lN d1) (lN e1)))) #[.ref x, .int (nI j), .long (lN a9), .long (lN c1), .long (lN d1), .long (lN e1)] s 5 30 (hA f s.heap.size)) (F0 m 27 ls []) := by
    intro d
    induction d with
    | zero => intro k fi ls H locs h1 h2; exact absurd h1 (by omega)
    | succ d ih =>
      intro k fi ls H locs h1 h2 hkF hP hS hl
      have oF : fi x = some (ob 3 [.ref (aPa a), .int (nI (bN b)), .ref (aPl a), .ref (aAs a), .int (nI (bRc b)), .ref (aRa a), .ref (aHi a), .int (nI (fH (sP b j a9 c1 d1 e1) (gb b (some j)) (bHi b) k).1)]) := hkF.1.1
      refine lv_iload hx hb d_B_search_27 (lv_at hl 0 rfl) ?_
      refine lv_aload_n hx hb d_B_search_29 rfl (lv_at hl 1 rfl) ?_
      refine g_get C i_B hP oF rfl 1 (by decide) wd_32 rfl rfl d_B_search_30 ?_
      refine lv_icmp_ge (tgt := 92) hx hb d_B_search_33 (by decide) (fun c_33 => ?_) (fun c_33 => ?_)
      · have q_1 : k = bN b := by have := (nI_leI (by omega) (by omega)).mp c_33; omega
        refine lv_aload_n hx hb d_B_search_92 rfl (lv_at hl 1 rfl) ?_
        refine g_get C i_B hP oF rfl 7 (by decide) wd_38 rfl rfl d_B_search_93 ?_
        refine vx_ret ?_
        exact g_iret C hP hS (⟨⟨j, hj, rfl⟩, hN0, a, _, hkF, j, a9, c1, d1, e1, _, hj, rfl, ha1, rfl, hc1, hc2, rfl, hd1, rfl, he1, he2, rfl, by rw [← q_1], rfl, rfl⟩) (Nat.le_of_ble_eq_true rfl) (Nat.le_of_ble_eq_true rfl) d_B_search_96
      · have hkk : k < bN b := Nat.lt_of_not_le (fun z9 => c_33 ((nI_leI (by omega) (by omega)).mpr z9))
        have hpk_ := hkF.2.1 k hkk
        have hDk_ := hkF.2.2.2.2.2.1 k hkk
        refine lv_aload_n hx hb d_B_search_36 rfl (lv_at hl 1 rfl) ?_
        refine g_get C i_B hP oF rfl 0 (by decide) wd_31 rfl rfl d_B_search_37 ?_
        refine lv_iload hx hb d_B_search_40 (lv_at hl 0 rfl) ?_
        refine g_aaldN C hP hkF.1.2.1 (j := k) (by omega) (by decide) d_B_search_42 ?_
        refine g_eqq (y := aAd a k 0) (if_pos hkk) ?_
        refine lv_astore (lv' := [(11, .ref (aAd a k 0)), (10, .int (nI k)), (0, .ref x), (1, .int (nI j)), (2, .long (lN a9)), (4, .long (lN c1)), (6, .long (lN d1)), (8, .long (lN e1))]) hx hb d_B_search_43 hl (by decide) rfl (fun ls hl => ?_)
        refine lv_aload hx hb d_B_search_45 (lv_at hl 0 rfl) ?_
        refine lv_iload_n hx hb d_B_search_47 rfl (lv_at hl 3 rfl) ?_
        refine g_calli (g_runV C hl.1 (ct_P_has fi _ _ _ _ _ _ _ _ _ hpk_.1.1 _ hpk_.1.2.2.1 j hj _) (cx_V C 1 wd_291 wd_292 wd_293 wd_8 wd_294 rfl rfl (by decide +kernel) ⟨Nat.le_of_ble_eq_true rfl, Nat.le_of_ble_eq_true rfl⟩) hP hpk_.1.1 rfl rfl rfl (Nat.le_of_ble_eq_true rfl) d_B_search_48 ⟨Nat.le_of_ble_eq_true rfl, Nat.le_of_ble_eq_true rfl⟩) hP hS hA0 (fun r2 f1 H locs hq hP hS => ?_)
        obtain ⟨rfl, hu⟩ := hq
        rw [hu] at hP
        refine lv_if_eq (tgt := 86) hx hb d_B_search_51 (by decide) (fun c_51 => ?_) (fun c_51 => ?_)
        · have q_1 : pVb (bD b k) j = 0 := has_0 (hDk_.2.1 j).2 c_51
          have hkN : bk G fi x a (bHiS b (fH (sP b j a9 c1 d1 e1) (gb b (some j)) (bHi b) (k + 1)).1 (fH (sP b j a9 c1 d1 e1) (gb b (some j)) (bHi b) (k + 1)).2) := by rw [fH_f (i := k) (show ¬ sP b j a9 c1 d1 e1 k from fun z9 => z9.1 q_1)]; exact hkF
          refine lv_iinc (v := nI (k + 1)) (lv' := [(10, .int (nI (k + 1))), (11, .ref (aAd a k 0)), (0, .ref x), (1, .int (nI j)), (2, .long (lN a9)), (4, .long (lN c1)), (6, .long (lN d1)), (8, .long (lN e1))]) hx hb d_B_search_86 hl (k := 1) rfl (nI_1 k) (by decide) rfl (fun ls hl => ?_)
          refine lv_goto (tgt := 27) hx hb d_B_search_89 (by decide) ?_
          exact ih (k + 1) fi ls H locs (by omega) (by omega) hkN hP hS (lv_sub hl [0, 2, 3, 4, 5, 6, 7] rfl)
        · have q_1 : ¬ pVb (bD b k) j = 0 := fun z9 => c_51 (if_pos (by show lN _ = 0; rw [z9]; rfl))
          refine lv_aload hx hb d_B_search_54 (lv_at hl 0 rfl) ?_
          refine lv_iload_n hx hb d_B_search_56 rfl (lv_at hl 3 rfl) ?_
          refine lv_lload_n hx hb d_B_search_57 rfl (lv_at hl 4 rfl) ?_
          refine lv_lload hx hb d_B_search_58 (lv_at hl 5 rfl) ?_
          refine g_calli (g_runV C hl.1 (ct_P_against fi _ _ _ _ _ _ _ _ _ hpk_.1.1 _ _ hpk_.1.2.1 hpk_.1.2.2.1 j hj (pVa (bD b k) j) (pVb (bD b k) j) a9 c1 (hDk_.2.1 j).1 (Nat.pos_of_ne_zero q_1) (hDk_.2.1 j).2 (by omega) (by omega) (by omega) rfl rfl _) (cx_V C 3 wd_318 wd_319 wd_320 wd_8 wd_321 rfl rfl (by decide +kernel) ⟨Nat.le_of_ble_eq_true rfl, Nat.le_of_ble_eq_true rfl⟩) hP hpk_.1.1 rfl rfl rfl (Nat.le_of_ble_eq_true rfl) d_B_search_60 ⟨Nat.le_of_ble_eq_true rfl, Nat.le_of_ble_eq_true rfl⟩) hP hS hA0 (fun r4 f3 H locs hq hP hS => ?_)
          obtain ⟨rfl, hu⟩ := hq
          rw [hu] at hP
          refine lv_if_lt (tgt := 86) hx hb d_B_search_63 (by decide) (fun c_63 => ?_) (fun c_63 => ?_)
          · have hkN : bk G fi x a (bHiS b (fH (sP b j a9 c1 d1 e1) (gb b (some j)) (bHi b) (k + 1)).1 (fH (sP b j a9 c1 d1 e1) (gb b (some j)) (bHi b) (k + 1)).2) := by rw [fH_f (i := k) (show ¬ sP b j a9 c1 d1 e1 k from fun z9 => z9.2.1 c_63)]; exact hkF
            refine lv_iinc (v := nI (k + 1)) (lv' := [(10, .int (nI (k + 1))), (11, .ref (aAd a k 0)), (0, .ref x), (1, .int (nI j)), (2, .long (lN a9)), (4, .long (lN c1)), (6, .long (lN d1)), (8, .long (lN e1))]) hx hb d_B_search_86 hl (k := 1) rfl (nI_1 k) (by decide) rfl (fun ls hl => ?_)
            refine lv_goto (tgt := 27) hx hb d_B_search_89 (by decide) ?_
            exact ih (k + 1) fi ls H locs (by omega) (by omega) hkN hP hS (lv_sub hl [0, 2, 3, 4, 5, 6, 7] rfl)
          · refine lv_aload hx hb d_B_search_66 (lv_at hl 0 rfl) ?_
            refine lv_iload_n hx hb d_B_search_68 rfl (lv_at hl 3 rfl) ?_
            refine lv_lload hx hb d_B_search_69 (lv_at hl 6 rfl) ?_
            refine lv_lload hx hb d_B_search_71 (lv_at hl 7 rfl) ?_
            refine g_calli (g_runV C hl.1 (ct_P_against fi _ _ _ _ _ _ _ _ _ hpk_.1.1 _ _ hpk_.1.2.1 hpk_.1.2.2.1 j hj (pVa (bD b k) j) (pVb (bD b k) j) d1 e1 (hDk_.2.1 j).1 (Nat.pos_of_ne_zero q_1) (hDk_.2.1 j).2 (by omega) (by omega) (by omega) rfl rfl _) (cx_V C 3 wd_318 wd_319 wd_320 wd_8 wd_321 rfl rfl (by decide +kernel) ⟨Nat.le_of_ble_eq_true rfl, Nat.le_of_ble_eq_true rfl⟩) hP hpk_.1.1 rfl rfl rfl (Nat.le_of_ble_eq_true rfl) d_B_search_73 ⟨Nat.le_of_ble_eq_true rfl, Nat.le_of_ble_eq_true rfl⟩) hP hS hA0 (fun r6 f5 H locs hq hP hS => ?_)
            obtain ⟨rfl, hu⟩ := hq
            rw [hu] at hP
            refine lv_if_gt (tgt := 86) hx hb d_B_search_76 (by decide) (fun c_76 => ?_) (fun c_76 => ?_)
            · have hkN : bk G fi x a (bHiS b (fH (sP b j a9 c1 d1 e1) (gb b (some j)) (bHi b) (k + 1)).1 (fH (sP b j a9 c1 d1 e1) (gb b (some j)) (bHi b) (k + 1)).2) := by rw [fH_f (i := k) (show ¬ sP b j a9 c1 d1 e1 k from fun z9 => z9.2.2 c_76)]; exact hkF
              refine lv_iinc (v := nI (k + 1)) (lv' := [(10, .int (nI (k + 1))), (11, .ref (aAd a k 0)), (0, .ref x), (1, .int (nI j)), (2, .long (lN a9)), (4, .long (lN c1)), (6, .long (lN d1)), (8, .long (lN e1))]) hx hb d_B_search_86 hl (k := 1) rfl (nI_1 k) (by decide) rfl (fun ls hl => ?_)
              refine lv_goto (tgt := 27) hx hb d_B_search_89 (by decide) ?_
              exact ih (k + 1) fi ls H locs (by omega) (by omega) hkN hP hS (lv_sub hl [0, 2, 3, 4, 5, 6, 7] rfl)
            · refine lv_aload_n hx hb d_B_search_79 rfl (lv_at hl 2 rfl) ?_
              refine lv_aload hx hb d_B_search_80 (lv_at hl 0 rfl) ?_
              refine lv_iload_n hx hb d_B_search_82 rfl (lv_at hl 3 rfl) ?_
              refine g_callv (g_runV C hl.1 (ct_B_addHit fi x a (bHiS b (fH (sP b j a9 c1 d1 e1) (gb b (some j)) (bHi b) k).1 (fH (sP b j a9 c1 d1 e1) (gb b (some j)) (bHi b) k).2) hkF k hkk (some j) (by have := (fH_mem (P := (sP b j a9 c1 d1 e1)) (Q := (gb b (some j))) (h0 := bHi b) k).1; show (fH (sP b j a9 c1 d1 e1) (gb b (some j)) (bHi b) k).1 < 40; omega) (fun n hn => by cases hn; exact ⟨hj, q_1, fun z hz => ((fH_mem (P := (sP b j a9 c1 d1 e1)) (Q := (gb b (some j))) (h0 := bHi b) k).2 z hz).2.1⟩) _) (cx_V C 2 wd_325 wd_327 wp_3 wd_1 wd_328 rfl rfl (by decide +kernel) ⟨Nat.le_of_ble_eq_true rfl, Nat.le_of_ble_eq_true rfl⟩) hP oF rfl rfl rfl (Nat.le_of_ble_eq_true rfl) d_B_search_83 ⟨Nat.le_of_ble_eq_true rfl, Nat.le_of_ble_eq_true rfl⟩) hP hS hA0 (fun f7 H locs hq hP hS => ?_)
              have hkN : bk G f7 x a (bHiS b (fH (sP b j a9 c1 d1 e1) (gb b (some j)) (bHi b) (k + 1)).1 (fH (sP b j a9 c1 d1 e1) (gb b (some j)) (bHi b) (k + 1)).2) := by rw [fH_t (i := k) (show sP b j a9 c1 d1 e1 k from ⟨q_1, c_63, c_76⟩)]; exact hq
              refine lv_iinc (v := nI (k + 1)) (lv' := [(10, .int (nI (k + 1))), (11, .ref (aAd a k 0)), (0, .ref x), (1, .int (nI j)), (2, .long (lN a9)), (4, .long (lN c1)), (6, .long (lN d1)), (8, .long (lN e1))]) hx hb d_B_search_86 hl (k := 1) rfl (nI_1 k) (by decide) rfl (fun ls hl => ?_)
              refine lv_goto (tgt := 27) hx hb d_B_search_89 (by decide) ?_
              exact ih (k + 1) f7 ls H locs (by omega) (by omega) hkN hP hS (lv_sub hl [0, 2, 3, 4, 5, 6, 7] rfl)
  have hkE : bk G f7 x a (bHiS b 0 (bHi b)) := bk_six hk (by rw [ef7]; refine hE.up ?_ (by simp); exact hE.rf) ⟨hk11_f7, hk121_f7, hk1221_f7, hk12221_f7, hk122221_f7, hk122222_f7⟩ rfl rfl ⟨⟨hNN, hRC, Nat.zero_le _⟩, hk.2.2.2.2.2.1, hk.2.2.2.2.2.2.1, hk.2.2.2.2.2.2.2.1, hk.2.2.2.2.2.2.2.2.1, fun k hk9 => absurd hk9 (Nat.not_lt_zero _)⟩
  exact loop 41 0 f7 ls H locs (by omega) (Nat.zero_le _) hkE hP hS (lv_sub hl [0, 1, 2, 3, 4, 5, 6] rfl)
