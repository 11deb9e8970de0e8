/-! The law: its calls (2). -/
set_option maxHeartbeats 4000000 in
set_option maxRecDepth 100000 in
theorem law_ask {G : hG} {sa : xS} {hw : Cond} {p : Program} {l : Launch} {e : Env} {s : State} {m : MethodId} {below : List Frame} {meth : Method} {c : Code} {Q : State → Prop} {b0 L : Nat} {xs : Nat → Int32} (hl0 : l.stackTraces = false) (C : hC G R_L (hw :: bw) code 8 ret p s m #[Value.ref b0] meth c) (hN : xN sa s) (hZ : xZ (lA s) s s.heap) (hNc : va_Nc eA eI s) (hX : va_X b0 L xs s s.heap) (hbl : b0 < s.heap.size) (hL : L ≤ 5120)
    {i cells slots x y o : Nat} {ca : Nat → Nat} {H : Heap} {locs : List Loc} {ls : Array Slot} (hi : i + 10 ≤ L) (hc9 : cells + 15 ≤ 601024) (hs9 : slots + 400 ≤ 7293033) (hI : LI G (lA s) x y o ca H) (hS : va_S (lA s) s.heap H locs) (hl : lv_has ls 8 [(4, .int (nI i)), (0, .ref b0), (1, .ref x), (2, .ref y), (3, .ref o)])
    (kk : ∀ (H1 : Heap) (locs1 : List Loc) (ls1 : Array Slot), LI G (lA s) x y o ca H1 → va_S (lA s) s.heap H1 locs1 → lv_has ls1 8 [(4, .int (nI i)), (0, .ref b0), (1, .ref x), (2, .ref y), (3, .ref o)] → W p l e room_1 s m #[Value.ref b0] below meth c H1 locs1 (cells + 15) (slots + 400) Q (F0 m 2120 ls1 [])) : W p l e room_1 s m #[Value.ref b0] below meth c H locs cells slots Q (F0 m 538 ls []) := by
  obtain ⟨hx, hb, hml, hown, -, -, -, -⟩ := id C
  have hbA : ¬ lA s b0 := Nat.not_le.mpr hbl
  have hA0 : ∀ q, s.heap.size ≤ q → lA s q := fun _ h => h
  obtain ⟨fx, fm, g, a, b, th, bc, cp, hk, hm, ho, hd, hP⟩ := hI
  obtain ⟨ys, oy⟩ := mS_y hm
  have hok : bOK b := hk.2.2.2.2
  refine lv_aload_n hx hb d_L_law_538 rfl (lv_at hl 2 rfl) ?_
  refine lv_aload_n hx hb d_L_law_539 rfl (lv_at hl 1 rfl) ?_
  refine lv_iload hx hb d_L_law_540 (lv_at hl 0 rfl) ?_
  refine lv_iconst (v := 1) hx hb d_L_law_542 (by decide) ?_
  refine lv_iadd hx hb d_L_law_543 ?_
  refine g_eqi (y := nI (i + 1)) (nI_add i 1) ?_
  refine s_ld C hX hbl hbA hS (j := (i + 1)) (by omega) (by omega) d_L_law_544 ?_
  obtain ⟨w1, ew1⟩ : ∃ z99 : Int32, z99 = xs (i + 1) := ⟨_, rfl⟩
  refine g_eqi (y := w1) ew1.symm ?_
  refine lv_aload_n hx hb d_L_law_545 rfl (lv_at hl 1 rfl) ?_
  refine lv_iload hx hb d_L_law_546 (lv_at hl 0 rfl) ?_
  refine lv_iconst (v := 2) hx hb d_L_law_548 (by decide) ?_
  refine lv_iadd hx hb d_L_law_549 ?_
  refine g_eqi (y := nI (i + 2)) (nI_add i 2) ?_
  refine s_ld C hX hbl hbA hS (j := (i + 2)) (by omega) (by omega) d_L_law_550 ?_
  obtain ⟨w2, ew2⟩ : ∃ z99 : Int32, z99 = xs (i + 2) := ⟨_, rfl⟩
  refine g_eqi (y := w2) ew2.symm ?_
  refine lv_aload_n hx hb d_L_law_551 rfl (lv_at hl 1 rfl) ?_
  refine lv_iload hx hb d_L_law_552 (lv_at hl 0 rfl) ?_
  refine lv_iconst (v := 3) hx hb d_L_law_554 (by decide) ?_
  refine lv_iadd hx hb d_L_law_555 ?_
  refine g_eqi (y := nI (i + 3)) (nI_add i 3) ?_
  refine s_ld C hX hbl hbA hS (j := (i + 3)) (by omega) (by omega) d_L_law_556 ?_
  obtain ⟨w3, ew3⟩ : ∃ z99 : Int32, z99 = xs (i + 3) := ⟨_, rfl⟩
  refine g_eqi (y := w3) ew3.symm ?_
  refine lv_aload_n hx hb d_L_law_557 rfl (lv_at hl 4 rfl) ?_
  refine j_calli (l_runS C hN hZ hNc hl.1 (ct_L_ask (sa := sa) hl0 fx x a b hk o g ho w1 w2 w3 _) (cx_SW C 5 wd_296 wd_297 wd_0 wd_298 rfl rfl (by decide +kernel) ⟨Nat.le_of_ble_eq_true rfl, Nat.le_of_ble_eq_true rfl⟩) hP.left hS hA0 rfl rfl (Nat.le_of_ble_eq_true rfl) d_L_law_558 ⟨by show cells + 3 ≤ 601024; omega, by show slots + 18 ≤ 7293033; omega⟩) hd hP hS hA0 (fun k9 f1 H locs hq hd hP hS => ?_)
  obtain ⟨fx1, g1, a1, b1, r9, hu9, ho1, hk1, hlp⟩ := hq
  rw [hu9] at hd hP
  have hok1 : bOK b1 := hk1.2.2.2.2
  have hP2 : hH G (lA s) (hj fm (hj fx1 (hc1 o (aL G 1 g1)))) H := by rw [← hj_comm hd]; exact hP
  refine lv_istore (lv' := [(5, .int k9), (4, .int (nI i)), (0, .ref b0), (1, .ref x), (2, .ref y), (3, .ref o)]) hx hb d_L_law_561 hl (by decide) rfl (fun ls hl => ?_)
  refine lv_aload_n hx hb d_L_law_563 rfl (lv_at hl 4 rfl) ?_
  refine lv_aload_n hx hb d_L_law_564 rfl (lv_at hl 2 rfl) ?_
  refine lv_iload hx hb d_L_law_565 (lv_at hl 1 rfl) ?_
  refine lv_iconst (v := 1) hx hb d_L_law_567 (by decide) ?_
  refine lv_iadd hx hb d_L_law_568 ?_
  refine g_eqi (y := nI (i + 1)) (nI_add i 1) ?_
  refine s_ld C hX hbl hbA hS (j := (i + 1)) (by omega) (by omega) d_L_law_569 ?_
  refine g_eqi (y := w1) ew1.symm ?_
  refine lv_aload_n hx hb d_L_law_570 rfl (lv_at hl 2 rfl) ?_
  refine lv_iload hx hb d_L_law_571 (lv_at hl 1 rfl) ?_
  refine lv_iconst (v := 2) hx hb d_L_law_573 (by decide) ?_
  refine lv_iadd hx hb d_L_law_574 ?_
  refine g_eqi (y := nI (i + 2)) (nI_add i 2) ?_
  refine s_ld C hX hbl hbA hS (j := (i + 2)) (by omega) (by omega) d_L_law_575 ?_
  refine g_eqi (y := w2) ew2.symm ?_
  refine lv_aload_n hx hb d_L_law_576 rfl (lv_at hl 2 rfl) ?_
  refine lv_iload hx hb d_L_law_577 (lv_at hl 1 rfl) ?_
  refine lv_iconst (v := 3) hx hb d_L_law_579 (by decide) ?_
  refine lv_iadd hx hb d_L_law_580 ?_
  refine g_eqi (y := nI (i + 3)) (nI_add i 3) ?_
  refine s_ld C hX hbl hbA hS (j := (i + 3)) (by omega) (by omega) d_L_law_581 ?_
  refine g_eqi (y := w3) ew3.symm ?_
  refine j_calli (g_runV C hl.1 (ct_M_ask fm y ca b hok th bc cp hm w1 w2 w3 r9 b1 (fun hI9 hN9 => lp_K hlp hI9 hN9) _) (cx_V C 3 wd_628 wd_629 wd_630 wd_3 wd_631 rfl rfl (by decide +kernel) ⟨Nat.le_of_ble_eq_true rfl, Nat.le_of_ble_eq_true rfl⟩) hP2.left oy rfl rfl rfl (Nat.le_of_ble_eq_true rfl) d_L_law_582 ⟨by show cells + 3 + 0 ≤ 601024; omega, by show slots + 18 + 0 ≤ 7293033; omega⟩) hd.symm hP2 hS hA0 (fun r2 fm1 H locs hq hd hP hS => ?_)
  obtain ⟨th2, b2, bc2, cp2, hm2, hmp⟩ := hq
  obtain ⟨hth, hb2, hdone⟩ := lp_mp hlp hmp
  rw [hth, hb2] at hm2
  obtain ⟨ys1, oy1⟩ := mS_y hm2
  refine lv_istore (lv' := [(6, .int r2), (5, .int k9), (4, .int (nI i)), (0, .ref b0), (1, .ref x), (2, .ref y), (3, .ref o)]) hx hb d_L_law_585 hl (by decide) rfl (fun ls hl => ?_)
  refine lv_aload_n hx hb d_L_law_587 rfl (lv_at hl 5 rfl) ?_
  refine j_calli (g_runV C hl.1 (ct_M_thrown fm1 y ca b1 hok1 k9 bc2 cp2 hm2 _) (cx_V C 0 wd_580 wd_581 wd_582 wd_3 wd_583 rfl rfl (by decide +kernel) ⟨Nat.le_of_ble_eq_true rfl, Nat.le_of_ble_eq_true rfl⟩) hP.left oy1 rfl rfl rfl (Nat.le_of_ble_eq_true rfl) d_L_law_588 ⟨by show cells + 3 + 0 + 0 ≤ 601024; omega, by show slots + 18 + 0 + 0 ≤ 7293033; omega⟩) hd hP hS hA0 (fun r3 fm2 H locs hq hd hP hS => ?_)
  obtain ⟨hr3, hu3⟩ := hq
  rw [hu3] at hd hP
  refine g_eqi (y := k9) hr3 ?_
  have oo1 : hj fx1 (hc1 o (aL G 1 g1)) o = some (aL G 1 g1) := (hj_r ho1).trans hc1_s
  have oo : hj fm1 (hj fx1 (hc1 o (aL G 1 g1))) o = some (aL G 1 g1) := (hj_r (dj_at hd oo1)).trans oo1
  refine lv_iload hx hb d_L_law_591 (lv_at hl 1 rfl) ?_
  refine lv_icmp_eq (tgt := 598) hx hb d_L_law_593 (by decide) (fun c_593 => ?_) (fun c_593 => ?_)
  · refine lv_iload hx hb d_L_law_598 (lv_at hl 1 rfl) ?_
    refine lv_if_ne (tgt := 622) hx hb d_L_law_600 (by decide) (fun c_600 => ?_) (fun c_600 => ?_)
    · refine lv_goto (tgt := 2120) hx hb d_L_law_622 (by decide) ?_
      refine W.widen (k := cells + 15) (n := slots + 400) (by show cells + 3 + 0 + 0 ≤ cells + 15; omega) (by show slots + 18 + 0 + 0 ≤ slots + 400; omega) ?_
      exact kk _ _ _ ⟨fx1, fm1, g1, a1, b1, k9, bc2, cp2, hk1, hm2, ho1, hd.symm, by rw [hj_comm hd.symm]; exact hP⟩ hS (lv_sub hl [2, 3, 4, 5, 6] rfl)
    · obtain ⟨⟨hK9, hg9⟩, hr9⟩ := hdone c_600
      refine lv_aload_n hx hb d_L_law_603 rfl (lv_at hl 6 rfl) ?_
      refine lv_iconst (v := 0) hx hb d_L_law_604 (by decide) ?_
      refine g_laldN C hP oo (j := 0) (by decide) (by decide) d_L_law_605 ?_
      refine g_eql (y := eb r9) (hg9) ?_
      refine lv_iload hx hb d_L_law_606 (lv_at hl 0 rfl) ?_
      refine lv_if_eq (tgt := 615) hx hb d_L_law_608 (by decide) (fun c_608 => ?_) (fun c_608 => ?_)
      · refine lv_lconst (v := 0) hx hb d_L_law_615 (by decide) ?_
        refine W.lcmp hx hb d_L_law_616 ?_
        refine lv_if_eq (tgt := 622) hx hb d_L_law_617 (by decide) (fun c_617 => ?_) (fun c_617 => ?_)
        · have c_617 := (lg_cmp_eq _ _).mp c_617
          refine lv_goto (tgt := 2120) hx hb d_L_law_622 (by decide) ?_
          refine W.widen (k := cells + 15) (n := slots + 400) (by show cells + 3 + 0 + 0 ≤ cells + 15; omega) (by show slots + 18 + 0 + 0 ≤ slots + 400; omega) ?_
          exact kk _ _ _ ⟨fx1, fm1, g1, a1, b1, k9, bc2, cp2, hk1, hm2, ho1, hd.symm, by rw [hj_comm hd.symm]; exact hP⟩ hS (lv_sub hl [2, 3, 4, 5, 6] rfl)
        · have c_617 := fun z => c_617 ((lg_cmp_eq _ _).mpr z)
          exact absurd (by first | exact eb_t (hr9.symm.trans c_608) | exact eb_f (fun z => c_608 (hr9.trans z))) c_617
      · refine lv_lconst (v := 1) hx hb d_L_law_611 (by decide) ?_
        refine lv_goto (tgt := 616) hx hb d_L_law_612 (by decide) ?_
        refine W.lcmp hx hb d_L_law_616 ?_
        refine lv_if_eq (tgt := 622) hx hb d_L_law_617 (by decide) (fun c_617 => ?_) (fun c_617 => ?_)
        · have c_617 := (lg_cmp_eq _ _).mp c_617
          refine lv_goto (tgt := 2120) hx hb d_L_law_622 (by decide) ?_
          refine W.widen (k := cells + 15) (n := slots + 400) (by show cells + 3 + 0 + 0 ≤ cells + 15; omega) (by show slots + 18 + 0 + 0 ≤ slots + 400; omega) ?_
          exact kk _ _ _ ⟨fx1, fm1, g1, a1, b1, k9, bc2, cp2, hk1, hm2, ho1, hd.symm, by rw [hj_comm hd.symm]; exact hP⟩ hS (lv_sub hl [2, 3, 4, 5, 6] rfl)
        · have c_617 := fun z => c_617 ((lg_cmp_eq _ _).mpr z)
          exact absurd (by first | exact eb_t (hr9.symm.trans c_608) | exact eb_f (fun z => c_608 (hr9.trans z))) c_617
  · exact absurd rfl c_593
set_option maxHeartbeats 4000000 in
set_option maxRecDepth 100000 in
theorem law_alternates {G : hG} {sa : xS} {hw : Cond} {p : Program} {l : Launch} {e : Env} {s : State} {m : MethodId} {below : List Frame} {meth : Method} {c : Code} {Q : State → Prop} {b0 L : Nat} {xs : Nat → Int32} (hl0 : l.stackTraces = false) (C : hC G R_L (hw :: bw) code 8 ret p s m #[Value.ref b0] meth c) (hN : xN sa s) (hZ : xZ (lA s) s s.heap) (hNc : va_Nc eA eI s) (hX : va_X b0 L xs s s.heap) (hbl : b0 < s.heap.size) (hL : L ≤ 5120)
    {i cells slots x y o : Nat} {ca : Nat → Nat} {H : Heap} {locs : List Loc} {ls : Array Slot} (hi : i + 10 ≤ L) (hc9 : cells + 15 ≤ 601024) (hs9 : slots + 400 ≤ 7293033) (hI : LI G (lA s) x y o ca H) (hS : va_S (lA s) s.heap H locs) (hl : lv_has ls 8 [(4, .int (nI i)), (0, .ref b0), (1, .ref x), (2, .ref y), (3, .ref o)])
    (kk : ∀ (H1 : Heap) (locs1 : List Loc) (ls1 : Array Slot), LI G (lA s) x y o ca H1 → va_S (lA s) s.heap H1 locs1 → lv_has ls1 8 [(4, .int (nI i)), (0, .ref b0), (1, .ref x), (2, .ref y), (3, .ref o)] → W p l e room_1 s m #[Value.ref b0] below meth c H1 locs1 (cells + 15) (slots + 400) Q (F0 m 2120 ls1 [])) : W p l e room_1 s m #[Value.ref b0] below meth c H locs cells slots Q (F0 m 625 ls []) := by
  obtain ⟨hx, hb, hml, hown, -, -, -, -⟩ := id C
  have hbA : ¬ lA s b0 := Nat.not_le.mpr hbl
  have hA0 : ∀ q, s.heap.size ≤ q → lA s q := fun _ h => h
  obtain ⟨fx, fm, g, a, b, th, bc, cp, hk, hm, ho, hd, hP⟩ := hI
  obtain ⟨ys, oy⟩ := mS_y hm
  have hok : bOK b := hk.2.2.2.2
  refine lv_aload_n hx hb d_L_law_625 rfl (lv_at hl 2 rfl) ?_
  refine lv_aload_n hx hb d_L_law_626 rfl (lv_at hl 1 rfl) ?_
  refine lv_iload hx hb d_L_law_627 (lv_at hl 0 rfl) ?_
  refine lv_iconst (v := 1) hx hb d_L_law_629 (by decide) ?_
  refine lv_iadd hx hb d_L_law_630 ?_
  refine g_eqi (y := nI (i + 1)) (nI_add i 1) ?_
  refine s_ld C hX hbl hbA hS (j := (i + 1)) (by omega) (by omega) d_L_law_631 ?_
  obtain ⟨w1, ew1⟩ : ∃ z99 : Int32, z99 = xs (i + 1) := ⟨_, rfl⟩
  refine g_eqi (y := w1) ew1.symm ?_
  refine lv_aload_n hx hb d_L_law_632 rfl (lv_at hl 1 rfl) ?_
  refine lv_iload hx hb d_L_law_633 (lv_at hl 0 rfl) ?_
  refine lv_iconst (v := 2) hx hb d_L_law_635 (by decide) ?_
  refine lv_iadd hx hb d_L_law_636 ?_
  refine g_eqi (y := nI (i + 2)) (nI_add i 2) ?_
  refine s_ld C hX hbl hbA hS (j := (i + 2)) (by omega) (by omega) d_L_law_637 ?_
  obtain ⟨w2, ew2⟩ : ∃ z99 : Int32, z99 = xs (i + 2) := ⟨_, rfl⟩
  refine g_eqi (y := w2) ew2.symm ?_
  refine lv_aload_n hx hb d_L_law_638 rfl (lv_at hl 4 rfl) ?_
  refine j_calli (l_runS C hN hZ hNc hl.1 (ct_L_alternates (sa := sa) hl0 fx x a b hk o g ho w1 w2 _) (cx_SW C 4 wd_304 wd_305 wd_0 wd_306 rfl rfl (by decide +kernel) ⟨Nat.le_of_ble_eq_true rfl, Nat.le_of_ble_eq_true rfl⟩) hP.left hS hA0 rfl rfl (Nat.le_of_ble_eq_true rfl) d_L_law_639 ⟨by show cells + 2 ≤ 601024; omega, by show slots + 12 ≤ 7293033; omega⟩) hd hP hS hA0 (fun k9 f1 H locs hq hd hP hS => ?_)
  obtain ⟨fx1, g1, a1, b1, r9, hu9, ho1, hk1, hlp⟩ := hq
  rw [hu9] at hd hP
  have hok1 : bOK b1 := hk1.2.2.2.2
  have hP2 : hH G (lA s) (hj fm (hj fx1 (hc1 o (aL G 1 g1)))) H := by rw [← hj_comm hd]; exact hP
  refine lv_istore (lv' := [(5, .int k9), (4, .int (nI i)), (0, .ref b0), (1, .ref x), (2, .ref y), (3, .ref o)]) hx hb d_L_law_642 hl (by decide) rfl (fun ls hl => ?_)
  refine lv_aload_n hx hb d_L_law_644 rfl (lv_at hl 4 rfl) ?_
  refine lv_aload_n hx hb d_L_law_645 rfl (lv_at hl 2 rfl) ?_
  refine lv_iload hx hb d_L_law_646 (lv_at hl 1 rfl) ?_
  refine lv_iconst (v := 1) hx hb d_L_law_648 (by decide) ?_
  refine lv_iadd hx hb d_L_law_649 ?_
  refine g_eqi (y := nI (i + 1)) (nI_add i 1) ?_
  refine s_ld C hX hbl hbA hS (j := (i + 1)) (by omega) (by omega) d_L_law_650 ?_
  refine g_eqi (y := w1) ew1.symm ?_
  refine lv_aload_n hx hb d_L_law_651 rfl (lv_at hl 2 rfl) ?_
  refine lv_iload hx hb d_L_law_652 (lv_at hl 1 rfl) ?_
  refine lv_iconst (v := 2) hx hb d_L_law_654 (by decide) ?_
  refine lv_iadd hx hb d_L_law_655 ?_
  refine g_eqi (y := nI (i + 2)) (nI_add i 2) ?_
  refine s_ld C hX hbl hbA hS (j := (i + 2)) (by omega) (by omega) d_L_law_656 ?_
  refine g_eqi (y := w2) ew2.symm ?_
  refine j_calli (g_runV C hl.1 (ct_M_alternates fm y ca b hok th bc cp hm w1 w2 r9 b1 (fun hI9 hN9 => lp_K hlp hI9 hN9) _) (cx_V C 2 wd_636 wd_637 wd_638 wd_3 wd_639 rfl rfl (by decide +kernel) ⟨Nat.le_of_ble_eq_true rfl, Nat.le_of_ble_eq_true rfl⟩) hP2.left oy rfl rfl rfl (Nat.le_of_ble_eq_true rfl) d_L_law_657 ⟨by show cells + 2 + 0 ≤ 601024; omega, by show slots + 12 + 0 ≤ 7293033; omega⟩) hd.symm hP2 hS hA0 (fun r2 fm1 H locs hq hd hP hS => ?_)
  obtain ⟨th2, b2, bc2, cp2, hm2, hmp⟩ := hq
  obtain ⟨hth, hb2, hdone⟩ := lp_mp hlp hmp
  rw [hth, hb2] at hm2
  obtain ⟨ys1, oy1⟩ := mS_y hm2
  refine lv_istore (lv' := [(6, .int r2), (5, .int k9), (4, .int (nI i)), (0, .ref b0), (1, .ref x), (2, .ref y), (3, .ref o)]) hx hb d_L_law_660 hl (by decide) rfl (fun ls hl => ?_)
  refine lv_aload_n hx hb d_L_law_662 rfl (lv_at hl 5 rfl) ?_
  refine j_calli (g_runV C hl.1 (ct_M_thrown fm1 y ca b1 hok1 k9 bc2 cp2 hm2 _) (cx_V C 0 wd_580 wd_581 wd_582 wd_3 wd_583 rfl rfl (by decide +kernel) ⟨Nat.le_of_ble_eq_true rfl, Nat.le_of_ble_eq_true rfl⟩) hP.left oy1 rfl rfl rfl (Nat.le_of_ble_eq_true rfl) d_L_law_663 ⟨by show cells + 2 + 0 + 0 ≤ 601024; omega, by show slots + 12 + 0 + 0 ≤ 7293033; omega⟩) hd hP hS hA0 (fun r3 fm2 H locs hq hd hP hS => ?_)
  obtain ⟨hr3, hu3⟩ := hq
  rw [hu3] at hd hP
  refine g_eqi (y := k9) hr3 ?_
  have oo1 : hj fx1 (hc1 o (aL G 1 g1)) o = some (aL G 1 g1) := (hj_r ho1).trans hc1_s
  have oo : hj fm1 (hj fx1 (hc1 o (aL G 1 g1))) o = some (aL G 1 g1) := (hj_r (dj_at hd oo1)).trans oo1
  refine lv_iload hx hb d_L_law_666 (lv_at hl 1 rfl) ?_
  refine lv_icmp_eq (tgt := 673) hx hb d_L_law_668 (by decide) (fun c_668 => ?_) (fun c_668 => ?_)
  · refine lv_iload hx hb d_L_law_673 (lv_at hl 1 rfl) ?_
    refine lv_if_ne (tgt := 690) hx hb d_L_law_675 (by decide) (fun c_675 => ?_) (fun c_675 => ?_)
    · refine lv_goto (tgt := 2120) hx hb d_L_law_690 (by decide) ?_
      refine W.widen (k := cells + 15) (n := slots + 400) (by show cells + 2 + 0 + 0 ≤ cells + 15; omega) (by show slots + 12 + 0 + 0 ≤ slots + 400; omega) ?_
      exact kk _ _ _ ⟨fx1, fm1, g1, a1, b1, k9, bc2, cp2, hk1, hm2, ho1, hd.symm, by rw [hj_comm hd.symm]; exact hP⟩ hS (lv_sub hl [2, 3, 4, 5, 6] rfl)
    · obtain ⟨⟨hK9, hg9⟩, hr9⟩ := hdone c_675
      refine lv_aload_n hx hb d_L_law_678 rfl (lv_at hl 6 rfl) ?_
      refine lv_iconst (v := 0) hx hb d_L_law_679 (by decide) ?_
      refine g_laldN C hP oo (j := 0) (by decide) (by decide) d_L_law_680 ?_
      refine g_eql (y := r9.toInt64) (hg9) ?_
      refine lv_iload hx hb d_L_law_681 (lv_at hl 0 rfl) ?_
      refine lv_i2l (v := r2.toInt64) hx hb d_L_law_683 rfl ?_
      refine W.lcmp hx hb d_L_law_684 ?_
      refine lv_if_eq (tgt := 690) hx hb d_L_law_685 (by decide) (fun c_685 => ?_) (fun c_685 => ?_)
      · have c_685 := (lg_cmp_eq _ _).mp c_685
        refine lv_goto (tgt := 2120) hx hb d_L_law_690 (by decide) ?_
        refine W.widen (k := cells + 15) (n := slots + 400) (by show cells + 2 + 0 + 0 ≤ cells + 15; omega) (by show slots + 12 + 0 + 0 ≤ slots + 400; omega) ?_
        exact kk _ _ _ ⟨fx1, fm1, g1, a1, b1, k9, bc2, cp2, hk1, hm2, ho1, hd.symm, by rw [hj_comm hd.symm]; exact hP⟩ hS (lv_sub hl [2, 3, 4, 5, 6] rfl)
      · have c_685 := fun z => c_685 ((lg_cmp_eq _ _).mpr z)
        exact absurd (by rw [hr9]) c_685
  · exact absurd rfl c_668
set_option maxHeartbeats 4000000 in
set_option maxRecDepth 100000 in
theorem law_search {G : hG} {sa : xS} {hw : Cond} {p : Program} {l : Launch} {e : Env} {s : State} {m : MethodId} {below : List Frame} {meth : Method} {c : Code} {Q : State → Prop} {b0 L : Nat} {xs : Nat → Int32} (hl0 : l.stackTraces = false) (C : hC G R_L (hw :: bw) code 8 ret p s m #[Value.ref b0] meth c) (hN : xN sa s) (hZ : xZ (lA s) s s.heap) (hNc : va_Nc eA eI s) (hX : va_X b0 L xs s s.heap) (hbl : b0 < s.heap.size) (hL : L ≤ 5120)
    {i cells slots x y o : Nat} {ca : Nat → Nat} {H : Heap} {locs : List Loc} {ls : Array Slot} (hi : i + 10 ≤ L) (hc9 : cells + 15 ≤ 601024) (hs9 : slots + 400 ≤ 7293033) (hI : LI G (lA s) x y o ca H) (hS : va_S (lA s) s.heap H locs) (hl : lv_has ls 8 [(4, .int (nI i)), (0, .ref b0), (1, .ref x), (2, .ref y), (3, .ref o)])
    (kk : ∀ (H1 : Heap) (locs1 : List Loc) (ls1 : Array Slot), LI G (lA s) x y o ca H1 → va_S (lA s) s.heap H1 locs1 → lv_has ls1 8 [(4, .int (nI i)), (0, .ref b0), (1, .ref x), (2, .ref y), (3, .ref o)] → W p l e room_1 s m #[Value.ref b0] below meth c H1 locs1 (cells + 15) (slots + 400) Q (F0 m 2120 ls1 [])) : W p l e room_1 s m #[Value.ref b0] below meth c H locs cells slots Q (F0 m 693 ls []) := by
  obtain ⟨hx, hb, hml, hown, -, -, -, -⟩ := id C
  have hbA : ¬ lA s b0 := Nat.not_le.mpr hbl
  have hA0 : ∀ q, s.heap.size ≤ q → lA s q := fun _ h => h
  obtain ⟨fx, fm, g, a, b, th, bc, cp, hk, hm, ho, hd, hP⟩ := hI
  obtain ⟨ys, oy⟩ := mS_y hm
  have hok : bOK b := hk.2.2.2.2
  refine lv_aload_n hx hb d_L_law_693 rfl (lv_at hl 2 rfl) ?_
  refine lv_aload_n hx hb d_L_law_694 rfl (lv_at hl 1 rfl) ?_
  refine lv_iload hx hb d_L_law_695 (lv_at hl 0 rfl) ?_
  refine lv_iconst (v := 1) hx hb d_L_law_697 (by decide) ?_
  refine lv_iadd hx hb d_L_law_698 ?_
  refine g_eqi (y := nI (i + 1)) (nI_add i 1) ?_
  refine s_ld C hX hbl hbA hS (j := (i + 1)) (by omega) (by omega) d_L_law_699 ?_
  obtain ⟨w1, ew1⟩ : ∃ z99 : Int32, z99 = xs (i + 1) := ⟨_, rfl⟩
  refine g_eqi (y := w1) ew1.symm ?_
  refine lv_aload_n hx hb d_L_law_700 rfl (lv_at hl 1 rfl) ?_
  refine lv_iload hx hb d_L_law_701 (lv_at hl 0 rfl) ?_
  refine lv_iconst (v := 2) hx hb d_L_law_703 (by decide) ?_
  refine lv_iadd hx hb d_L_law_704 ?_
  refine g_eqi (y := nI (i + 2)) (nI_add i 2) ?_
  refine s_ld C hX hbl hbA hS (j := (i + 2)) (by omega) (by omega) d_L_law_705 ?_
  obtain ⟨w2, ew2⟩ : ∃ z99 : Int32, z99 = xs (i + 2) := ⟨_, rfl⟩
  refine g_eqi (y := w2) ew2.symm ?_
  refine lv_i2l (v := w2.toInt64) hx hb d_L_law_706 rfl ?_
  refine lv_bipush (v := 32) hx hb d_L_law_707 (by decide) ?_
  refine lv_lshl (v := w2.toInt64 <<< ((32 : Int32).toInt64 &&& 63)) hx hb d_L_law_709 rfl ?_
  refine lv_aload_n hx hb d_L_law_710 rfl (lv_at hl 1 rfl) ?_
  refine lv_iload hx hb d_L_law_711 (lv_at hl 0 rfl) ?_
  refine lv_iconst (v := 3) hx hb d_L_law_713 (by decide) ?_
  refine lv_iadd hx hb d_L_law_714 ?_
  refine g_eqi (y := nI (i + 3)) (nI_add i 3) ?_
  refine s_ld C hX hbl hbA hS (j := (i + 3)) (by omega) (by omega) d_L_law_715 ?_
  obtain ⟨w3, ew3⟩ : ∃ z99 : Int32, z99 = xs (i + 3) := ⟨_, rfl⟩
  refine g_eqi (y := w3) ew3.symm ?_
  refine lv_i2l (v := w3.toInt64) hx hb d_L_law_716 rfl ?_
  refine lv_ldc2 hx hb hown (C.w wd_742) d_L_law_717 ?_
  refine lv_land hx hb d_L_law_720 ?_
  refine lv_lor hx hb d_L_law_721 ?_
  obtain ⟨v2, ev2⟩ : ∃ z99 : Int64, z99 = (w2.toInt64 <<< ((32 : Int32).toInt64 &&& 63)) ||| (w3.toInt64 &&& 4294967295) := ⟨_, rfl⟩
  refine g_eql (y := v2) ev2.symm ?_
  refine lv_aload_n hx hb d_L_law_722 rfl (lv_at hl 1 rfl) ?_
  refine lv_iload hx hb d_L_law_723 (lv_at hl 0 rfl) ?_
  refine lv_iconst (v := 4) hx hb d_L_law_725 (by decide) ?_
  refine lv_iadd hx hb d_L_law_726 ?_
  refine g_eqi (y := nI (i + 4)) (nI_add i 4) ?_
  refine s_ld C hX hbl hbA hS (j := (i + 4)) (by omega) (by omega) d_L_law_727 ?_
  obtain ⟨w4, ew4⟩ : ∃ z99 : Int32, z99 = xs (i + 4) := ⟨_, rfl⟩
  refine g_eqi (y := w4) ew4.symm ?_
  refine lv_i2l (v := w4.toInt64) hx hb d_L_law_728 rfl ?_
  refine lv_bipush (v := 32) hx hb d_L_law_729 (by decide) ?_
  refine lv_lshl (v := w4.toInt64 <<< ((32 : Int32).toInt64 &&& 63)) hx hb d_L_law_731 rfl ?_
  refine lv_aload_n hx hb d_L_law_732 rfl (lv_at hl 1 rfl) ?_
  refine lv_iload hx hb d_L_law_733 (lv_at hl 0 rfl) ?_
  refine lv_iconst (v := 5) hx hb d_L_law_735 (by decide) ?_
  refine lv_iadd hx hb d_L_law_736 ?_
  refine g_eqi (y := nI (i + 5)) (nI_add i 5) ?_
  refine s_ld C hX hbl hbA hS (j := (i + 5)) (by omega) (by omega) d_L_law_737 ?_
  obtain ⟨w5, ew5⟩ : ∃ z99 : Int32, z99 = xs (i + 5) := ⟨_, rfl⟩
  refine g_eqi (y := w5) ew5.symm ?_
  refine lv_i2l (v := w5.toInt64) hx hb d_L_law_738 rfl ?_
  refine lv_ldc2 hx hb hown (C.w wd_742) d_L_law_739 ?_
  refine lv_land hx hb d_L_law_742 ?_
  refine lv_lor hx hb d_L_law_743 ?_
  obtain ⟨v4, ev4⟩ : ∃ z99 : Int64, z99 = (w4.toInt64 <<< ((32 : Int32).toInt64 &&& 63)) ||| (w5.toInt64 &&& 4294967295) := ⟨_, rfl⟩
  refine g_eql (y := v4) ev4.symm ?_
  refine lv_aload_n hx hb d_L_law_744 rfl (lv_at hl 1 rfl) ?_
  refine lv_iload hx hb d_L_law_745 (lv_at hl 0 rfl) ?_
  refine lv_bipush (v := 6) hx hb d_L_law_747 (by decide) ?_
  refine lv_iadd hx hb d_L_law_749 ?_
  refine g_eqi (y := nI (i + 6)) (nI_add i 6) ?_
  refine s_ld C hX hbl hbA hS (j := (i + 6)) (by omega) (by omega) d_L_law_750 ?_
  obtain ⟨w6, ew6⟩ : ∃ z99 : Int32, z99 = xs (i + 6) := ⟨_, rfl⟩
  refine g_eqi (y := w6) ew6.symm ?_
  refine lv_i2l (v := w6.toInt64) hx hb d_L_law_751 rfl ?_
  refine lv_bipush (v := 32) hx hb d_L_law_752 (by decide) ?_
  refine lv_lshl (v := w6.toInt64 <<< ((32 : Int32).toInt64 &&& 63)) hx hb d_L_law_754 rfl ?_
  refine lv_aload_n hx hb d_L_law_755 rfl (lv_at hl 1 rfl) ?_
  refine lv_iload hx hb d_L_law_756 (lv_at hl 0 rfl) ?_
  refine lv_bipush (v := 7) hx hb d_L_law_758 (by decide) ?_
  refine lv_iadd hx hb d_L_law_760 ?_
  refine g_eqi (y := nI (i + 7)) (nI_add i 7) ?_
  refine s_ld C hX hbl hbA hS (j := (i + 7)) (by omega) (by omega) d_L_law_761 ?_
  obtain ⟨w7, ew7⟩ : ∃ z99 : Int32, z99 = xs (i + 7) := ⟨_, rfl⟩
  refine g_eqi (y := w7) ew7.symm ?_
  refine lv_i2l (v := w7.toInt64) hx hb d_L_law_762 rfl ?_
  refine lv_ldc2 hx hb hown (C.w wd_742) d_L_law_763 ?_
  refine lv_land hx hb d_L_law_766 ?_
  refine lv_lor hx hb d_L_law_767 ?_
  obtain ⟨v6, ev6⟩ : ∃ z99 : Int64, z99 = (w6.toInt64 <<< ((32 : Int32).toInt64 &&& 63)) ||| (w7.toInt64 &&& 4294967295) := ⟨_, rfl⟩
  refine g_eql (y := v6) ev6.symm ?_
  refine lv_aload_n hx hb d_L_law_768 rfl (lv_at hl 1 rfl) ?_
  refine lv_iload hx hb d_L_law_769 (lv_at hl 0 rfl) ?_
  refine lv_bipush (v := 8) hx hb d_L_law_771 (by decide) ?_
  refine lv_iadd hx hb d_L_law_773 ?_
  refine g_eqi (y := nI (i + 8)) (nI_add i 8) ?_
  refine s_ld C hX hbl hbA hS (j := (i + 8)) (by omega) (by omega) d_L_law_774 ?_
  obtain ⟨w8, ew8⟩ : ∃ z99 : Int32, z99 = xs (i + 8) := ⟨_, rfl⟩
  refine g_eqi (y := w8) ew8.symm ?_
  refine lv_i2l (v := w8.toInt64) hx hb d_L_law_775 rfl ?_
  refine lv_bipush (v := 32) hx hb d_L_law_776 (by decide) ?_
  refine lv_lshl (v := w8.toInt64 <<< ((32 : Int32).toInt64 &&& 63)) hx hb d_L_law_778 rfl ?_
  refine lv_aload_n hx hb d_L_law_779 rfl (lv_at hl 1 rfl) ?_
  refine lv_iload hx hb d_L_law_780 (lv_at hl 0 rfl) ?_
  refine lv_bipush (v := 9) hx hb d_L_law_782 (by decide) ?_
  refine lv_iadd hx hb d_L_law_784 ?_
  refine g_eqi (y := nI (i + 9)) (nI_add i 9) ?_
  refine s_ld C hX hbl hbA hS (j := (i + 9)) (by omega) (by omega) d_L_law_785 ?_
  obtain ⟨w9, ew9⟩ : ∃ z99 : Int32, z99 = xs (i + 9) := ⟨_, rfl⟩
  refine g_eqi (y := w9) ew9.symm ?_
  refine lv_i2l (v := w9.toInt64) hx hb d_L_law_786 rfl ?_
  refine lv_ldc2 hx hb hown (C.w wd_742) d_L_law_787 ?_
  refine lv_land hx hb d_L_law_790 ?_
  refine lv_lor hx hb d_L_law_791 ?_
  obtain ⟨v8, ev8⟩ : ∃ z99 : Int64, z99 = (w8.toInt64 <<< ((32 : Int32).toInt64 &&& 63)) ||| (w9.toInt64 &&& 4294967295) := ⟨_, rfl⟩
  refine g_eql (y := v8) ev8.symm ?_
  refine lv_aload_n hx hb d_L_law_792 rfl (lv_at hl 4 rfl) ?_
  refine j_calli (l_runS C hN hZ hNc hl.1 (ct_L_search (sa := sa) hl0 fx x a b hk o g ho w1 v2 v4 v6 v8 _) (cx_SW C 7 wd_337 wd_338 wd_0 wd_339 rfl rfl (by decide +kernel) ⟨Nat.le_of_ble_eq_true rfl, Nat.le_of_ble_eq_true rfl⟩) hP.left hS hA0 rfl rfl (Nat.le_of_ble_eq_true rfl) d_L_law_793 ⟨by show cells + 5 ≤ 601024; omega, by show slots + 30 ≤ 7293033; omega⟩) hd hP hS hA0 (fun k9 f1 H locs hq hd hP hS => ?_)
  obtain ⟨fx1, g1, a1, b1, r9, hu9, ho1, hk1, hlp⟩ := hq
  rw [hu9] at hd hP
  have hok1 : bOK b1 := hk1.2.2.2.2
  have hP2 : hH G (lA s) (hj fm (hj fx1 (hc1 o (aL G 1 g1)))) H := by rw [← hj_comm hd]; exact hP
  refine lv_istore (lv' := [(5, .int k9), (4, .int (nI i)), (0, .ref b0), (1, .ref x), (2, .ref y), (3, .ref o)]) hx hb d_L_law_796 hl (by decide) rfl (fun ls hl => ?_)
  refine lv_aload_n hx hb d_L_law_798 rfl (lv_at hl 4 rfl) ?_
  refine lv_aload_n hx hb d_L_law_799 rfl (lv_at hl 2 rfl) ?_
  refine lv_iload hx hb d_L_law_800 (lv_at hl 1 rfl) ?_
  refine lv_iconst (v := 1) hx hb d_L_law_802 (by decide) ?_
  refine lv_iadd hx hb d_L_law_803 ?_
  refine g_eqi (y := nI (i + 1)) (nI_add i 1) ?_
  refine s_ld C hX hbl hbA hS (j := (i + 1)) (by omega) (by omega) d_L_law_804 ?_
  refine g_eqi (y := w1) ew1.symm ?_
  refine lv_aload_n hx hb d_L_law_805 rfl (lv_at hl 2 rfl) ?_
  refine lv_iload hx hb d_L_law_806 (lv_at hl 1 rfl) ?_
  refine lv_iconst (v := 2) hx hb d_L_law_808 (by decide) ?_
  refine lv_iadd hx hb d_L_law_809 ?_
  refine g_eqi (y := nI (i + 2)) (nI_add i 2) ?_
  refine s_ld C hX hbl hbA hS (j := (i + 2)) (by omega) (by omega) d_L_law_810 ?_
  refine g_eqi (y := w2) ew2.symm ?_
  refine lv_i2l (v := w2.toInt64) hx hb d_L_law_811 rfl ?_
  refine lv_bipush (v := 32) hx hb d_L_law_812 (by decide) ?_
  refine lv_lshl (v := w2.toInt64 <<< ((32 : Int32).toInt64 &&& 63)) hx hb d_L_law_814 rfl ?_
  refine lv_aload_n hx hb d_L_law_815 rfl (lv_at hl 2 rfl) ?_
  refine lv_iload hx hb d_L_law_816 (lv_at hl 1 rfl) ?_
  refine lv_iconst (v := 3) hx hb d_L_law_818 (by decide) ?_
  refine lv_iadd hx hb d_L_law_819 ?_
  refine g_eqi (y := nI (i + 3)) (nI_add i 3) ?_
  refine s_ld C hX hbl hbA hS (j := (i + 3)) (by omega) (by omega) d_L_law_820 ?_
  refine g_eqi (y := w3) ew3.symm ?_
  refine lv_i2l (v := w3.toInt64) hx hb d_L_law_821 rfl ?_
  refine lv_ldc2 hx hb hown (C.w wd_742) d_L_law_822 ?_
  refine lv_land hx hb d_L_law_825 ?_
  refine lv_lor hx hb d_L_law_826 ?_
  refine g_eql (y := v2) ev2.symm ?_
  refine lv_aload_n hx hb d_L_law_827 rfl (lv_at hl 2 rfl) ?_
  refine lv_iload hx hb d_L_law_828 (lv_at hl 1 rfl) ?_
  refine lv_iconst (v := 4) hx hb d_L_law_830 (by decide) ?_
  refine lv_iadd hx hb d_L_law_831 ?_
  refine g_eqi (y := nI (i + 4)) (nI_add i 4) ?_
  refine s_ld C hX hbl hbA hS (j := (i + 4)) (by omega) (by omega) d_L_law_832 ?_
  refine g_eqi (y := w4) ew4.symm ?_
  refine lv_i2l (v := w4.toInt64) hx hb d_L_law_833 rfl ?_
  refine lv_bipush (v := 32) hx hb d_L_law_834 (by decide) ?_
  refine lv_lshl (v := w4.toInt64 <<< ((32 : Int32).toInt64 &&& 63)) hx hb d_L_law_836 rfl ?_
  refine lv_aload_n hx hb d_L_law_837 rfl (lv_at hl 2 rfl) ?_
  refine lv_iload hx hb d_L_law_838 (lv_at hl 1 rfl) ?_
  refine lv_iconst (v := 5) hx hb d_L_law_840 (by decide) ?_
  refine lv_iadd hx hb d_L_law_841 ?_
  refine g_eqi (y := nI (i + 5)) (nI_add i 5) ?_
  refine s_ld C hX hbl hbA hS (j := (i + 5)) (by omega) (by omega) d_L_law_842 ?_
  refine g_eqi (y := w5) ew5.symm ?_
  refine lv_i2l (v := w5.toInt64) hx hb d_L_law_843 rfl ?_
  refine lv_ldc2 hx hb hown (C.w wd_742) d_L_law_844 ?_
  refine lv_land hx hb d_L_law_847 ?_
  refine lv_lor hx hb d_L_law_848 ?_
  refine g_eql (y := v4) ev4.symm ?_
  refine lv_aload_n hx hb d_L_law_849 rfl (lv_at hl 2 rfl) ?_
  refine lv_iload hx hb d_L_law_850 (lv_at hl 1 rfl) ?_
  refine lv_bipush (v := 6) hx hb d_L_law_852 (by decide) ?_
  refine lv_iadd hx hb d_L_law_854 ?_
  refine g_eqi (y := nI (i + 6)) (nI_add i 6) ?_
  refine s_ld C hX hbl hbA hS (j := (i + 6)) (by omega) (by omega) d_L_law_855 ?_
  refine g_eqi (y := w6) ew6.symm ?_
  refine lv_i2l (v := w6.toInt64) hx hb d_L_law_856 rfl ?_
  refine lv_bipush (v := 32) hx hb d_L_law_857 (by decide) ?_
  refine lv_lshl (v := w6.toInt64 <<< ((32 : Int32).toInt64 &&& 63)) hx hb d_L_law_859 rfl ?_
  refine lv_aload_n hx hb d_L_law_860 rfl (lv_at hl 2 rfl) ?_
  refine lv_iload hx hb d_L_law_861 (lv_at hl 1 rfl) ?_
  refine lv_bipush (v := 7) hx hb d_L_law_863 (by decide) ?_
  refine lv_iadd hx hb d_L_law_865 ?_
  refine g_eqi (y := nI (i + 7)) (nI_add i 7) ?_
  refine s_ld C hX hbl hbA hS (j := (i + 7)) (by omega) (by omega) d_L_law_866 ?_
  refine g_eqi (y := w7) ew7.symm ?_
  refine lv_i2l (v := w7.toInt64) hx hb d_L_law_867 rfl ?_
  refine lv_ldc2 hx hb hown (C.w wd_742) d_L_law_868 ?_
  refine lv_land hx hb d_L_law_871 ?_
  refine lv_lor hx hb d_L_law_872 ?_
  refine g_eql (y := v6) ev6.symm ?_
  refine lv_aload_n hx hb d_L_law_873 rfl (lv_at hl 2 rfl) ?_
  refine lv_iload hx hb d_L_law_874 (lv_at hl 1 rfl) ?_
  refine lv_bipush (v := 8) hx hb d_L_law_876 (by decide) ?_
  refine lv_iadd hx hb d_L_law_878 ?_
  refine g_eqi (y := nI (i + 8)) (nI_add i 8) ?_
  refine s_ld C hX hbl hbA hS (j := (i + 8)) (by omega) (by omega) d_L_law_879 ?_
  refine g_eqi (y := w8) ew8.symm ?_
  refine lv_i2l (v := w8.toInt64) hx hb d_L_law_880 rfl ?_
  refine lv_bipush (v := 32) hx hb d_L_law_881 (by decide) ?_
  refine lv_lshl (v := w8.toInt64 <<< ((32 : Int32).toInt64 &&& 63)) hx hb d_L_law_883 rfl ?_
  refine lv_aload_n hx hb d_L_law_884 rfl (lv_at hl 2 rfl) ?_
  refine lv_iload hx hb d_L_law_885 (lv_at hl 1 rfl) ?_
  refine lv_bipush (v := 9) hx hb d_L_law_887 (by decide) ?_
  refine lv_iadd hx hb d_L_law_889 ?_
  refine g_eqi (y := nI (i + 9)) (nI_add i 9) ?_
  refine s_ld C hX hbl hbA hS (j := (i + 9)) (by omega) (by omega) d_L_law_890 ?_
  refine g_eqi (y := w9) ew9.symm ?_
  refine lv_i2l (v := w9.toInt64) hx hb d_L_law_891 rfl ?_
  refine lv_ldc2 hx hb hown (C.w wd_742) d_L_law_892 ?_
  refine lv_land hx hb d_L_law_895 ?_
  refine lv_lor hx hb d_L_law_896 ?_
  refine g_eql (y := v8) ev8.symm ?_
  refine j_calli (g_runV C hl.1 (ct_M_search fm y ca b hok th bc cp hm w1 v2 v4 v6 v8 r9 b1 (fun hI9 hN9 => lp_K hlp hI9 hN9) _) (cx_V C 5 wd_659 wd_660 wd_661 wd_3 wd_662 rfl rfl (by decide +kernel) ⟨Nat.le_of_ble_eq_true rfl, Nat.le_of_ble_eq_true rfl⟩) hP2.left oy rfl rfl rfl (Nat.le_of_ble_eq_true rfl) d_L_law_897 ⟨by show cells + 5 + 0 ≤ 601024; omega, by show slots + 30 + 0 ≤ 7293033; omega⟩) hd.symm hP2 hS hA0 (fun r2 fm1 H locs hq hd hP hS => ?_)
  obtain ⟨th2, b2, bc2, cp2, hm2, hmp⟩ := hq
  obtain ⟨hth, hb2, hdone⟩ := lp_mp hlp hmp
  rw [hth, hb2] at hm2
  obtain ⟨ys1, oy1⟩ := mS_y hm2
  refine lv_istore (lv' := [(6, .int r2), (5, .int k9), (4, .int (nI i)), (0, .ref b0), (1, .ref x), (2, .ref y), (3, .ref o)]) hx hb d_L_law_900 hl (by decide) rfl (fun ls hl => ?_)
  refine lv_aload_n hx hb d_L_law_902 rfl (lv_at hl 5 rfl) ?_
  refine j_calli (g_runV C hl.1 (ct_M_thrown fm1 y ca b1 hok1 k9 bc2 cp2 hm2 _) (cx_V C 0 wd_580 wd_581 wd_582 wd_3 wd_583 rfl rfl (by decide +kernel) ⟨Nat.le_of_ble_eq_true rfl, Nat.le_of_ble_eq_true rfl⟩) hP.left oy1 rfl rfl rfl (Nat.le_of_ble_eq_true rfl) d_L_law_903 ⟨by show cells + 5 + 0 + 0 ≤ 601024; omega, by show slots + 30 + 0 + 0 ≤ 7293033; omega⟩) hd hP hS hA0 (fun r3 fm2 H locs hq hd hP hS => ?_)
  obtain ⟨hr3, hu3⟩ := hq
  rw [hu3] at hd hP
  refine g_eqi (y := k9) hr3 ?_
  have oo1 : hj fx1 (hc1 o (aL G 1 g1)) o = some (aL G 1 g1) := (hj_r ho1).trans hc1_s
  have oo : hj fm1 (hj fx1 (hc1 o (aL G 1 g1))) o = some (aL G 1 g1) := (hj_r (dj_at hd oo1)).trans oo1
  refine lv_iload hx hb d_L_law_906 (lv_at hl 1 rfl) ?_
  refine lv_icmp_eq (tgt := 913) hx hb d_L_law_908 (by decide) (fun c_908 => ?_) (fun c_908 => ?_)
  · refine lv_iload hx hb d_L_law_913 (lv_at hl 1 rfl) ?_
    refine lv_if_ne (tgt := 930) hx hb d_L_law_915 (by decide) (fun c_915 => ?_) (fun c_915 => ?_)
    · refine lv_goto (tgt := 2120) hx hb d_L_law_930 (by decide) ?_
      refine W.widen (k := cells + 15) (n := slots + 400) (by show cells + 5 + 0 + 0 ≤ cells + 15; omega) (by show slots + 30 + 0 + 0 ≤ slots + 400; omega) ?_
      exact kk _ _ _ ⟨fx1, fm1, g1, a1, b1, k9, bc2, cp2, hk1, hm2, ho1, hd.symm, by rw [hj_comm hd.symm]; exact hP⟩ hS (lv_sub hl [2, 3, 4, 5, 6] rfl)
    · obtain ⟨⟨hK9, hg9⟩, hr9⟩ := hdone c_915
      refine lv_aload_n hx hb d_L_law_918 rfl (lv_at hl 6 rfl) ?_
      refine lv_iconst (v := 0) hx hb d_L_law_919 (by decide) ?_
      refine g_laldN C hP oo (j := 0) (by decide) (by decide) d_L_law_920 ?_
      refine g_eql (y := r9.toInt64) (hg9) ?_
      refine lv_iload hx hb d_L_law_921 (lv_at hl 0 rfl) ?_
      refine lv_i2l (v := r2.toInt64) hx hb d_L_law_923 rfl ?_
      refine W.lcmp hx hb d_L_law_924 ?_
      refine lv_if_eq (tgt := 930) hx hb d_L_law_925 (by decide) (fun c_925 => ?_) (fun c_925 => ?_)
      · have c_925 := (lg_cmp_eq _ _).mp c_925
        refine lv_goto (tgt := 2120) hx hb d_L_law_930 (by decide) ?_
        refine W.widen (k := cells + 15) (n := slots + 400) (by show cells + 5 + 0 + 0 ≤ cells + 15; omega) (by show slots + 30 + 0 + 0 ≤ slots + 400; omega) ?_
        exact kk _ _ _ ⟨fx1, fm1, g1, a1, b1, k9, bc2, cp2, hk1, hm2, ho1, hd.symm, by rw [hj_comm hd.symm]; exact hP⟩ hS (lv_sub hl [2, 3, 4, 5, 6] rfl)
      · have c_925 := fun z => c_925 ((lg_cmp_eq _ _).mpr z)
        exact absurd (by rw [hr9]) c_925
  · exact absurd rfl c_908
set_option maxHeartbeats 4000000 in
set_option maxRecDepth 100000 in
theorem law_found {G : hG} {sa : xS} {hw : Cond} {p : Program} {l : Launch} {e : Env} {s : State} {m : MethodId} {below : List Frame} {meth : Method} {c : Code} {Q : State → Prop} {b0 L : Nat} {xs : Nat → Int32} (hl0 : l.stackTraces = false) (C : hC G R_L (hw :: bw) code 8 ret p s m #[Value.ref b0] meth c) (hN : xN sa s) (hZ : xZ (lA s) s s.heap) (hNc : va_Nc eA eI s) (hX : va_X b0 L xs s s.heap) (hbl : b0 < s.heap.size) (hL : L ≤ 5120)
    {i cells slots x y o : Nat} {ca : Nat → Nat} {H : Heap} {locs : List Loc} {ls : Array Slot} (hi : i + 10 ≤ L) (hc9 : cells + 15 ≤ 601024) (hs9 : slots + 400 ≤ 7293033) (hI : LI G (lA s) x y o ca H) (hS : va_S (lA s) s.heap H locs) (hl : lv_has ls 8 [(4, .int (nI i)), (0, .ref b0), (1, .ref x), (2, .ref y), (3, .ref o)])
    (kk : ∀ (H1 : Heap) (locs1 : List Loc) (ls1 : Array Slot), LI G (lA s) x y o ca H1 → va_S (lA s) s.heap H1 locs1 → lv_has ls1 8 [(4, .int (nI i)), (0, .ref b0), (1, .ref x), (2, .ref y), (3, .ref o)] → W p l e room_1 s m #[Value.ref b0] below meth c H1 locs1 (cells + 15) (slots + 400) Q (F0 m 2120 ls1 [])) : W p l e room_1 s m #[Value.ref b0] below meth c H locs cells slots Q (F0 m 933 ls []) := by
  obtain ⟨hx, hb, hml, hown, -, -, -, -⟩ := id C
  have hbA : ¬ lA s b0 := Nat.not_le.mpr hbl
  have hA0 : ∀ q, s.heap.size ≤ q → lA s q := fun _ h => h
  obtain ⟨fx, fm, g, a, b, th, bc, cp, hk, hm, ho, hd, hP⟩ := hI
  obtain ⟨ys, oy⟩ := mS_y hm
  have hok : bOK b := hk.2.2.2.2
  refine lv_aload_n hx hb d_L_law_933 rfl (lv_at hl 2 rfl) ?_
  refine lv_aload_n hx hb d_L_law_934 rfl (lv_at hl 1 rfl) ?_
  refine lv_iload hx hb d_L_law_935 (lv_at hl 0 rfl) ?_
  refine lv_iconst (v := 1) hx hb d_L_law_937 (by decide) ?_
  refine lv_iadd hx hb d_L_law_938 ?_
  refine g_eqi (y := nI (i + 1)) (nI_add i 1) ?_
  refine s_ld C hX hbl hbA hS (j := (i + 1)) (by omega) (by omega) d_L_law_939 ?_
  obtain ⟨w1, ew1⟩ : ∃ z99 : Int32, z99 = xs (i + 1) := ⟨_, rfl⟩
  refine g_eqi (y := w1) ew1.symm ?_
  have hd0 : dj fx (hj (hc1 o (aL G 1 g)) fm) := dj_jr (dj_1 ho) (dj_l hd)
  have hdm : dj (hc1 o (aL G 1 g)) fm := dj_r (dj_1 ho) hd
  rw [hj_assoc] at hP
  refine j_calli (g_runV C hl.1 (ct_B_found fx x a b hk w1 _) (cx_V C 1 wd_62 wd_63 wd_64 wd_1 wd_65 rfl rfl (by decide +kernel) ⟨Nat.le_of_ble_eq_true rfl, Nat.le_of_ble_eq_true rfl⟩) hP.left hk.1.1 rfl rfl rfl (Nat.le_of_ble_eq_true rfl) d_L_law_940 ⟨by show cells + 0 ≤ 601024; omega, by show slots + 0 ≤ 7293033; omega⟩) hd0 hP hS hA0 (fun r9 fx1 H locs hq hd1 hP hS => ?_)
  obtain ⟨hK9, hu9⟩ := hq
  obtain ⟨a1, ea1⟩ : ∃ z, z = a := ⟨_, rfl⟩
  obtain ⟨b1, eb1⟩ : ∃ z, z = b := ⟨_, rfl⟩
  have hk1 : bk G fx1 x a1 b1 := by rw [hu9, ea1, eb1]; exact hk
  have oo1 : hj (hc1 o (aL G 1 g)) fm o = some (aL G 1 g) := hj_l hc1_s
  have ho1 : fx1 o = none := dj_at hd1 oo1
  have hd2 : dj (hj fx1 (hc1 o (aL G 1 g))) fm := dj_jl (by rw [hj_comm hdm] at hd1; exact (dj_l hd1.symm).symm) hdm
  rw [← hj_assoc] at hP
  have hP2 : hH G (lA s) (hj fm (hj fx1 (hc1 o (aL G 1 g)))) H := by rw [← hj_comm hd2]; exact hP
  refine lv_aload_n hx hb d_L_law_943 rfl (lv_at hl 3 rfl) ?_
  refine lv_aload_n hx hb d_L_law_944 rfl (lv_at hl 1 rfl) ?_
  refine lv_iload hx hb d_L_law_945 (lv_at hl 0 rfl) ?_
  refine lv_iconst (v := 1) hx hb d_L_law_947 (by decide) ?_
  refine lv_iadd hx hb d_L_law_948 ?_
  refine g_eqi (y := nI (i + 1)) (nI_add i 1) ?_
  refine s_ld C hX hbl hbA hS (j := (i + 1)) (by omega) (by omega) d_L_law_949 ?_
  refine g_eqi (y := w1) ew1.symm ?_
  refine j_calli (g_runV C hl.1 (ct_M_found fm y ca b hok th bc cp hm w1 r9 b1 (fun _ _ => ⟨hK9, eb1⟩) _) (cx_V C 1 wd_663 wd_664 wd_665 wd_3 wd_666 rfl rfl (by decide +kernel) ⟨Nat.le_of_ble_eq_true rfl, Nat.le_of_ble_eq_true rfl⟩) hP2.left oy rfl rfl rfl (Nat.le_of_ble_eq_true rfl) d_L_law_950 ⟨by show cells + 0 + 0 ≤ 601024; omega, by show slots + 0 + 0 ≤ 7293033; omega⟩) hd2.symm hP2 hS hA0 (fun r2 fm1 H locs hq hd hP hS => ?_)
  obtain ⟨th2, b2, bc2, cp2, hm2, hmp⟩ := hq
  obtain ⟨hb2, hr2⟩ := mp_tt hmp
  rw [hb2] at hm2
  refine lv_icmp_eq (tgt := 2120) hx hb d_L_law_953 (by decide) (fun c_953 => ?_) (fun c_953 => ?_)
  · refine W.widen (k := cells + 15) (n := slots + 400) (by show cells + 0 + 0 ≤ cells + 15; omega) (by show slots + 0 + 0 ≤ slots + 400; omega) ?_
    exact kk _ _ _ ⟨fx1, fm1, g, a1, b1, th2, bc2, cp2, hk1, hm2, ho1, hd.symm, by rw [hj_comm hd.symm]; exact hP⟩ hS (lv_sub hl [0, 1, 2, 3, 4] rfl)
  · exact absurd hr2.symm c_953
set_option maxHeartbeats 4000000 in
set_option maxRecDepth 100000 in
theorem law_price {G : hG} {sa : xS} {hw : Cond} {p : Program} {l : Launch} {e : Env} {s : State} {m : MethodId} {below : List Frame} {meth : Method} {c : Code} {Q : State → Prop} {b0 L : Nat} {xs : Nat → Int32} (hl0 : l.stackTraces = false) (C : hC G R_L (hw :: bw) code 8 ret p s m #[Value.ref b0] meth c) (hN : xN sa s) (hZ : xZ (lA s) s s.heap) (hNc : va_Nc eA eI s) (hX : va_X b0 L xs s s.heap) (hbl : b0 < s.heap.size) (hL : L ≤ 5120)
    {i cells slots x y o : Nat} {ca : Nat → Nat} {H : Heap} {locs : List Loc} {ls : Array Slot} (hi : i + 10 ≤ L) (hc9 : cells + 15 ≤ 601024) (hs9 : slots + 400 ≤ 7293033) (hI : LI G (lA s) x y o ca H) (hS : va_S (lA s) s.heap H locs) (hl : lv_has ls 8 [(4, .int (nI i)), (0, .ref b0), (1, .ref x), (2, .ref y), (3, .ref o)])
    (kk : ∀ (H1 : Heap) (locs1 : List Loc) (ls1 : Array Slot), LI G (lA s) x y o ca H1 → va_S (lA s) s.heap H1 locs1 → lv_has ls1 8 [(4, .int (nI i)), (0, .ref b0), (1, .ref x), (2, .ref y), (3, .ref o)] → W p l e room_1 s m #[Value.ref b0] below meth c H1 locs1 (cells + 15) (slots + 400) Q (F0 m 2120 ls1 [])) : W p l e room_1 s m #[Value.ref b0] below meth c H locs cells slots Q (F0 m 958 ls []) := by
  obtain ⟨hx, hb, hml, hown, -, -, -, -⟩ := id C
  have hbA : ¬ lA s b0 := Nat.not_le.mpr hbl
  have hA0 : ∀ q, s.heap.size ≤ q → lA s q := fun _ h => h
  obtain ⟨fx, fm, g, a, b, th, bc, cp, hk, hm, ho, hd, hP⟩ := hI
  obtain ⟨ys, oy⟩ := mS_y hm
  have hok : bOK b := hk.2.2.2.2
  refine lv_aload_n hx hb d_L_law_958 rfl (lv_at hl 2 rfl) ?_
  refine lv_aload_n hx hb d_L_law_959 rfl (lv_at hl 1 rfl) ?_
  refine lv_iload hx hb d_L_law_960 (lv_at hl 0 rfl) ?_
  refine lv_iconst (v := 1) hx hb d_L_law_962 (by decide) ?_
  refine lv_iadd hx hb d_L_law_963 ?_
  refine g_eqi (y := nI (i + 1)) (nI_add i 1) ?_
  refine s_ld C hX hbl hbA hS (j := (i + 1)) (by omega) (by omega) d_L_law_964 ?_
  obtain ⟨w1, ew1⟩ : ∃ z99 : Int32, z99 = xs (i + 1) := ⟨_, rfl⟩
  refine g_eqi (y := w1) ew1.symm ?_
  refine lv_aload_n hx hb d_L_law_965 rfl (lv_at hl 1 rfl) ?_
  refine lv_iload hx hb d_L_law_966 (lv_at hl 0 rfl) ?_
  refine lv_iconst (v := 2) hx hb d_L_law_968 (by decide) ?_
  refine lv_iadd hx hb d_L_law_969 ?_
  refine g_eqi (y := nI (i + 2)) (nI_add i 2) ?_
  refine s_ld C hX hbl hbA hS (j := (i + 2)) (by omega) (by omega) d_L_law_970 ?_
  obtain ⟨w2, ew2⟩ : ∃ z99 : Int32, z99 = xs (i + 2) := ⟨_, rfl⟩
  refine g_eqi (y := w2) ew2.symm ?_
  refine lv_aload_n hx hb d_L_law_971 rfl (lv_at hl 1 rfl) ?_
  refine lv_iload hx hb d_L_law_972 (lv_at hl 0 rfl) ?_
  refine lv_iconst (v := 3) hx hb d_L_law_974 (by decide) ?_
  refine lv_iadd hx hb d_L_law_975 ?_
  refine g_eqi (y := nI (i + 3)) (nI_add i 3) ?_
  refine s_ld C hX hbl hbA hS (j := (i + 3)) (by omega) (by omega) d_L_law_976 ?_
  obtain ⟨w3, ew3⟩ : ∃ z99 : Int32, z99 = xs (i + 3) := ⟨_, rfl⟩
  refine g_eqi (y := w3) ew3.symm ?_
  refine lv_i2l (v := w3.toInt64) hx hb d_L_law_977 rfl ?_
  refine lv_bipush (v := 32) hx hb d_L_law_978 (by decide) ?_
  refine lv_lshl (v := w3.toInt64 <<< ((32 : Int32).toInt64 &&& 63)) hx hb d_L_law_980 rfl ?_
  refine lv_aload_n hx hb d_L_law_981 rfl (lv_at hl 1 rfl) ?_
  refine lv_iload hx hb d_L_law_982 (lv_at hl 0 rfl) ?_
  refine lv_iconst (v := 4) hx hb d_L_law_984 (by decide) ?_
  refine lv_iadd hx hb d_L_law_985 ?_
  refine g_eqi (y := nI (i + 4)) (nI_add i 4) ?_
  refine s_ld C hX hbl hbA hS (j := (i + 4)) (by omega) (by omega) d_L_law_986 ?_
  obtain ⟨w4, ew4⟩ : ∃ z99 : Int32, z99 = xs (i + 4) := ⟨_, rfl⟩
  refine g_eqi (y := w4) ew4.symm ?_
  refine lv_i2l (v := w4.toInt64) hx hb d_L_law_987 rfl ?_
  refine lv_ldc2 hx hb hown (C.w wd_742) d_L_law_988 ?_
  refine lv_land hx hb d_L_law_991 ?_
  refine lv_lor hx hb d_L_law_992 ?_
  obtain ⟨v3, ev3⟩ : ∃ z99 : Int64, z99 = (w3.toInt64 <<< ((32 : Int32).toInt64 &&& 63)) ||| (w4.toInt64 &&& 4294967295) := ⟨_, rfl⟩
  refine g_eql (y := v3) ev3.symm ?_
  refine lv_aload_n hx hb d_L_law_993 rfl (lv_at hl 1 rfl) ?_
  refine lv_iload hx hb d_L_law_994 (lv_at hl 0 rfl) ?_
  refine lv_iconst (v := 5) hx hb d_L_law_996 (by decide) ?_
  refine lv_iadd hx hb d_L_law_997 ?_
  refine g_eqi (y := nI (i + 5)) (nI_add i 5) ?_
  refine s_ld C hX hbl hbA hS (j := (i + 5)) (by omega) (by omega) d_L_law_998 ?_
  obtain ⟨w5, ew5⟩ : ∃ z99 : Int32, z99 = xs (i + 5) := ⟨_, rfl⟩
  refine g_eqi (y := w5) ew5.symm ?_
  refine lv_aload_n hx hb d_L_law_999 rfl (lv_at hl 4 rfl) ?_
  refine j_calli (l_runS C hN hZ hNc hl.1 (ct_L_price (sa := sa) hl0 fx x a b hk o g ho w1 w2 v3 w5 _) (cx_SW C 6 wd_344 wd_345 wd_0 wd_346 rfl rfl (by decide +kernel) ⟨Nat.le_of_ble_eq_true rfl, Nat.le_of_ble_eq_true rfl⟩) hP.left hS hA0 rfl rfl (Nat.le_of_ble_eq_true rfl) d_L_law_1000 ⟨by show cells + 4 ≤ 601024; omega, by show slots + 24 ≤ 7293033; omega⟩) hd hP hS hA0 (fun k9 f1 H locs hq hd hP hS => ?_)
  obtain ⟨fx1, g1, a1, b1, r9, hu9, ho1, hk1, hlp⟩ := hq
  rw [hu9] at hd hP
  have hok1 : bOK b1 := hk1.2.2.2.2
  have hP2 : hH G (lA s) (hj fm (hj fx1 (hc1 o (aL G 1 g1)))) H := by rw [← hj_comm hd]; exact hP
  refine lv_istore (lv' := [(5, .int k9), (4, .int (nI i)), (0, .ref b0), (1, .ref x), (2, .ref y), (3, .ref o)]) hx hb d_L_law_1003 hl (by decide) rfl (fun ls hl => ?_)
  refine lv_aload_n hx hb d_L_law_1005 rfl (lv_at hl 4 rfl) ?_
  refine lv_aload_n hx hb d_L_law_1006 rfl (lv_at hl 2 rfl) ?_
  refine lv_iload hx hb d_L_law_1007 (lv_at hl 1 rfl) ?_
  refine lv_iconst (v := 1) hx hb d_L_law_1009 (by decide) ?_
  refine lv_iadd hx hb d_L_law_1010 ?_
  refine g_eqi (y := nI (i + 1)) (nI_add i 1) ?_
  refine s_ld C hX hbl hbA hS (j := (i + 1)) (by omega) (by omega) d_L_law_1011 ?_
  refine g_eqi (y := w1) ew1.symm ?_
  refine lv_aload_n hx hb d_L_law_1012 rfl (lv_at hl 2 rfl) ?_
  refine lv_iload hx hb d_L_law_1013 (lv_at hl 1 rfl) ?_
  refine lv_iconst (v := 2) hx hb d_L_law_1015 (by decide) ?_
  refine lv_iadd hx hb d_L_law_1016 ?_
  refine g_eqi (y := nI (i + 2)) (nI_add i 2) ?_
  refine s_ld C hX hbl hbA hS (j := (i + 2)) (by omega) (by omega) d_L_law_1017 ?_
  refine g_eqi (y := w2) ew2.symm ?_
  refine lv_aload_n hx hb d_L_law_1018 rfl (lv_at hl 2 rfl) ?_
  refine lv_iload hx hb d_L_law_1019 (lv_at hl 1 rfl) ?_
  refine lv_iconst (v := 3) hx hb d_L_law_1021 (by decide) ?_
  refine lv_iadd hx hb d_L_law_1022 ?_
  refine g_eqi (y := nI (i + 3)) (nI_add i 3) ?_
  refine s_ld C hX hbl hbA hS (j := (i + 3)) (by omega) (by omega) d_L_law_1023 ?_
  refine g_eqi (y := w3) ew3.symm ?_
  refine lv_i2l (v := w3.toInt64) hx hb d_L_law_1024 rfl ?_
  refine lv_bipush (v := 32) hx hb d_L_law_1025 (by decide) ?_
  refine lv_lshl (v := w3.toInt64 <<< ((32 : Int32).toInt64 &&& 63)) hx hb d_L_law_1027 rfl ?_
  refine lv_aload_n hx hb d_L_law_1028 rfl (lv_at hl 2 rfl) ?_
  refine lv_iload hx hb d_L_law_1029 (lv_at hl 1 rfl) ?_
  refine lv_iconst (v := 4) hx hb d_L_law_1031 (by decide) ?_
  refine lv_iadd hx hb d_L_law_1032 ?_
  refine g_eqi (y := nI (i + 4)) (nI_add i 4) ?_
  refine s_ld C hX hbl hbA hS (j := (i + 4)) (by omega) (by omega) d_L_law_1033 ?_
  refine g_eqi (y := w4) ew4.symm ?_
  refine lv_i2l (v := w4.toInt64) hx hb d_L_law_1034 rfl ?_
  refine lv_ldc2 hx hb hown (C.w wd_742) d_L_law_1035 ?_
  refine lv_land hx hb d_L_law_1038 ?_
  refine lv_lor hx hb d_L_law_1039 ?_
  refine g_eql (y := v3) ev3.symm ?_
  refine lv_aload_n hx hb d_L_law_1040 rfl (lv_at hl 2 rfl) ?_
  refine lv_iload hx hb d_L_law_1041 (lv_at hl 1 rfl) ?_
  refine lv_iconst (v := 5) hx hb d_L_law_1043 (by decide) ?_
  refine lv_iadd hx hb d_L_law_1044 ?_
  refine g_eqi (y := nI (i + 5)) (nI_add i 5) ?_
  refine s_ld C hX hbl hbA hS (j := (i + 5)) (by omega) (by omega) d_L_law_1045 ?_
  refine g_eqi (y := w5) ew5.symm ?_
  refine j_calli (g_runV C hl.1 (ct_M_price fm y ca b hok th bc cp hm w1 w2 v3 w5 r9 b1 (fun hI9 hN9 => lp_K hlp hI9 hN9) _) (cx_V C 4 wd_667 wd_668 wd_669 wd_3 wd_670 rfl rfl (by decide +kernel) ⟨Nat.le_of_ble_eq_true rfl, Nat.le_of_ble_eq_true rfl⟩) hP2.left oy rfl rfl rfl (Nat.le_of_ble_eq_true rfl) d_L_law_1046 ⟨by show cells + 4 + 0 ≤ 601024; omega, by show slots + 24 + 0 ≤ 7293033; omega⟩) hd.symm hP2 hS hA0 (fun r2 fm1 H locs hq hd hP hS => ?_)
  obtain ⟨th2, b2, bc2, cp2, hm2, hmp⟩ := hq
  obtain ⟨hth, hb2, hdone⟩ := lp_mp hlp hmp
  rw [hth, hb2] at hm2
  obtain ⟨ys1, oy1⟩ := mS_y hm2
  refine lv_istore (lv' := [(6, .int r2), (5, .int k9), (4, .int (nI i)), (0, .ref b0), (1, .ref x), (2, .ref y), (3, .ref o)]) hx hb d_L_law_1049 hl (by decide) rfl (fun ls hl => ?_)
  refine lv_aload_n hx hb d_L_law_1051 rfl (lv_at hl 5 rfl) ?_
  refine j_calli (g_runV C hl.1 (ct_M_thrown fm1 y ca b1 hok1 k9 bc2 cp2 hm2 _) (cx_V C 0 wd_580 wd_581 wd_582 wd_3 wd_583 rfl rfl (by decide +kernel) ⟨Nat.le_of_ble_eq_true rfl, Nat.le_of_ble_eq_true rfl⟩) hP.left oy1 rfl rfl rfl (Nat.le_of_ble_eq_true rfl) d_L_law_1052 ⟨by show cells + 4 + 0 + 0 ≤ 601024; omega, by show slots + 24 + 0 + 0 ≤ 7293033; omega⟩) hd hP hS hA0 (fun r3 fm2 H locs hq hd hP hS => ?_)
  obtain ⟨hr3, hu3⟩ := hq
  rw [hu3] at hd hP
  refine g_eqi (y := k9) hr3 ?_
  have oo1 : hj fx1 (hc1 o (aL G 1 g1)) o = some (aL G 1 g1) := (hj_r ho1).trans hc1_s
  have oo : hj fm1 (hj fx1 (hc1 o (aL G 1 g1))) o = some (aL G 1 g1) := (hj_r (dj_at hd oo1)).trans oo1
  refine lv_iload hx hb d_L_law_1055 (lv_at hl 1 rfl) ?_
  refine lv_icmp_eq (tgt := 1062) hx hb d_L_law_1057 (by decide) (fun c_1057 => ?_) (fun c_1057 => ?_)
  · refine lv_iload hx hb d_L_law_1062 (lv_at hl 1 rfl) ?_
    refine lv_if_ne (tgt := 1086) hx hb d_L_law_1064 (by decide) (fun c_1064 => ?_) (fun c_1064 => ?_)
    · refine lv_goto (tgt := 2120) hx hb d_L_law_1086 (by decide) ?_
      refine W.widen (k := cells + 15) (n := slots + 400) (by show cells + 4 + 0 + 0 ≤ cells + 15; omega) (by show slots + 24 + 0 + 0 ≤ slots + 400; omega) ?_
      exact kk _ _ _ ⟨fx1, fm1, g1, a1, b1, k9, bc2, cp2, hk1, hm2, ho1, hd.symm, by rw [hj_comm hd.symm]; exact hP⟩ hS (lv_sub hl [2, 3, 4, 5, 6] rfl)
    · obtain ⟨⟨hK9, hg9⟩, hr9⟩ := hdone c_1064
      refine lv_aload_n hx hb d_L_law_1067 rfl (lv_at hl 6 rfl) ?_
      refine lv_iconst (v := 0) hx hb d_L_law_1068 (by decide) ?_
      refine g_laldN C hP oo (j := 0) (by decide) (by decide) d_L_law_1069 ?_
      refine g_eql (y := eb r9) (hg9) ?_
      refine lv_iload hx hb d_L_law_1070 (lv_at hl 0 rfl) ?_
      refine lv_if_eq (tgt := 1079) hx hb d_L_law_1072 (by decide) (fun c_1072 => ?_) (fun c_1072 => ?_)
      · refine lv_lconst (v := 0) hx hb d_L_law_1079 (by decide) ?_
        refine W.lcmp hx hb d_L_law_1080 ?_
        refine lv_if_eq (tgt := 1086) hx hb d_L_law_1081 (by decide) (fun c_1081 => ?_) (fun c_1081 => ?_)
        · have c_1081 := (lg_cmp_eq _ _).mp c_1081
          refine lv_goto (tgt := 2120) hx hb d_L_law_1086 (by decide) ?_
          refine W.widen (k := cells + 15) (n := slots + 400) (by show cells + 4 + 0 + 0 ≤ cells + 15; omega) (by show slots + 24 + 0 + 0 ≤ slots + 400; omega) ?_
          exact kk _ _ _ ⟨fx1, fm1, g1, a1, b1, k9, bc2, cp2, hk1, hm2, ho1, hd.symm, by rw [hj_comm hd.symm]; exact hP⟩ hS (lv_sub hl [2, 3, 4, 5, 6] rfl)
        · have c_1081 := fun z => c_1081 ((lg_cmp_eq _ _).mpr z)
          exact absurd (by first | exact eb_t (hr9.symm.trans c_1072) | exact eb_f (fun z => c_1072 (hr9.trans z))) c_1081
      · refine lv_lconst (v := 1) hx hb d_L_law_1075 (by decide) ?_
        refine lv_goto (tgt := 1080) hx hb d_L_law_1076 (by decide) ?_
        refine W.lcmp hx hb d_L_law_1080 ?_
        refine lv_if_eq (tgt := 1086) hx hb d_L_law_1081 (by decide) (fun c_1081 => ?_) (fun c_1081 => ?_)
        · have c_1081 := (lg_cmp_eq _ _).mp c_1081
          refine lv_goto (tgt := 2120) hx hb d_L_law_1086 (by decide) ?_
          refine W.widen (k := cells + 15) (n := slots + 400) (by show cells + 4 + 0 + 0 ≤ cells + 15; omega) (by show slots + 24 + 0 + 0 ≤ slots + 400; omega) ?_
          exact kk _ _ _ ⟨fx1, fm1, g1, a1, b1, k9, bc2, cp2, hk1, hm2, ho1, hd.symm, by rw [hj_comm hd.symm]; exact hP⟩ hS (lv_sub hl [2, 3, 4, 5, 6] rfl)
        · have c_1081 := fun z => c_1081 ((lg_cmp_eq _ _).mpr z)
          exact absurd (by first | exact eb_t (hr9.symm.trans c_1072) | exact eb_f (fun z => c_1072 (hr9.trans z))) c_1081
  · exact absurd rfl c_1057
