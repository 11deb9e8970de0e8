/-! The law: its calls (4). -/
set_option maxHeartbeats 4000000 in
set_option maxRecDepth 100000 in
theorem law_cost {G : hG} {sa : xS} {hw : Cond} {p : Program} {l : Launch} {e : Env} {s : State} {m : MethodId} {below : List Frame} {meth : Method} {c : Code} {Q : State → Prop} {b0 L : Nat} {xs : Nat → Int32} (hl0 : l.stackTraces = false) (C : hC G R_L (hw :: bw) code 8 ret p s m #[Value.ref b0] meth c) (hN : xN sa s) (hZ : xZ (lA s) s s.heap) (hNc : va_Nc eA eI s) (hX : va_X b0 L xs s s.heap) (hbl : b0 < s.heap.size) (hL : L ≤ 5120)
    {i cells slots x y o : Nat} {ca : Nat → Nat} {H : Heap} {locs : List Loc} {ls : Array Slot} (hi : i + 10 ≤ L) (hc9 : cells + 15 ≤ 601024) (hs9 : slots + 400 ≤ 7293033) (hI : LI G (lA s) x y o ca H) (hS : va_S (lA s) s.heap H locs) (hl : lv_has ls 8 [(4, .int (nI i)), (0, .ref b0), (1, .ref x), (2, .ref y), (3, .ref o)])
    (kk : ∀ (H1 : Heap) (locs1 : List Loc) (ls1 : Array Slot), LI G (lA s) x y o ca H1 → va_S (lA s) s.heap H1 locs1 → lv_has ls1 8 [(4, .int (nI i)), (0, .ref b0), (1, .ref x), (2, .ref y), (3, .ref o)] → W p l e room_1 s m #[Value.ref b0] below meth c H1 locs1 (cells + 15) (slots + 400) Q (F0 m 2120 ls1 [])) : W p l e room_1 s m #[Value.ref b0] below meth c H locs cells slots Q (F0 m 1565 ls []) := by
  obtain ⟨hx, hb, hml, hown, -, -, -, -⟩ := id C
  have hbA : ¬ lA s b0 := Nat.not_le.mpr hbl
  have hA0 : ∀ q, s.heap.size ≤ q → lA s q := fun _ h => h
  obtain ⟨fx, fm, g, a, b, th, bc, cp, hk, hm, ho, hd, hP⟩ := hI
  obtain ⟨ys, oy⟩ := mS_y hm
  have hok : bOK b := hk.2.2.2.2
  refine lv_aload_n hx hb d_L_law_1565 rfl (lv_at hl 2 rfl) ?_
  refine lv_aload_n hx hb d_L_law_1566 rfl (lv_at hl 1 rfl) ?_
  refine lv_iload hx hb d_L_law_1567 (lv_at hl 0 rfl) ?_
  refine lv_iconst (v := 1) hx hb d_L_law_1569 (by decide) ?_
  refine lv_iadd hx hb d_L_law_1570 ?_
  refine g_eqi (y := nI (i + 1)) (nI_add i 1) ?_
  refine s_ld C hX hbl hbA hS (j := (i + 1)) (by omega) (by omega) d_L_law_1571 ?_
  obtain ⟨w1, ew1⟩ : ∃ z99 : Int32, z99 = xs (i + 1) := ⟨_, rfl⟩
  refine g_eqi (y := w1) ew1.symm ?_
  refine lv_aload_n hx hb d_L_law_1572 rfl (lv_at hl 1 rfl) ?_
  refine lv_iload hx hb d_L_law_1573 (lv_at hl 0 rfl) ?_
  refine lv_iconst (v := 2) hx hb d_L_law_1575 (by decide) ?_
  refine lv_iadd hx hb d_L_law_1576 ?_
  refine g_eqi (y := nI (i + 2)) (nI_add i 2) ?_
  refine s_ld C hX hbl hbA hS (j := (i + 2)) (by omega) (by omega) d_L_law_1577 ?_
  obtain ⟨w2, ew2⟩ : ∃ z99 : Int32, z99 = xs (i + 2) := ⟨_, rfl⟩
  refine g_eqi (y := w2) ew2.symm ?_
  refine lv_aload_n hx hb d_L_law_1578 rfl (lv_at hl 4 rfl) ?_
  refine j_calli (l_runS C hN hZ hNc hl.1 (ct_L_cost (sa := sa) hl0 fx x a b hk o g ho w1 w2 _) (cx_SW C 4 wd_420 wd_421 wd_0 wd_422 rfl rfl (by decide +kernel) ⟨Nat.le_of_ble_eq_true rfl, Nat.le_of_ble_eq_true rfl⟩) hP.left hS hA0 rfl rfl (Nat.le_of_ble_eq_true rfl) d_L_law_1579 ⟨by show cells + 2 ≤ 601024; omega, by show slots + 12 ≤ 7293033; omega⟩) hd hP hS hA0 (fun k9 f1 H locs hq hd hP hS => ?_)
  obtain ⟨fx1, g1, a1, b1, r9, hu9, ho1, hk1, hlp⟩ := hq
  rw [hu9] at hd hP
  have hok1 : bOK b1 := hk1.2.2.2.2
  have hP2 : hH G (lA s) (hj fm (hj fx1 (hc1 o (aL G 1 g1)))) H := by rw [← hj_comm hd]; exact hP
  refine lv_istore (lv' := [(5, .int k9), (4, .int (nI i)), (0, .ref b0), (1, .ref x), (2, .ref y), (3, .ref o)]) hx hb d_L_law_1582 hl (by decide) rfl (fun ls hl => ?_)
  refine lv_aload_n hx hb d_L_law_1584 rfl (lv_at hl 4 rfl) ?_
  refine lv_aload_n hx hb d_L_law_1585 rfl (lv_at hl 2 rfl) ?_
  refine lv_iload hx hb d_L_law_1586 (lv_at hl 1 rfl) ?_
  refine lv_iconst (v := 1) hx hb d_L_law_1588 (by decide) ?_
  refine lv_iadd hx hb d_L_law_1589 ?_
  refine g_eqi (y := nI (i + 1)) (nI_add i 1) ?_
  refine s_ld C hX hbl hbA hS (j := (i + 1)) (by omega) (by omega) d_L_law_1590 ?_
  refine g_eqi (y := w1) ew1.symm ?_
  refine lv_aload_n hx hb d_L_law_1591 rfl (lv_at hl 2 rfl) ?_
  refine lv_iload hx hb d_L_law_1592 (lv_at hl 1 rfl) ?_
  refine lv_iconst (v := 2) hx hb d_L_law_1594 (by decide) ?_
  refine lv_iadd hx hb d_L_law_1595 ?_
  refine g_eqi (y := nI (i + 2)) (nI_add i 2) ?_
  refine s_ld C hX hbl hbA hS (j := (i + 2)) (by omega) (by omega) d_L_law_1596 ?_
  refine g_eqi (y := w2) ew2.symm ?_
  refine j_calll (g_runV C hl.1 (ct_M_cost fm y ca b hok th bc cp hm w1 w2 r9 b1 (fun hI9 hN9 => lp_K hlp hI9 hN9) _) (cx_V C 2 wd_686 wd_687 wd_688 wd_3 wd_689 rfl rfl (by decide +kernel) ⟨Nat.le_of_ble_eq_true rfl, Nat.le_of_ble_eq_true rfl⟩) hP2.left oy rfl rfl rfl (Nat.le_of_ble_eq_true rfl) d_L_law_1597 ⟨by show cells + 2 + 0 ≤ 601024; omega, by show slots + 12 + 0 ≤ 7293033; omega⟩) hd.symm hP2 hS hA0 (fun r2 fm1 H locs hq hd hP hS => ?_)
  obtain ⟨th2, b2, bc2, cp2, hm2, hmp⟩ := hq
  obtain ⟨hth, hb2, hdone⟩ := lp_mp hlp hmp
  rw [hth, hb2] at hm2
  obtain ⟨ys1, oy1⟩ := mS_y hm2
  refine lv_lstore (lv' := [(6, .long r2), (5, .int k9), (4, .int (nI i)), (0, .ref b0), (1, .ref x), (2, .ref y), (3, .ref o)]) hx hb d_L_law_1600 hl (by decide) rfl (fun ls hl => ?_)
  refine lv_aload_n hx hb d_L_law_1602 rfl (lv_at hl 5 rfl) ?_
  refine j_calli (g_runV C hl.1 (ct_M_thrown fm1 y ca b1 hok1 k9 bc2 cp2 hm2 _) (cx_V C 0 wd_580 wd_581 wd_582 wd_3 wd_583 rfl rfl (by decide +kernel) ⟨Nat.le_of_ble_eq_true rfl, Nat.le_of_ble_eq_true rfl⟩) hP.left oy1 rfl rfl rfl (Nat.le_of_ble_eq_true rfl) d_L_law_1603 ⟨by show cells + 2 + 0 + 0 ≤ 601024; omega, by show slots + 12 + 0 + 0 ≤ 7293033; omega⟩) hd hP hS hA0 (fun r3 fm2 H locs hq hd hP hS => ?_)
  obtain ⟨hr3, hu3⟩ := hq
  rw [hu3] at hd hP
  refine g_eqi (y := k9) hr3 ?_
  have oo1 : hj fx1 (hc1 o (aL G 1 g1)) o = some (aL G 1 g1) := (hj_r ho1).trans hc1_s
  have oo : hj fm1 (hj fx1 (hc1 o (aL G 1 g1))) o = some (aL G 1 g1) := (hj_r (dj_at hd oo1)).trans oo1
  refine lv_iload hx hb d_L_law_1606 (lv_at hl 1 rfl) ?_
  refine lv_icmp_eq (tgt := 1613) hx hb d_L_law_1608 (by decide) (fun c_1608 => ?_) (fun c_1608 => ?_)
  · refine lv_iload hx hb d_L_law_1613 (lv_at hl 1 rfl) ?_
    refine lv_if_ne (tgt := 1629) hx hb d_L_law_1615 (by decide) (fun c_1615 => ?_) (fun c_1615 => ?_)
    · refine lv_goto (tgt := 2120) hx hb d_L_law_1629 (by decide) ?_
      refine W.widen (k := cells + 15) (n := slots + 400) (by show cells + 2 + 0 + 0 ≤ cells + 15; omega) (by show slots + 12 + 0 + 0 ≤ slots + 400; omega) ?_
      exact kk _ _ _ ⟨fx1, fm1, g1, a1, b1, k9, bc2, cp2, hk1, hm2, ho1, hd.symm, by rw [hj_comm hd.symm]; exact hP⟩ hS (lv_sub hl [2, 3, 4, 5, 6] rfl)
    · obtain ⟨⟨hK9, hg9⟩, hr9⟩ := hdone c_1615
      refine lv_aload_n hx hb d_L_law_1618 rfl (lv_at hl 6 rfl) ?_
      refine lv_iconst (v := 0) hx hb d_L_law_1619 (by decide) ?_
      refine g_laldN C hP oo (j := 0) (by decide) (by decide) d_L_law_1620 ?_
      refine g_eql (y := r9) (hg9) ?_
      refine lv_lload hx hb d_L_law_1621 (lv_at hl 0 rfl) ?_
      refine W.lcmp hx hb d_L_law_1623 ?_
      refine lv_if_eq (tgt := 1629) hx hb d_L_law_1624 (by decide) (fun c_1624 => ?_) (fun c_1624 => ?_)
      · have c_1624 := (lg_cmp_eq _ _).mp c_1624
        refine lv_goto (tgt := 2120) hx hb d_L_law_1629 (by decide) ?_
        refine W.widen (k := cells + 15) (n := slots + 400) (by show cells + 2 + 0 + 0 ≤ cells + 15; omega) (by show slots + 12 + 0 + 0 ≤ slots + 400; omega) ?_
        exact kk _ _ _ ⟨fx1, fm1, g1, a1, b1, k9, bc2, cp2, hk1, hm2, ho1, hd.symm, by rw [hj_comm hd.symm]; exact hP⟩ hS (lv_sub hl [2, 3, 4, 5, 6] rfl)
      · have c_1624 := fun z => c_1624 ((lg_cmp_eq _ _).mpr z)
        exact absurd hr9.symm c_1624
  · exact absurd rfl c_1608
set_option maxHeartbeats 4000000 in
set_option maxRecDepth 100000 in
theorem law_best {G : hG} {sa : xS} {hw : Cond} {p : Program} {l : Launch} {e : Env} {s : State} {m : MethodId} {below : List Frame} {meth : Method} {c : Code} {Q : State → Prop} {b0 L : Nat} {xs : Nat → Int32} (hl0 : l.stackTraces = false) (C : hC G R_L (hw :: bw) code 8 ret p s m #[Value.ref b0] meth c) (hN : xN sa s) (hZ : xZ (lA s) s s.heap) (hNc : va_Nc eA eI s) (hX : va_X b0 L xs s s.heap) (hbl : b0 < s.heap.size) (hL : L ≤ 5120)
    {i cells slots x y o : Nat} {ca : Nat → Nat} {H : Heap} {locs : List Loc} {ls : Array Slot} (hi : i + 10 ≤ L) (hc9 : cells + 15 ≤ 601024) (hs9 : slots + 400 ≤ 7293033) (hI : LI G (lA s) x y o ca H) (hS : va_S (lA s) s.heap H locs) (hl : lv_has ls 8 [(4, .int (nI i)), (0, .ref b0), (1, .ref x), (2, .ref y), (3, .ref o)])
    (kk : ∀ (H1 : Heap) (locs1 : List Loc) (ls1 : Array Slot), LI G (lA s) x y o ca H1 → va_S (lA s) s.heap H1 locs1 → lv_has ls1 8 [(4, .int (nI i)), (0, .ref b0), (1, .ref x), (2, .ref y), (3, .ref o)] → W p l e room_1 s m #[Value.ref b0] below meth c H1 locs1 (cells + 15) (slots + 400) Q (F0 m 2120 ls1 [])) : W p l e room_1 s m #[Value.ref b0] below meth c H locs cells slots Q (F0 m 1632 ls []) := by
  obtain ⟨hx, hb, hml, hown, -, -, -, -⟩ := id C
  have hbA : ¬ lA s b0 := Nat.not_le.mpr hbl
  have hA0 : ∀ q, s.heap.size ≤ q → lA s q := fun _ h => h
  obtain ⟨fx, fm, g, a, b, th, bc, cp, hk, hm, ho, hd, hP⟩ := hI
  obtain ⟨ys, oy⟩ := mS_y hm
  have hok : bOK b := hk.2.2.2.2
  refine lv_aload_n hx hb d_L_law_1632 rfl (lv_at hl 2 rfl) ?_
  refine lv_aload_n hx hb d_L_law_1633 rfl (lv_at hl 1 rfl) ?_
  refine lv_iload hx hb d_L_law_1634 (lv_at hl 0 rfl) ?_
  refine lv_iconst (v := 1) hx hb d_L_law_1636 (by decide) ?_
  refine lv_iadd hx hb d_L_law_1637 ?_
  refine g_eqi (y := nI (i + 1)) (nI_add i 1) ?_
  refine s_ld C hX hbl hbA hS (j := (i + 1)) (by omega) (by omega) d_L_law_1638 ?_
  obtain ⟨w1, ew1⟩ : ∃ z99 : Int32, z99 = xs (i + 1) := ⟨_, rfl⟩
  refine g_eqi (y := w1) ew1.symm ?_
  refine lv_aload_n hx hb d_L_law_1639 rfl (lv_at hl 1 rfl) ?_
  refine lv_iload hx hb d_L_law_1640 (lv_at hl 0 rfl) ?_
  refine lv_iconst (v := 2) hx hb d_L_law_1642 (by decide) ?_
  refine lv_iadd hx hb d_L_law_1643 ?_
  refine g_eqi (y := nI (i + 2)) (nI_add i 2) ?_
  refine s_ld C hX hbl hbA hS (j := (i + 2)) (by omega) (by omega) d_L_law_1644 ?_
  obtain ⟨w2, ew2⟩ : ∃ z99 : Int32, z99 = xs (i + 2) := ⟨_, rfl⟩
  refine g_eqi (y := w2) ew2.symm ?_
  refine lv_aload_n hx hb d_L_law_1645 rfl (lv_at hl 4 rfl) ?_
  refine j_calli (l_runS C hN hZ hNc hl.1 (ct_L_best (sa := sa) hl0 fx x a b hk o g ho w1 w2 _) (cx_SW C 4 wd_458 wd_459 wd_0 wd_460 rfl rfl (by decide +kernel) ⟨Nat.le_of_ble_eq_true rfl, Nat.le_of_ble_eq_true rfl⟩) hP.left hS hA0 rfl rfl (Nat.le_of_ble_eq_true rfl) d_L_law_1646 ⟨by show cells + 2 ≤ 601024; omega, by show slots + 12 ≤ 7293033; omega⟩) hd hP hS hA0 (fun k9 f1 H locs hq hd hP hS => ?_)
  obtain ⟨fx1, g1, a1, b1, r9, hu9, ho1, hk1, hlp⟩ := hq
  rw [hu9] at hd hP
  have hok1 : bOK b1 := hk1.2.2.2.2
  have hP2 : hH G (lA s) (hj fm (hj fx1 (hc1 o (aL G 1 g1)))) H := by rw [← hj_comm hd]; exact hP
  refine lv_istore (lv' := [(5, .int k9), (4, .int (nI i)), (0, .ref b0), (1, .ref x), (2, .ref y), (3, .ref o)]) hx hb d_L_law_1649 hl (by decide) rfl (fun ls hl => ?_)
  refine lv_aload_n hx hb d_L_law_1651 rfl (lv_at hl 4 rfl) ?_
  refine lv_aload_n hx hb d_L_law_1652 rfl (lv_at hl 2 rfl) ?_
  refine lv_iload hx hb d_L_law_1653 (lv_at hl 1 rfl) ?_
  refine lv_iconst (v := 1) hx hb d_L_law_1655 (by decide) ?_
  refine lv_iadd hx hb d_L_law_1656 ?_
  refine g_eqi (y := nI (i + 1)) (nI_add i 1) ?_
  refine s_ld C hX hbl hbA hS (j := (i + 1)) (by omega) (by omega) d_L_law_1657 ?_
  refine g_eqi (y := w1) ew1.symm ?_
  refine lv_aload_n hx hb d_L_law_1658 rfl (lv_at hl 2 rfl) ?_
  refine lv_iload hx hb d_L_law_1659 (lv_at hl 1 rfl) ?_
  refine lv_iconst (v := 2) hx hb d_L_law_1661 (by decide) ?_
  refine lv_iadd hx hb d_L_law_1662 ?_
  refine g_eqi (y := nI (i + 2)) (nI_add i 2) ?_
  refine s_ld C hX hbl hbA hS (j := (i + 2)) (by omega) (by omega) d_L_law_1663 ?_
  refine g_eqi (y := w2) ew2.symm ?_
  refine j_calli (g_runV C hl.1 (ct_M_best fm y ca b hok th bc cp hm w1 w2 r9 b1 (fun hI9 hN9 => lp_K hlp hI9 hN9) _) (cx_V C 2 wd_705 wd_706 wd_707 wd_3 wd_708 rfl rfl (by decide +kernel) ⟨Nat.le_of_ble_eq_true rfl, Nat.le_of_ble_eq_true rfl⟩) hP2.left oy rfl rfl rfl (Nat.le_of_ble_eq_true rfl) d_L_law_1664 ⟨by show cells + 2 + 0 ≤ 601024; omega, by show slots + 12 + 0 ≤ 7293033; omega⟩) hd.symm hP2 hS hA0 (fun r2 fm1 H locs hq hd hP hS => ?_)
  obtain ⟨th2, b2, bc2, cp2, hm2, hmp⟩ := hq
  obtain ⟨hth, hb2, hdone⟩ := lp_mp hlp hmp
  rw [hth, hb2] at hm2
  obtain ⟨ys1, oy1⟩ := mS_y hm2
  refine lv_istore (lv' := [(6, .int r2), (5, .int k9), (4, .int (nI i)), (0, .ref b0), (1, .ref x), (2, .ref y), (3, .ref o)]) hx hb d_L_law_1667 hl (by decide) rfl (fun ls hl => ?_)
  refine lv_aload_n hx hb d_L_law_1669 rfl (lv_at hl 5 rfl) ?_
  refine j_calli (g_runV C hl.1 (ct_M_thrown fm1 y ca b1 hok1 k9 bc2 cp2 hm2 _) (cx_V C 0 wd_580 wd_581 wd_582 wd_3 wd_583 rfl rfl (by decide +kernel) ⟨Nat.le_of_ble_eq_true rfl, Nat.le_of_ble_eq_true rfl⟩) hP.left oy1 rfl rfl rfl (Nat.le_of_ble_eq_true rfl) d_L_law_1670 ⟨by show cells + 2 + 0 + 0 ≤ 601024; omega, by show slots + 12 + 0 + 0 ≤ 7293033; omega⟩) hd hP hS hA0 (fun r3 fm2 H locs hq hd hP hS => ?_)
  obtain ⟨hr3, hu3⟩ := hq
  rw [hu3] at hd hP
  refine g_eqi (y := k9) hr3 ?_
  have oo1 : hj fx1 (hc1 o (aL G 1 g1)) o = some (aL G 1 g1) := (hj_r ho1).trans hc1_s
  have oo : hj fm1 (hj fx1 (hc1 o (aL G 1 g1))) o = some (aL G 1 g1) := (hj_r (dj_at hd oo1)).trans oo1
  refine lv_iload hx hb d_L_law_1673 (lv_at hl 1 rfl) ?_
  refine lv_icmp_eq (tgt := 1680) hx hb d_L_law_1675 (by decide) (fun c_1675 => ?_) (fun c_1675 => ?_)
  · refine lv_iload hx hb d_L_law_1680 (lv_at hl 1 rfl) ?_
    refine lv_if_ne (tgt := 1697) hx hb d_L_law_1682 (by decide) (fun c_1682 => ?_) (fun c_1682 => ?_)
    · refine lv_goto (tgt := 2120) hx hb d_L_law_1697 (by decide) ?_
      refine W.widen (k := cells + 15) (n := slots + 400) (by show cells + 2 + 0 + 0 ≤ cells + 15; omega) (by show slots + 12 + 0 + 0 ≤ slots + 400; omega) ?_
      exact kk _ _ _ ⟨fx1, fm1, g1, a1, b1, k9, bc2, cp2, hk1, hm2, ho1, hd.symm, by rw [hj_comm hd.symm]; exact hP⟩ hS (lv_sub hl [2, 3, 4, 5, 6] rfl)
    · obtain ⟨⟨hK9, hg9⟩, hr9⟩ := hdone c_1682
      refine lv_aload_n hx hb d_L_law_1685 rfl (lv_at hl 6 rfl) ?_
      refine lv_iconst (v := 0) hx hb d_L_law_1686 (by decide) ?_
      refine g_laldN C hP oo (j := 0) (by decide) (by decide) d_L_law_1687 ?_
      refine g_eql (y := r9.toInt64) (hg9) ?_
      refine lv_iload hx hb d_L_law_1688 (lv_at hl 0 rfl) ?_
      refine lv_i2l (v := r2.toInt64) hx hb d_L_law_1690 rfl ?_
      refine W.lcmp hx hb d_L_law_1691 ?_
      refine lv_if_eq (tgt := 1697) hx hb d_L_law_1692 (by decide) (fun c_1692 => ?_) (fun c_1692 => ?_)
      · have c_1692 := (lg_cmp_eq _ _).mp c_1692
        refine lv_goto (tgt := 2120) hx hb d_L_law_1697 (by decide) ?_
        refine W.widen (k := cells + 15) (n := slots + 400) (by show cells + 2 + 0 + 0 ≤ cells + 15; omega) (by show slots + 12 + 0 + 0 ≤ slots + 400; omega) ?_
        exact kk _ _ _ ⟨fx1, fm1, g1, a1, b1, k9, bc2, cp2, hk1, hm2, ho1, hd.symm, by rw [hj_comm hd.symm]; exact hP⟩ hS (lv_sub hl [2, 3, 4, 5, 6] rfl)
      · have c_1692 := fun z => c_1692 ((lg_cmp_eq _ _).mpr z)
        exact absurd (by rw [hr9]) c_1692
  · exact absurd rfl c_1675
set_option maxHeartbeats 4000000 in
set_option maxRecDepth 100000 in
theorem law_choose {G : hG} {sa : xS} {hw : Cond} {p : Program} {l : Launch} {e : Env} {s : State} {m : MethodId} {below : List Frame} {meth : Method} {c : Code} {Q : State → Prop} {b0 L : Nat} {xs : Nat → Int32} (hl0 : l.stackTraces = false) (C : hC G R_L (hw :: bw) code 8 ret p s m #[Value.ref b0] meth c) (hN : xN sa s) (hZ : xZ (lA s) s s.heap) (hNc : va_Nc eA eI s) (hX : va_X b0 L xs s s.heap) (hbl : b0 < s.heap.size) (hL : L ≤ 5120)
    {i cells slots x y o : Nat} {ca : Nat → Nat} {H : Heap} {locs : List Loc} {ls : Array Slot} (hi : i + 10 ≤ L) (hc9 : cells + 15 ≤ 601024) (hs9 : slots + 400 ≤ 7293033) (hI : LI G (lA s) x y o ca H) (hS : va_S (lA s) s.heap H locs) (hl : lv_has ls 8 [(4, .int (nI i)), (0, .ref b0), (1, .ref x), (2, .ref y), (3, .ref o)])
    (kk : ∀ (H1 : Heap) (locs1 : List Loc) (ls1 : Array Slot), LI G (lA s) x y o ca H1 → va_S (lA s) s.heap H1 locs1 → lv_has ls1 8 [(4, .int (nI i)), (0, .ref b0), (1, .ref x), (2, .ref y), (3, .ref o)] → W p l e room_1 s m #[Value.ref b0] below meth c H1 locs1 (cells + 15) (slots + 400) Q (F0 m 2120 ls1 [])) : W p l e room_1 s m #[Value.ref b0] below meth c H locs cells slots Q (F0 m 1700 ls []) := by
  obtain ⟨hx, hb, hml, hown, -, -, -, -⟩ := id C
  have hbA : ¬ lA s b0 := Nat.not_le.mpr hbl
  have hA0 : ∀ q, s.heap.size ≤ q → lA s q := fun _ h => h
  obtain ⟨fx, fm, g, a, b, th, bc, cp, hk, hm, ho, hd, hP⟩ := hI
  obtain ⟨ys, oy⟩ := mS_y hm
  have hok : bOK b := hk.2.2.2.2
  refine lv_aload_n hx hb d_L_law_1700 rfl (lv_at hl 2 rfl) ?_
  refine lv_aload_n hx hb d_L_law_1701 rfl (lv_at hl 1 rfl) ?_
  refine lv_iload hx hb d_L_law_1702 (lv_at hl 0 rfl) ?_
  refine lv_iconst (v := 1) hx hb d_L_law_1704 (by decide) ?_
  refine lv_iadd hx hb d_L_law_1705 ?_
  refine g_eqi (y := nI (i + 1)) (nI_add i 1) ?_
  refine s_ld C hX hbl hbA hS (j := (i + 1)) (by omega) (by omega) d_L_law_1706 ?_
  obtain ⟨w1, ew1⟩ : ∃ z99 : Int32, z99 = xs (i + 1) := ⟨_, rfl⟩
  refine g_eqi (y := w1) ew1.symm ?_
  refine lv_aload_n hx hb d_L_law_1707 rfl (lv_at hl 1 rfl) ?_
  refine lv_iload hx hb d_L_law_1708 (lv_at hl 0 rfl) ?_
  refine lv_iconst (v := 2) hx hb d_L_law_1710 (by decide) ?_
  refine lv_iadd hx hb d_L_law_1711 ?_
  refine g_eqi (y := nI (i + 2)) (nI_add i 2) ?_
  refine s_ld C hX hbl hbA hS (j := (i + 2)) (by omega) (by omega) d_L_law_1712 ?_
  obtain ⟨w2, ew2⟩ : ∃ z99 : Int32, z99 = xs (i + 2) := ⟨_, rfl⟩
  refine g_eqi (y := w2) ew2.symm ?_
  refine lv_aload_n hx hb d_L_law_1713 rfl (lv_at hl 1 rfl) ?_
  refine lv_iload hx hb d_L_law_1714 (lv_at hl 0 rfl) ?_
  refine lv_iconst (v := 3) hx hb d_L_law_1716 (by decide) ?_
  refine lv_iadd hx hb d_L_law_1717 ?_
  refine g_eqi (y := nI (i + 3)) (nI_add i 3) ?_
  refine s_ld C hX hbl hbA hS (j := (i + 3)) (by omega) (by omega) d_L_law_1718 ?_
  obtain ⟨w3, ew3⟩ : ∃ z99 : Int32, z99 = xs (i + 3) := ⟨_, rfl⟩
  refine g_eqi (y := w3) ew3.symm ?_
  refine lv_aload_n hx hb d_L_law_1719 rfl (lv_at hl 1 rfl) ?_
  refine lv_iload hx hb d_L_law_1720 (lv_at hl 0 rfl) ?_
  refine lv_iconst (v := 4) hx hb d_L_law_1722 (by decide) ?_
  refine lv_iadd hx hb d_L_law_1723 ?_
  refine g_eqi (y := nI (i + 4)) (nI_add i 4) ?_
  refine s_ld C hX hbl hbA hS (j := (i + 4)) (by omega) (by omega) d_L_law_1724 ?_
  obtain ⟨w4, ew4⟩ : ∃ z99 : Int32, z99 = xs (i + 4) := ⟨_, rfl⟩
  refine g_eqi (y := w4) ew4.symm ?_
  refine lv_i2l (v := w4.toInt64) hx hb d_L_law_1725 rfl ?_
  refine lv_bipush (v := 32) hx hb d_L_law_1726 (by decide) ?_
  refine lv_lshl (v := w4.toInt64 <<< ((32 : Int32).toInt64 &&& 63)) hx hb d_L_law_1728 rfl ?_
  refine lv_aload_n hx hb d_L_law_1729 rfl (lv_at hl 1 rfl) ?_
  refine lv_iload hx hb d_L_law_1730 (lv_at hl 0 rfl) ?_
  refine lv_iconst (v := 5) hx hb d_L_law_1732 (by decide) ?_
  refine lv_iadd hx hb d_L_law_1733 ?_
  refine g_eqi (y := nI (i + 5)) (nI_add i 5) ?_
  refine s_ld C hX hbl hbA hS (j := (i + 5)) (by omega) (by omega) d_L_law_1734 ?_
  obtain ⟨w5, ew5⟩ : ∃ z99 : Int32, z99 = xs (i + 5) := ⟨_, rfl⟩
  refine g_eqi (y := w5) ew5.symm ?_
  refine lv_i2l (v := w5.toInt64) hx hb d_L_law_1735 rfl ?_
  refine lv_ldc2 hx hb hown (C.w wd_742) d_L_law_1736 ?_
  refine lv_land hx hb d_L_law_1739 ?_
  refine lv_lor hx hb d_L_law_1740 ?_
  obtain ⟨v4, ev4⟩ : ∃ z99 : Int64, z99 = (w4.toInt64 <<< ((32 : Int32).toInt64 &&& 63)) ||| (w5.toInt64 &&& 4294967295) := ⟨_, rfl⟩
  refine g_eql (y := v4) ev4.symm ?_
  refine lv_aload_n hx hb d_L_law_1741 rfl (lv_at hl 4 rfl) ?_
  refine j_calli (l_runS C hN hZ hNc hl.1 (ct_L_choose (sa := sa) hl0 fx x a b hk o g ho w1 w2 w3 v4 _) (cx_SW C 6 wd_465 wd_466 wd_0 wd_467 rfl rfl (by decide +kernel) ⟨Nat.le_of_ble_eq_true rfl, Nat.le_of_ble_eq_true rfl⟩) hP.left hS hA0 rfl rfl (Nat.le_of_ble_eq_true rfl) d_L_law_1742 ⟨by show cells + 3 ≤ 601024; omega, by show slots + 18 ≤ 7293033; omega⟩) hd hP hS hA0 (fun k9 f1 H locs hq hd hP hS => ?_)
  obtain ⟨fx1, g1, a1, b1, r9, hu9, ho1, hk1, hlp⟩ := hq
  rw [hu9] at hd hP
  have hok1 : bOK b1 := hk1.2.2.2.2
  have hP2 : hH G (lA s) (hj fm (hj fx1 (hc1 o (aL G 1 g1)))) H := by rw [← hj_comm hd]; exact hP
  refine lv_istore (lv' := [(5, .int k9), (4, .int (nI i)), (0, .ref b0), (1, .ref x), (2, .ref y), (3, .ref o)]) hx hb d_L_law_1745 hl (by decide) rfl (fun ls hl => ?_)
  refine lv_aload_n hx hb d_L_law_1747 rfl (lv_at hl 4 rfl) ?_
  refine lv_aload_n hx hb d_L_law_1748 rfl (lv_at hl 2 rfl) ?_
  refine lv_iload hx hb d_L_law_1749 (lv_at hl 1 rfl) ?_
  refine lv_iconst (v := 1) hx hb d_L_law_1751 (by decide) ?_
  refine lv_iadd hx hb d_L_law_1752 ?_
  refine g_eqi (y := nI (i + 1)) (nI_add i 1) ?_
  refine s_ld C hX hbl hbA hS (j := (i + 1)) (by omega) (by omega) d_L_law_1753 ?_
  refine g_eqi (y := w1) ew1.symm ?_
  refine lv_aload_n hx hb d_L_law_1754 rfl (lv_at hl 2 rfl) ?_
  refine lv_iload hx hb d_L_law_1755 (lv_at hl 1 rfl) ?_
  refine lv_iconst (v := 2) hx hb d_L_law_1757 (by decide) ?_
  refine lv_iadd hx hb d_L_law_1758 ?_
  refine g_eqi (y := nI (i + 2)) (nI_add i 2) ?_
  refine s_ld C hX hbl hbA hS (j := (i + 2)) (by omega) (by omega) d_L_law_1759 ?_
  refine g_eqi (y := w2) ew2.symm ?_
  refine lv_aload_n hx hb d_L_law_1760 rfl (lv_at hl 2 rfl) ?_
  refine lv_iload hx hb d_L_law_1761 (lv_at hl 1 rfl) ?_
  refine lv_iconst (v := 3) hx hb d_L_law_1763 (by decide) ?_
  refine lv_iadd hx hb d_L_law_1764 ?_
  refine g_eqi (y := nI (i + 3)) (nI_add i 3) ?_
  refine s_ld C hX hbl hbA hS (j := (i + 3)) (by omega) (by omega) d_L_law_1765 ?_
  refine g_eqi (y := w3) ew3.symm ?_
  refine lv_aload_n hx hb d_L_law_1766 rfl (lv_at hl 2 rfl) ?_
  refine lv_iload hx hb d_L_law_1767 (lv_at hl 1 rfl) ?_
  refine lv_iconst (v := 4) hx hb d_L_law_1769 (by decide) ?_
  refine lv_iadd hx hb d_L_law_1770 ?_
  refine g_eqi (y := nI (i + 4)) (nI_add i 4) ?_
  refine s_ld C hX hbl hbA hS (j := (i + 4)) (by omega) (by omega) d_L_law_1771 ?_
  refine g_eqi (y := w4) ew4.symm ?_
  refine lv_i2l (v := w4.toInt64) hx hb d_L_law_1772 rfl ?_
  refine lv_bipush (v := 32) hx hb d_L_law_1773 (by decide) ?_
  refine lv_lshl (v := w4.toInt64 <<< ((32 : Int32).toInt64 &&& 63)) hx hb d_L_law_1775 rfl ?_
  refine lv_aload_n hx hb d_L_law_1776 rfl (lv_at hl 2 rfl) ?_
  refine lv_iload hx hb d_L_law_1777 (lv_at hl 1 rfl) ?_
  refine lv_iconst (v := 5) hx hb d_L_law_1779 (by decide) ?_
  refine lv_iadd hx hb d_L_law_1780 ?_
  refine g_eqi (y := nI (i + 5)) (nI_add i 5) ?_
  refine s_ld C hX hbl hbA hS (j := (i + 5)) (by omega) (by omega) d_L_law_1781 ?_
  refine g_eqi (y := w5) ew5.symm ?_
  refine lv_i2l (v := w5.toInt64) hx hb d_L_law_1782 rfl ?_
  refine lv_ldc2 hx hb hown (C.w wd_742) d_L_law_1783 ?_
  refine lv_land hx hb d_L_law_1786 ?_
  refine lv_lor hx hb d_L_law_1787 ?_
  refine g_eql (y := v4) ev4.symm ?_
  refine j_calli (g_runV C hl.1 (ct_M_choose fm y ca b hok th bc cp hm w1 w2 w3 v4 r9 b1 (fun hI9 hN9 => lp_K hlp hI9 hN9) _) (cx_V C 4 wd_721 wd_722 wd_723 wd_3 wd_724 rfl rfl (by decide +kernel) ⟨Nat.le_of_ble_eq_true rfl, Nat.le_of_ble_eq_true rfl⟩) hP2.left oy rfl rfl rfl (Nat.le_of_ble_eq_true rfl) d_L_law_1788 ⟨by show cells + 3 + 0 ≤ 601024; omega, by show slots + 18 + 0 ≤ 7293033; omega⟩) hd.symm hP2 hS hA0 (fun r2 fm1 H locs hq hd hP hS => ?_)
  obtain ⟨th2, b2, bc2, cp2, hm2, hmp⟩ := hq
  obtain ⟨hth, hb2, hdone⟩ := lp_mp hlp hmp
  rw [hth, hb2] at hm2
  obtain ⟨ys1, oy1⟩ := mS_y hm2
  refine lv_istore (lv' := [(6, .int r2), (5, .int k9), (4, .int (nI i)), (0, .ref b0), (1, .ref x), (2, .ref y), (3, .ref o)]) hx hb d_L_law_1791 hl (by decide) rfl (fun ls hl => ?_)
  refine lv_aload_n hx hb d_L_law_1793 rfl (lv_at hl 5 rfl) ?_
  refine j_calli (g_runV C hl.1 (ct_M_thrown fm1 y ca b1 hok1 k9 bc2 cp2 hm2 _) (cx_V C 0 wd_580 wd_581 wd_582 wd_3 wd_583 rfl rfl (by decide +kernel) ⟨Nat.le_of_ble_eq_true rfl, Nat.le_of_ble_eq_true rfl⟩) hP.left oy1 rfl rfl rfl (Nat.le_of_ble_eq_true rfl) d_L_law_1794 ⟨by show cells + 3 + 0 + 0 ≤ 601024; omega, by show slots + 18 + 0 + 0 ≤ 7293033; omega⟩) hd hP hS hA0 (fun r3 fm2 H locs hq hd hP hS => ?_)
  obtain ⟨hr3, hu3⟩ := hq
  rw [hu3] at hd hP
  refine g_eqi (y := k9) hr3 ?_
  have oo1 : hj fx1 (hc1 o (aL G 1 g1)) o = some (aL G 1 g1) := (hj_r ho1).trans hc1_s
  have oo : hj fm1 (hj fx1 (hc1 o (aL G 1 g1))) o = some (aL G 1 g1) := (hj_r (dj_at hd oo1)).trans oo1
  refine lv_iload hx hb d_L_law_1797 (lv_at hl 1 rfl) ?_
  refine lv_icmp_eq (tgt := 1804) hx hb d_L_law_1799 (by decide) (fun c_1799 => ?_) (fun c_1799 => ?_)
  · refine lv_iload hx hb d_L_law_1804 (lv_at hl 1 rfl) ?_
    refine lv_if_ne (tgt := 1821) hx hb d_L_law_1806 (by decide) (fun c_1806 => ?_) (fun c_1806 => ?_)
    · refine lv_goto (tgt := 2120) hx hb d_L_law_1821 (by decide) ?_
      refine W.widen (k := cells + 15) (n := slots + 400) (by show cells + 3 + 0 + 0 ≤ cells + 15; omega) (by show slots + 18 + 0 + 0 ≤ slots + 400; omega) ?_
      exact kk _ _ _ ⟨fx1, fm1, g1, a1, b1, k9, bc2, cp2, hk1, hm2, ho1, hd.symm, by rw [hj_comm hd.symm]; exact hP⟩ hS (lv_sub hl [2, 3, 4, 5, 6] rfl)
    · obtain ⟨⟨hK9, hg9⟩, hr9⟩ := hdone c_1806
      refine lv_aload_n hx hb d_L_law_1809 rfl (lv_at hl 6 rfl) ?_
      refine lv_iconst (v := 0) hx hb d_L_law_1810 (by decide) ?_
      refine g_laldN C hP oo (j := 0) (by decide) (by decide) d_L_law_1811 ?_
      refine g_eql (y := r9.toInt64) (hg9) ?_
      refine lv_iload hx hb d_L_law_1812 (lv_at hl 0 rfl) ?_
      refine lv_i2l (v := r2.toInt64) hx hb d_L_law_1814 rfl ?_
      refine W.lcmp hx hb d_L_law_1815 ?_
      refine lv_if_eq (tgt := 1821) hx hb d_L_law_1816 (by decide) (fun c_1816 => ?_) (fun c_1816 => ?_)
      · have c_1816 := (lg_cmp_eq _ _).mp c_1816
        refine lv_goto (tgt := 2120) hx hb d_L_law_1821 (by decide) ?_
        refine W.widen (k := cells + 15) (n := slots + 400) (by show cells + 3 + 0 + 0 ≤ cells + 15; omega) (by show slots + 18 + 0 + 0 ≤ slots + 400; omega) ?_
        exact kk _ _ _ ⟨fx1, fm1, g1, a1, b1, k9, bc2, cp2, hk1, hm2, ho1, hd.symm, by rw [hj_comm hd.symm]; exact hP⟩ hS (lv_sub hl [2, 3, 4, 5, 6] rfl)
      · have c_1816 := fun z => c_1816 ((lg_cmp_eq _ _).mpr z)
        exact absurd (by rw [hr9]) c_1816
  · exact absurd rfl c_1799
set_option maxHeartbeats 4000000 in
set_option maxRecDepth 100000 in
theorem law_buy {G : hG} {sa : xS} {hw : Cond} {p : Program} {l : Launch} {e : Env} {s : State} {m : MethodId} {below : List Frame} {meth : Method} {c : Code} {Q : State → Prop} {b0 L : Nat} {xs : Nat → Int32} (hl0 : l.stackTraces = false) (C : hC G R_L (hw :: bw) code 8 ret p s m #[Value.ref b0] meth c) (hN : xN sa s) (hZ : xZ (lA s) s s.heap) (hNc : va_Nc eA eI s) (hX : va_X b0 L xs s s.heap) (hbl : b0 < s.heap.size) (hL : L ≤ 5120)
    {i cells slots x y o : Nat} {ca : Nat → Nat} {H : Heap} {locs : List Loc} {ls : Array Slot} (hi : i + 10 ≤ L) (hc9 : cells + 15 ≤ 601024) (hs9 : slots + 400 ≤ 7293033) (hI : LI G (lA s) x y o ca H) (hS : va_S (lA s) s.heap H locs) (hl : lv_has ls 8 [(4, .int (nI i)), (0, .ref b0), (1, .ref x), (2, .ref y), (3, .ref o)])
    (kk : ∀ (H1 : Heap) (locs1 : List Loc) (ls1 : Array Slot), LI G (lA s) x y o ca H1 → va_S (lA s) s.heap H1 locs1 → lv_has ls1 8 [(4, .int (nI i)), (0, .ref b0), (1, .ref x), (2, .ref y), (3, .ref o)] → W p l e room_1 s m #[Value.ref b0] below meth c H1 locs1 (cells + 15) (slots + 400) Q (F0 m 2120 ls1 [])) : W p l e room_1 s m #[Value.ref b0] below meth c H locs cells slots Q (F0 m 1824 ls []) := by
  obtain ⟨hx, hb, hml, hown, -, -, -, -⟩ := id C
  have hbA : ¬ lA s b0 := Nat.not_le.mpr hbl
  have hA0 : ∀ q, s.heap.size ≤ q → lA s q := fun _ h => h
  obtain ⟨fx, fm, g, a, b, th, bc, cp, hk, hm, ho, hd, hP⟩ := hI
  obtain ⟨ys, oy⟩ := mS_y hm
  have hok : bOK b := hk.2.2.2.2
  refine lv_aload_n hx hb d_L_law_1824 rfl (lv_at hl 2 rfl) ?_
  refine lv_aload_n hx hb d_L_law_1825 rfl (lv_at hl 1 rfl) ?_
  refine lv_iload hx hb d_L_law_1826 (lv_at hl 0 rfl) ?_
  refine lv_iconst (v := 1) hx hb d_L_law_1828 (by decide) ?_
  refine lv_iadd hx hb d_L_law_1829 ?_
  refine g_eqi (y := nI (i + 1)) (nI_add i 1) ?_
  refine s_ld C hX hbl hbA hS (j := (i + 1)) (by omega) (by omega) d_L_law_1830 ?_
  obtain ⟨w1, ew1⟩ : ∃ z99 : Int32, z99 = xs (i + 1) := ⟨_, rfl⟩
  refine g_eqi (y := w1) ew1.symm ?_
  refine lv_aload_n hx hb d_L_law_1831 rfl (lv_at hl 1 rfl) ?_
  refine lv_iload hx hb d_L_law_1832 (lv_at hl 0 rfl) ?_
  refine lv_iconst (v := 2) hx hb d_L_law_1834 (by decide) ?_
  refine lv_iadd hx hb d_L_law_1835 ?_
  refine g_eqi (y := nI (i + 2)) (nI_add i 2) ?_
  refine s_ld C hX hbl hbA hS (j := (i + 2)) (by omega) (by omega) d_L_law_1836 ?_
  obtain ⟨w2, ew2⟩ : ∃ z99 : Int32, z99 = xs (i + 2) := ⟨_, rfl⟩
  refine g_eqi (y := w2) ew2.symm ?_
  refine lv_aload_n hx hb d_L_law_1837 rfl (lv_at hl 1 rfl) ?_
  refine lv_iload hx hb d_L_law_1838 (lv_at hl 0 rfl) ?_
  refine lv_iconst (v := 3) hx hb d_L_law_1840 (by decide) ?_
  refine lv_iadd hx hb d_L_law_1841 ?_
  refine g_eqi (y := nI (i + 3)) (nI_add i 3) ?_
  refine s_ld C hX hbl hbA hS (j := (i + 3)) (by omega) (by omega) d_L_law_1842 ?_
  obtain ⟨w3, ew3⟩ : ∃ z99 : Int32, z99 = xs (i + 3) := ⟨_, rfl⟩
  refine g_eqi (y := w3) ew3.symm ?_
  refine lv_aload_n hx hb d_L_law_1843 rfl (lv_at hl 1 rfl) ?_
  refine lv_iload hx hb d_L_law_1844 (lv_at hl 0 rfl) ?_
  refine lv_iconst (v := 4) hx hb d_L_law_1846 (by decide) ?_
  refine lv_iadd hx hb d_L_law_1847 ?_
  refine g_eqi (y := nI (i + 4)) (nI_add i 4) ?_
  refine s_ld C hX hbl hbA hS (j := (i + 4)) (by omega) (by omega) d_L_law_1848 ?_
  obtain ⟨w4, ew4⟩ : ∃ z99 : Int32, z99 = xs (i + 4) := ⟨_, rfl⟩
  refine g_eqi (y := w4) ew4.symm ?_
  refine lv_i2l (v := w4.toInt64) hx hb d_L_law_1849 rfl ?_
  refine lv_bipush (v := 32) hx hb d_L_law_1850 (by decide) ?_
  refine lv_lshl (v := w4.toInt64 <<< ((32 : Int32).toInt64 &&& 63)) hx hb d_L_law_1852 rfl ?_
  refine lv_aload_n hx hb d_L_law_1853 rfl (lv_at hl 1 rfl) ?_
  refine lv_iload hx hb d_L_law_1854 (lv_at hl 0 rfl) ?_
  refine lv_iconst (v := 5) hx hb d_L_law_1856 (by decide) ?_
  refine lv_iadd hx hb d_L_law_1857 ?_
  refine g_eqi (y := nI (i + 5)) (nI_add i 5) ?_
  refine s_ld C hX hbl hbA hS (j := (i + 5)) (by omega) (by omega) d_L_law_1858 ?_
  obtain ⟨w5, ew5⟩ : ∃ z99 : Int32, z99 = xs (i + 5) := ⟨_, rfl⟩
  refine g_eqi (y := w5) ew5.symm ?_
  refine lv_i2l (v := w5.toInt64) hx hb d_L_law_1859 rfl ?_
  refine lv_ldc2 hx hb hown (C.w wd_742) d_L_law_1860 ?_
  refine lv_land hx hb d_L_law_1863 ?_
  refine lv_lor hx hb d_L_law_1864 ?_
  obtain ⟨v4, ev4⟩ : ∃ z99 : Int64, z99 = (w4.toInt64 <<< ((32 : Int32).toInt64 &&& 63)) ||| (w5.toInt64 &&& 4294967295) := ⟨_, rfl⟩
  refine g_eql (y := v4) ev4.symm ?_
  refine lv_aload_n hx hb d_L_law_1865 rfl (lv_at hl 4 rfl) ?_
  refine j_calli (l_runS C hN hZ hNc hl.1 (ct_L_buy (sa := sa) hl0 fx x a b hk o g ho w1 w2 w3 v4 _) (cx_SW C 6 wd_484 wd_485 wd_0 wd_486 rfl rfl (by decide +kernel) ⟨Nat.le_of_ble_eq_true rfl, Nat.le_of_ble_eq_true rfl⟩) hP.left hS hA0 rfl rfl (Nat.le_of_ble_eq_true rfl) d_L_law_1866 ⟨by show cells + 3 ≤ 601024; omega, by show slots + 18 ≤ 7293033; omega⟩) hd hP hS hA0 (fun k9 f1 H locs hq hd hP hS => ?_)
  obtain ⟨fx1, g1, a1, b1, r9, hu9, ho1, hk1, hlp⟩ := hq
  rw [hu9] at hd hP
  have hok1 : bOK b1 := hk1.2.2.2.2
  have hP2 : hH G (lA s) (hj fm (hj fx1 (hc1 o (aL G 1 g1)))) H := by rw [← hj_comm hd]; exact hP
  refine lv_istore (lv' := [(5, .int k9), (4, .int (nI i)), (0, .ref b0), (1, .ref x), (2, .ref y), (3, .ref o)]) hx hb d_L_law_1869 hl (by decide) rfl (fun ls hl => ?_)
  refine lv_aload_n hx hb d_L_law_1871 rfl (lv_at hl 4 rfl) ?_
  refine lv_aload_n hx hb d_L_law_1872 rfl (lv_at hl 2 rfl) ?_
  refine lv_iload hx hb d_L_law_1873 (lv_at hl 1 rfl) ?_
  refine lv_iconst (v := 1) hx hb d_L_law_1875 (by decide) ?_
  refine lv_iadd hx hb d_L_law_1876 ?_
  refine g_eqi (y := nI (i + 1)) (nI_add i 1) ?_
  refine s_ld C hX hbl hbA hS (j := (i + 1)) (by omega) (by omega) d_L_law_1877 ?_
  refine g_eqi (y := w1) ew1.symm ?_
  refine lv_aload_n hx hb d_L_law_1878 rfl (lv_at hl 2 rfl) ?_
  refine lv_iload hx hb d_L_law_1879 (lv_at hl 1 rfl) ?_
  refine lv_iconst (v := 2) hx hb d_L_law_1881 (by decide) ?_
  refine lv_iadd hx hb d_L_law_1882 ?_
  refine g_eqi (y := nI (i + 2)) (nI_add i 2) ?_
  refine s_ld C hX hbl hbA hS (j := (i + 2)) (by omega) (by omega) d_L_law_1883 ?_
  refine g_eqi (y := w2) ew2.symm ?_
  refine lv_aload_n hx hb d_L_law_1884 rfl (lv_at hl 2 rfl) ?_
  refine lv_iload hx hb d_L_law_1885 (lv_at hl 1 rfl) ?_
  refine lv_iconst (v := 3) hx hb d_L_law_1887 (by decide) ?_
  refine lv_iadd hx hb d_L_law_1888 ?_
  refine g_eqi (y := nI (i + 3)) (nI_add i 3) ?_
  refine s_ld C hX hbl hbA hS (j := (i + 3)) (by omega) (by omega) d_L_law_1889 ?_
  refine g_eqi (y := w3) ew3.symm ?_
  refine lv_aload_n hx hb d_L_law_1890 rfl (lv_at hl 2 rfl) ?_
  refine lv_iload hx hb d_L_law_1891 (lv_at hl 1 rfl) ?_
  refine lv_iconst (v := 4) hx hb d_L_law_1893 (by decide) ?_
  refine lv_iadd hx hb d_L_law_1894 ?_
  refine g_eqi (y := nI (i + 4)) (nI_add i 4) ?_
  refine s_ld C hX hbl hbA hS (j := (i + 4)) (by omega) (by omega) d_L_law_1895 ?_
  refine g_eqi (y := w4) ew4.symm ?_
  refine lv_i2l (v := w4.toInt64) hx hb d_L_law_1896 rfl ?_
  refine lv_bipush (v := 32) hx hb d_L_law_1897 (by decide) ?_
  refine lv_lshl (v := w4.toInt64 <<< ((32 : Int32).toInt64 &&& 63)) hx hb d_L_law_1899 rfl ?_
  refine lv_aload_n hx hb d_L_law_1900 rfl (lv_at hl 2 rfl) ?_
  refine lv_iload hx hb d_L_law_1901 (lv_at hl 1 rfl) ?_
  refine lv_iconst (v := 5) hx hb d_L_law_1903 (by decide) ?_
  refine lv_iadd hx hb d_L_law_1904 ?_
  refine g_eqi (y := nI (i + 5)) (nI_add i 5) ?_
  refine s_ld C hX hbl hbA hS (j := (i + 5)) (by omega) (by omega) d_L_law_1905 ?_
  refine g_eqi (y := w5) ew5.symm ?_
  refine lv_i2l (v := w5.toInt64) hx hb d_L_law_1906 rfl ?_
  refine lv_ldc2 hx hb hown (C.w wd_742) d_L_law_1907 ?_
  refine lv_land hx hb d_L_law_1910 ?_
  refine lv_lor hx hb d_L_law_1911 ?_
  refine g_eql (y := v4) ev4.symm ?_
  refine j_calli (g_runV C hl.1 (ct_M_buy fm y ca b hok th bc cp hm w1 w2 w3 v4 r9 b1 (fun hI9 hN9 => lp_K hlp hI9 hN9) _) (cx_V C 4 wd_733 wd_734 wd_735 wd_3 wd_736 rfl rfl (by decide +kernel) ⟨Nat.le_of_ble_eq_true rfl, Nat.le_of_ble_eq_true rfl⟩) hP2.left oy rfl rfl rfl (Nat.le_of_ble_eq_true rfl) d_L_law_1912 ⟨by show cells + 3 + 0 ≤ 601024; omega, by show slots + 18 + 0 ≤ 7293033; omega⟩) hd.symm hP2 hS hA0 (fun r2 fm1 H locs hq hd hP hS => ?_)
  obtain ⟨th2, b2, bc2, cp2, hm2, hmp⟩ := hq
  obtain ⟨hth, hb2, hdone⟩ := lp_mp hlp hmp
  rw [hth, hb2] at hm2
  obtain ⟨ys1, oy1⟩ := mS_y hm2
  refine lv_istore (lv' := [(6, .int r2), (5, .int k9), (4, .int (nI i)), (0, .ref b0), (1, .ref x), (2, .ref y), (3, .ref o)]) hx hb d_L_law_1915 hl (by decide) rfl (fun ls hl => ?_)
  refine lv_aload_n hx hb d_L_law_1917 rfl (lv_at hl 5 rfl) ?_
  refine j_calli (g_runV C hl.1 (ct_M_thrown fm1 y ca b1 hok1 k9 bc2 cp2 hm2 _) (cx_V C 0 wd_580 wd_581 wd_582 wd_3 wd_583 rfl rfl (by decide +kernel) ⟨Nat.le_of_ble_eq_true rfl, Nat.le_of_ble_eq_true rfl⟩) hP.left oy1 rfl rfl rfl (Nat.le_of_ble_eq_true rfl) d_L_law_1918 ⟨by show cells + 3 + 0 + 0 ≤ 601024; omega, by show slots + 18 + 0 + 0 ≤ 7293033; omega⟩) hd hP hS hA0 (fun r3 fm2 H locs hq hd hP hS => ?_)
  obtain ⟨hr3, hu3⟩ := hq
  rw [hu3] at hd hP
  refine g_eqi (y := k9) hr3 ?_
  have oo1 : hj fx1 (hc1 o (aL G 1 g1)) o = some (aL G 1 g1) := (hj_r ho1).trans hc1_s
  have oo : hj fm1 (hj fx1 (hc1 o (aL G 1 g1))) o = some (aL G 1 g1) := (hj_r (dj_at hd oo1)).trans oo1
  refine lv_iload hx hb d_L_law_1921 (lv_at hl 1 rfl) ?_
  refine lv_icmp_eq (tgt := 1928) hx hb d_L_law_1923 (by decide) (fun c_1923 => ?_) (fun c_1923 => ?_)
  · refine lv_iload hx hb d_L_law_1928 (lv_at hl 1 rfl) ?_
    refine lv_if_ne (tgt := 1945) hx hb d_L_law_1930 (by decide) (fun c_1930 => ?_) (fun c_1930 => ?_)
    · refine lv_goto (tgt := 2120) hx hb d_L_law_1945 (by decide) ?_
      refine W.widen (k := cells + 15) (n := slots + 400) (by show cells + 3 + 0 + 0 ≤ cells + 15; omega) (by show slots + 18 + 0 + 0 ≤ slots + 400; omega) ?_
      exact kk _ _ _ ⟨fx1, fm1, g1, a1, b1, k9, bc2, cp2, hk1, hm2, ho1, hd.symm, by rw [hj_comm hd.symm]; exact hP⟩ hS (lv_sub hl [2, 3, 4, 5, 6] rfl)
    · obtain ⟨⟨hK9, hg9⟩, hr9⟩ := hdone c_1930
      refine lv_aload_n hx hb d_L_law_1933 rfl (lv_at hl 6 rfl) ?_
      refine lv_iconst (v := 0) hx hb d_L_law_1934 (by decide) ?_
      refine g_laldN C hP oo (j := 0) (by decide) (by decide) d_L_law_1935 ?_
      refine g_eql (y := r9.toInt64) (hg9) ?_
      refine lv_iload hx hb d_L_law_1936 (lv_at hl 0 rfl) ?_
      refine lv_i2l (v := r2.toInt64) hx hb d_L_law_1938 rfl ?_
      refine W.lcmp hx hb d_L_law_1939 ?_
      refine lv_if_eq (tgt := 1945) hx hb d_L_law_1940 (by decide) (fun c_1940 => ?_) (fun c_1940 => ?_)
      · have c_1940 := (lg_cmp_eq _ _).mp c_1940
        refine lv_goto (tgt := 2120) hx hb d_L_law_1945 (by decide) ?_
        refine W.widen (k := cells + 15) (n := slots + 400) (by show cells + 3 + 0 + 0 ≤ cells + 15; omega) (by show slots + 18 + 0 + 0 ≤ slots + 400; omega) ?_
        exact kk _ _ _ ⟨fx1, fm1, g1, a1, b1, k9, bc2, cp2, hk1, hm2, ho1, hd.symm, by rw [hj_comm hd.symm]; exact hP⟩ hS (lv_sub hl [2, 3, 4, 5, 6] rfl)
      · have c_1940 := fun z => c_1940 ((lg_cmp_eq _ _).mpr z)
        exact absurd (by rw [hr9]) c_1940
  · exact absurd rfl c_1923
set_option maxHeartbeats 4000000 in
set_option maxRecDepth 100000 in
theorem law_derate {G : hG} {sa : xS} {hw : Cond} {p : Program} {l : Launch} {e : Env} {s : State} {m : MethodId} {below : List Frame} {meth : Method} {c : Code} {Q : State → Prop} {b0 L : Nat} {xs : Nat → Int32} (hl0 : l.stackTraces = false) (C : hC G R_L (hw :: bw) code 8 ret p s m #[Value.ref b0] meth c) (hN : xN sa s) (hZ : xZ (lA s) s s.heap) (hNc : va_Nc eA eI s) (hX : va_X b0 L xs s s.heap) (hbl : b0 < s.heap.size) (hL : L ≤ 5120)
    {i cells slots x y o : Nat} {ca : Nat → Nat} {H : Heap} {locs : List Loc} {ls : Array Slot} (hi : i + 10 ≤ L) (hc9 : cells + 15 ≤ 601024) (hs9 : slots + 400 ≤ 7293033) (hI : LI G (lA s) x y o ca H) (hS : va_S (lA s) s.heap H locs) (hl : lv_has ls 8 [(4, .int (nI i)), (0, .ref b0), (1, .ref x), (2, .ref y), (3, .ref o)])
    (kk : ∀ (H1 : Heap) (locs1 : List Loc) (ls1 : Array Slot), LI G (lA s) x y o ca H1 → va_S (lA s) s.heap H1 locs1 → lv_has ls1 8 [(4, .int (nI i)), (0, .ref b0), (1, .ref x), (2, .ref y), (3, .ref o)] → W p l e room_1 s m #[Value.ref b0] below meth c H1 locs1 (cells + 15) (slots + 400) Q (F0 m 2120 ls1 [])) : W p l e room_1 s m #[Value.ref b0] below meth c H locs cells slots Q (F0 m 1948 ls []) := by
  obtain ⟨hx, hb, hml, hown, -, -, -, -⟩ := id C
  have hbA : ¬ lA s b0 := Nat.not_le.mpr hbl
  have hA0 : ∀ q, s.heap.size ≤ q → lA s q := fun _ h => h
  obtain ⟨fx, fm, g, a, b, th, bc, cp, hk, hm, ho, hd, hP⟩ := hI
  obtain ⟨ys, oy⟩ := mS_y hm
  have hok : bOK b := hk.2.2.2.2
  refine lv_aload_n hx hb d_L_law_1948 rfl (lv_at hl 2 rfl) ?_
  refine lv_aload_n hx hb d_L_law_1949 rfl (lv_at hl 1 rfl) ?_
  refine lv_iload hx hb d_L_law_1950 (lv_at hl 0 rfl) ?_
  refine lv_iconst (v := 1) hx hb d_L_law_1952 (by decide) ?_
  refine lv_iadd hx hb d_L_law_1953 ?_
  refine g_eqi (y := nI (i + 1)) (nI_add i 1) ?_
  refine s_ld C hX hbl hbA hS (j := (i + 1)) (by omega) (by omega) d_L_law_1954 ?_
  obtain ⟨w1, ew1⟩ : ∃ z99 : Int32, z99 = xs (i + 1) := ⟨_, rfl⟩
  refine g_eqi (y := w1) ew1.symm ?_
  refine lv_aload_n hx hb d_L_law_1955 rfl (lv_at hl 1 rfl) ?_
  refine lv_iload hx hb d_L_law_1956 (lv_at hl 0 rfl) ?_
  refine lv_iconst (v := 2) hx hb d_L_law_1958 (by decide) ?_
  refine lv_iadd hx hb d_L_law_1959 ?_
  refine g_eqi (y := nI (i + 2)) (nI_add i 2) ?_
  refine s_ld C hX hbl hbA hS (j := (i + 2)) (by omega) (by omega) d_L_law_1960 ?_
  obtain ⟨w2, ew2⟩ : ∃ z99 : Int32, z99 = xs (i + 2) := ⟨_, rfl⟩
  refine g_eqi (y := w2) ew2.symm ?_
  refine lv_aload_n hx hb d_L_law_1961 rfl (lv_at hl 1 rfl) ?_
  refine lv_iload hx hb d_L_law_1962 (lv_at hl 0 rfl) ?_
  refine lv_iconst (v := 3) hx hb d_L_law_1964 (by decide) ?_
  refine lv_iadd hx hb d_L_law_1965 ?_
  refine g_eqi (y := nI (i + 3)) (nI_add i 3) ?_
  refine s_ld C hX hbl hbA hS (j := (i + 3)) (by omega) (by omega) d_L_law_1966 ?_
  obtain ⟨w3, ew3⟩ : ∃ z99 : Int32, z99 = xs (i + 3) := ⟨_, rfl⟩
  refine g_eqi (y := w3) ew3.symm ?_
  refine lv_i2l (v := w3.toInt64) hx hb d_L_law_1967 rfl ?_
  refine lv_bipush (v := 32) hx hb d_L_law_1968 (by decide) ?_
  refine lv_lshl (v := w3.toInt64 <<< ((32 : Int32).toInt64 &&& 63)) hx hb d_L_law_1970 rfl ?_
  refine lv_aload_n hx hb d_L_law_1971 rfl (lv_at hl 1 rfl) ?_
  refine lv_iload hx hb d_L_law_1972 (lv_at hl 0 rfl) ?_
  refine lv_iconst (v := 4) hx hb d_L_law_1974 (by decide) ?_
  refine lv_iadd hx hb d_L_law_1975 ?_
  refine g_eqi (y := nI (i + 4)) (nI_add i 4) ?_
  refine s_ld C hX hbl hbA hS (j := (i + 4)) (by omega) (by omega) d_L_law_1976 ?_
  obtain ⟨w4, ew4⟩ : ∃ z99 : Int32, z99 = xs (i + 4) := ⟨_, rfl⟩
  refine g_eqi (y := w4) ew4.symm ?_
  refine lv_i2l (v := w4.toInt64) hx hb d_L_law_1977 rfl ?_
  refine lv_ldc2 hx hb hown (C.w wd_742) d_L_law_1978 ?_
  refine lv_land hx hb d_L_law_1981 ?_
  refine lv_lor hx hb d_L_law_1982 ?_
  obtain ⟨v3, ev3⟩ : ∃ z99 : Int64, z99 = (w3.toInt64 <<< ((32 : Int32).toInt64 &&& 63)) ||| (w4.toInt64 &&& 4294967295) := ⟨_, rfl⟩
  refine g_eql (y := v3) ev3.symm ?_
  refine lv_aload_n hx hb d_L_law_1983 rfl (lv_at hl 1 rfl) ?_
  refine lv_iload hx hb d_L_law_1984 (lv_at hl 0 rfl) ?_
  refine lv_iconst (v := 5) hx hb d_L_law_1986 (by decide) ?_
  refine lv_iadd hx hb d_L_law_1987 ?_
  refine g_eqi (y := nI (i + 5)) (nI_add i 5) ?_
  refine s_ld C hX hbl hbA hS (j := (i + 5)) (by omega) (by omega) d_L_law_1988 ?_
  obtain ⟨w5, ew5⟩ : ∃ z99 : Int32, z99 = xs (i + 5) := ⟨_, rfl⟩
  refine g_eqi (y := w5) ew5.symm ?_
  refine lv_i2l (v := w5.toInt64) hx hb d_L_law_1989 rfl ?_
  refine lv_bipush (v := 32) hx hb d_L_law_1990 (by decide) ?_
  refine lv_lshl (v := w5.toInt64 <<< ((32 : Int32).toInt64 &&& 63)) hx hb d_L_law_1992 rfl ?_
  refine lv_aload_n hx hb d_L_law_1993 rfl (lv_at hl 1 rfl) ?_
  refine lv_iload hx hb d_L_law_1994 (lv_at hl 0 rfl) ?_
  refine lv_bipush (v := 6) hx hb d_L_law_1996 (by decide) ?_
  refine lv_iadd hx hb d_L_law_1998 ?_
  refine g_eqi (y := nI (i + 6)) (nI_add i 6) ?_
  refine s_ld C hX hbl hbA hS (j := (i + 6)) (by omega) (by omega) d_L_law_1999 ?_
  obtain ⟨w6, ew6⟩ : ∃ z99 : Int32, z99 = xs (i + 6) := ⟨_, rfl⟩
  refine g_eqi (y := w6) ew6.symm ?_
  refine lv_i2l (v := w6.toInt64) hx hb d_L_law_2000 rfl ?_
  refine lv_ldc2 hx hb hown (C.w wd_742) d_L_law_2001 ?_
  refine lv_land hx hb d_L_law_2004 ?_
  refine lv_lor hx hb d_L_law_2005 ?_
  obtain ⟨v5, ev5⟩ : ∃ z99 : Int64, z99 = (w5.toInt64 <<< ((32 : Int32).toInt64 &&& 63)) ||| (w6.toInt64 &&& 4294967295) := ⟨_, rfl⟩
  refine g_eql (y := v5) ev5.symm ?_
  refine lv_aload_n hx hb d_L_law_2006 rfl (lv_at hl 1 rfl) ?_
  refine lv_iload hx hb d_L_law_2007 (lv_at hl 0 rfl) ?_
  refine lv_bipush (v := 7) hx hb d_L_law_2009 (by decide) ?_
  refine lv_iadd hx hb d_L_law_2011 ?_
  refine g_eqi (y := nI (i + 7)) (nI_add i 7) ?_
  refine s_ld C hX hbl hbA hS (j := (i + 7)) (by omega) (by omega) d_L_law_2012 ?_
  obtain ⟨w7, ew7⟩ : ∃ z99 : Int32, z99 = xs (i + 7) := ⟨_, rfl⟩
  refine g_eqi (y := w7) ew7.symm ?_
  refine lv_aload_n hx hb d_L_law_2013 rfl (lv_at hl 4 rfl) ?_
  refine j_calli (l_runS C hN hZ hNc hl.1 (ct_L_derate (sa := sa) hl0 fx x a b hk o g ho w1 w2 v3 v5 w7 _) (cx_SW C 7 wd_491 wd_492 wd_0 wd_493 rfl rfl (by decide +kernel) ⟨Nat.le_of_ble_eq_true rfl, Nat.le_of_ble_eq_true rfl⟩) hP.left hS hA0 rfl rfl (Nat.le_of_ble_eq_true rfl) d_L_law_2014 ⟨by show cells + 5 ≤ 601024; omega, by show slots + 30 ≤ 7293033; omega⟩) hd hP hS hA0 (fun k9 f1 H locs hq hd hP hS => ?_)
  obtain ⟨fx1, g1, a1, b1, r9, hu9, ho1, hk1, hlp⟩ := hq
  rw [hu9] at hd hP
  have hok1 : bOK b1 := hk1.2.2.2.2
  have hP2 : hH G (lA s) (hj fm (hj fx1 (hc1 o (aL G 1 g1)))) H := by rw [← hj_comm hd]; exact hP
  refine lv_istore (lv' := [(5, .int k9), (4, .int (nI i)), (0, .ref b0), (1, .ref x), (2, .ref y), (3, .ref o)]) hx hb d_L_law_2017 hl (by decide) rfl (fun ls hl => ?_)
  refine lv_aload_n hx hb d_L_law_2019 rfl (lv_at hl 4 rfl) ?_
  refine lv_aload_n hx hb d_L_law_2020 rfl (lv_at hl 2 rfl) ?_
  refine lv_iload hx hb d_L_law_2021 (lv_at hl 1 rfl) ?_
  refine lv_iconst (v := 1) hx hb d_L_law_2023 (by decide) ?_
  refine lv_iadd hx hb d_L_law_2024 ?_
  refine g_eqi (y := nI (i + 1)) (nI_add i 1) ?_
  refine s_ld C hX hbl hbA hS (j := (i + 1)) (by omega) (by omega) d_L_law_2025 ?_
  refine g_eqi (y := w1) ew1.symm ?_
  refine lv_aload_n hx hb d_L_law_2026 rfl (lv_at hl 2 rfl) ?_
  refine lv_iload hx hb d_L_law_2027 (lv_at hl 1 rfl) ?_
  refine lv_iconst (v := 2) hx hb d_L_law_2029 (by decide) ?_
  refine lv_iadd hx hb d_L_law_2030 ?_
  refine g_eqi (y := nI (i + 2)) (nI_add i 2) ?_
  refine s_ld C hX hbl hbA hS (j := (i + 2)) (by omega) (by omega) d_L_law_2031 ?_
  refine g_eqi (y := w2) ew2.symm ?_
  refine lv_aload_n hx hb d_L_law_2032 rfl (lv_at hl 2 rfl) ?_
  refine lv_iload hx hb d_L_law_2033 (lv_at hl 1 rfl) ?_
  refine lv_iconst (v := 3) hx hb d_L_law_2035 (by decide) ?_
  refine lv_iadd hx hb d_L_law_2036 ?_
  refine g_eqi (y := nI (i + 3)) (nI_add i 3) ?_
  refine s_ld C hX hbl hbA hS (j := (i + 3)) (by omega) (by omega) d_L_law_2037 ?_
  refine g_eqi (y := w3) ew3.symm ?_
  refine lv_i2l (v := w3.toInt64) hx hb d_L_law_2038 rfl ?_
  refine lv_bipush (v := 32) hx hb d_L_law_2039 (by decide) ?_
  refine lv_lshl (v := w3.toInt64 <<< ((32 : Int32).toInt64 &&& 63)) hx hb d_L_law_2041 rfl ?_
  refine lv_aload_n hx hb d_L_law_2042 rfl (lv_at hl 2 rfl) ?_
  refine lv_iload hx hb d_L_law_2043 (lv_at hl 1 rfl) ?_
  refine lv_iconst (v := 4) hx hb d_L_law_2045 (by decide) ?_
  refine lv_iadd hx hb d_L_law_2046 ?_
  refine g_eqi (y := nI (i + 4)) (nI_add i 4) ?_
  refine s_ld C hX hbl hbA hS (j := (i + 4)) (by omega) (by omega) d_L_law_2047 ?_
  refine g_eqi (y := w4) ew4.symm ?_
  refine lv_i2l (v := w4.toInt64) hx hb d_L_law_2048 rfl ?_
  refine lv_ldc2 hx hb hown (C.w wd_742) d_L_law_2049 ?_
  refine lv_land hx hb d_L_law_2052 ?_
  refine lv_lor hx hb d_L_law_2053 ?_
  refine g_eql (y := v3) ev3.symm ?_
  refine lv_aload_n hx hb d_L_law_2054 rfl (lv_at hl 2 rfl) ?_
  refine lv_iload hx hb d_L_law_2055 (lv_at hl 1 rfl) ?_
  refine lv_iconst (v := 5) hx hb d_L_law_2057 (by decide) ?_
  refine lv_iadd hx hb d_L_law_2058 ?_
  refine g_eqi (y := nI (i + 5)) (nI_add i 5) ?_
  refine s_ld C hX hbl hbA hS (j := (i + 5)) (by omega) (by omega) d_L_law_2059 ?_
  refine g_eqi (y := w5) ew5.symm ?_
  refine lv_i2l (v := w5.toInt64) hx hb d_L_law_2060 rfl ?_
  refine lv_bipush (v := 32) hx hb d_L_law_2061 (by decide) ?_
  refine lv_lshl (v := w5.toInt64 <<< ((32 : Int32).toInt64 &&& 63)) hx hb d_L_law_2063 rfl ?_
  refine lv_aload_n hx hb d_L_law_2064 rfl (lv_at hl 2 rfl) ?_
  refine lv_iload hx hb d_L_law_2065 (lv_at hl 1 rfl) ?_
  refine lv_bipush (v := 6) hx hb d_L_law_2067 (by decide) ?_
  refine lv_iadd hx hb d_L_law_2069 ?_
  refine g_eqi (y := nI (i + 6)) (nI_add i 6) ?_
  refine s_ld C hX hbl hbA hS (j := (i + 6)) (by omega) (by omega) d_L_law_2070 ?_
  refine g_eqi (y := w6) ew6.symm ?_
  refine lv_i2l (v := w6.toInt64) hx hb d_L_law_2071 rfl ?_
  refine lv_ldc2 hx hb hown (C.w wd_742) d_L_law_2072 ?_
  refine lv_land hx hb d_L_law_2075 ?_
  refine lv_lor hx hb d_L_law_2076 ?_
  refine g_eql (y := v5) ev5.symm ?_
  refine lv_aload_n hx hb d_L_law_2077 rfl (lv_at hl 2 rfl) ?_
  refine lv_iload hx hb d_L_law_2078 (lv_at hl 1 rfl) ?_
  refine lv_bipush (v := 7) hx hb d_L_law_2080 (by decide) ?_
  refine lv_iadd hx hb d_L_law_2082 ?_
  refine g_eqi (y := nI (i + 7)) (nI_add i 7) ?_
  refine s_ld C hX hbl hbA hS (j := (i + 7)) (by omega) (by omega) d_L_law_2083 ?_
  refine g_eqi (y := w7) ew7.symm ?_
  refine j_calli (g_runV C hl.1 (ct_M_derate fm y ca b hok th bc cp hm w1 w2 v3 v5 w7 r9 b1 (fun hI9 hN9 => lp_K hlp hI9 hN9) _) (cx_V C 5 wd_737 wd_738 wd_739 wd_3 wd_740 rfl rfl (by decide +kernel) ⟨Nat.le_of_ble_eq_true rfl, Nat.le_of_ble_eq_true rfl⟩) hP2.left oy rfl rfl rfl (Nat.le_of_ble_eq_true rfl) d_L_law_2084 ⟨by show cells + 5 + 0 ≤ 601024; omega, by show slots + 30 + 0 ≤ 7293033; omega⟩) hd.symm hP2 hS hA0 (fun r2 fm1 H locs hq hd hP hS => ?_)
  obtain ⟨th2, b2, bc2, cp2, hm2, hmp⟩ := hq
  obtain ⟨hth, hb2, hdone⟩ := lp_mp hlp hmp
  rw [hth, hb2] at hm2
  obtain ⟨ys1, oy1⟩ := mS_y hm2
  refine lv_istore (lv' := [(6, .int r2), (5, .int k9), (4, .int (nI i)), (0, .ref b0), (1, .ref x), (2, .ref y), (3, .ref o)]) hx hb d_L_law_2087 hl (by decide) rfl (fun ls hl => ?_)
  refine lv_aload_n hx hb d_L_law_2089 rfl (lv_at hl 5 rfl) ?_
  refine j_calli (g_runV C hl.1 (ct_M_thrown fm1 y ca b1 hok1 k9 bc2 cp2 hm2 _) (cx_V C 0 wd_580 wd_581 wd_582 wd_3 wd_583 rfl rfl (by decide +kernel) ⟨Nat.le_of_ble_eq_true rfl, Nat.le_of_ble_eq_true rfl⟩) hP.left oy1 rfl rfl rfl (Nat.le_of_ble_eq_true rfl) d_L_law_2090 ⟨by show cells + 5 + 0 + 0 ≤ 601024; omega, by show slots + 30 + 0 + 0 ≤ 7293033; omega⟩) hd hP hS hA0 (fun r3 fm2 H locs hq hd hP hS => ?_)
  obtain ⟨hr3, hu3⟩ := hq
  rw [hu3] at hd hP
  refine g_eqi (y := k9) hr3 ?_
  have oo1 : hj fx1 (hc1 o (aL G 1 g1)) o = some (aL G 1 g1) := (hj_r ho1).trans hc1_s
  have oo : hj fm1 (hj fx1 (hc1 o (aL G 1 g1))) o = some (aL G 1 g1) := (hj_r (dj_at hd oo1)).trans oo1
  refine lv_iload hx hb d_L_law_2093 (lv_at hl 1 rfl) ?_
  refine lv_icmp_eq (tgt := 2100) hx hb d_L_law_2095 (by decide) (fun c_2095 => ?_) (fun c_2095 => ?_)
  · refine lv_iload hx hb d_L_law_2100 (lv_at hl 1 rfl) ?_
    refine lv_if_ne (tgt := 2117) hx hb d_L_law_2102 (by decide) (fun c_2102 => ?_) (fun c_2102 => ?_)
    · refine lv_goto (tgt := 2120) hx hb d_L_law_2117 (by decide) ?_
      refine W.widen (k := cells + 15) (n := slots + 400) (by show cells + 5 + 0 + 0 ≤ cells + 15; omega) (by show slots + 30 + 0 + 0 ≤ slots + 400; omega) ?_
      exact kk _ _ _ ⟨fx1, fm1, g1, a1, b1, k9, bc2, cp2, hk1, hm2, ho1, hd.symm, by rw [hj_comm hd.symm]; exact hP⟩ hS (lv_sub hl [2, 3, 4, 5, 6] rfl)
    · obtain ⟨⟨hK9, hg9⟩, hr9⟩ := hdone c_2102
      refine lv_aload_n hx hb d_L_law_2105 rfl (lv_at hl 6 rfl) ?_
      refine lv_iconst (v := 0) hx hb d_L_law_2106 (by decide) ?_
      refine g_laldN C hP oo (j := 0) (by decide) (by decide) d_L_law_2107 ?_
      refine g_eql (y := r9.toInt64) (hg9) ?_
      refine lv_iload hx hb d_L_law_2108 (lv_at hl 0 rfl) ?_
      refine lv_i2l (v := r2.toInt64) hx hb d_L_law_2110 rfl ?_
      refine W.lcmp hx hb d_L_law_2111 ?_
      refine lv_if_eq (tgt := 2117) hx hb d_L_law_2112 (by decide) (fun c_2112 => ?_) (fun c_2112 => ?_)
      · have c_2112 := (lg_cmp_eq _ _).mp c_2112
        refine lv_goto (tgt := 2120) hx hb d_L_law_2117 (by decide) ?_
        refine W.widen (k := cells + 15) (n := slots + 400) (by show cells + 5 + 0 + 0 ≤ cells + 15; omega) (by show slots + 30 + 0 + 0 ≤ slots + 400; omega) ?_
        exact kk _ _ _ ⟨fx1, fm1, g1, a1, b1, k9, bc2, cp2, hk1, hm2, ho1, hd.symm, by rw [hj_comm hd.symm]; exact hP⟩ hS (lv_sub hl [2, 3, 4, 5, 6] rfl)
      · have c_2112 := fun z => c_2112 ((lg_cmp_eq _ _).mpr z)
        exact absurd (by rw [hr9]) c_2112
  · exact absurd rfl c_2095
