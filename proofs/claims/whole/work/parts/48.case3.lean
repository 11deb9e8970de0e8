/-! The law: its calls (3). -/
set_option maxHeartbeats 4000000 in
set_option maxRecDepth 100000 in
theorem law_rate {G : hG} {sa : xS} {hw : Cond} {p : Program} {l : Launch} {e : Env} {s : State} {m : MethodId} {below : List Frame} {meth : Method} {c : Code} {Q : State → Prop} {b0 L : Nat} {xs : Nat → Int32} (hl0 : l.stackTraces = false) (C : hC G R_L (hw :: bw) code 8 ret p s m #[Value.ref b0] meth c) (hN : xN sa s) (hZ : xZ (lA s) s s.heap) (hNc : va_Nc eA eI s) (hX : va_X b0 L xs s s.heap) (hbl : b0 < s.heap.size) (hL : L ≤ 5120)
    {i cells slots x y o : Nat} {ca : Nat → Nat} {H : Heap} {locs : List Loc} {ls : Array Slot} (hi : i + 10 ≤ L) (hc9 : cells + 15 ≤ 601024) (hs9 : slots + 400 ≤ 7293033) (hI : LI G (lA s) x y o ca H) (hS : va_S (lA s) s.heap H locs) (hl : lv_has ls 8 [(4, .int (nI i)), (0, .ref b0), (1, .ref x), (2, .ref y), (3, .ref o)])
    (kk : ∀ (H1 : Heap) (locs1 : List Loc) (ls1 : Array Slot), LI G (lA s) x y o ca H1 → va_S (lA s) s.heap H1 locs1 → lv_has ls1 8 [(4, .int (nI i)), (0, .ref b0), (1, .ref x), (2, .ref y), (3, .ref o)] → W p l e room_1 s m #[Value.ref b0] below meth c H1 locs1 (cells + 15) (slots + 400) Q (F0 m 2120 ls1 [])) : W p l e room_1 s m #[Value.ref b0] below meth c H locs cells slots Q (F0 m 1089 ls []) := by
  obtain ⟨hx, hb, hml, hown, -, -, -, -⟩ := id C
  have hbA : ¬ lA s b0 := Nat.not_le.mpr hbl
  have hA0 : ∀ q, s.heap.size ≤ q → lA s q := fun _ h => h
  obtain ⟨fx, fm, g, a, b, th, bc, cp, hk, hm, ho, hd, hP⟩ := hI
  obtain ⟨ys, oy⟩ := mS_y hm
  have hok : bOK b := hk.2.2.2.2
  refine lv_aload_n hx hb d_L_law_1089 rfl (lv_at hl 2 rfl) ?_
  refine lv_aload_n hx hb d_L_law_1090 rfl (lv_at hl 1 rfl) ?_
  refine lv_iload hx hb d_L_law_1091 (lv_at hl 0 rfl) ?_
  refine lv_iconst (v := 1) hx hb d_L_law_1093 (by decide) ?_
  refine lv_iadd hx hb d_L_law_1094 ?_
  refine g_eqi (y := nI (i + 1)) (nI_add i 1) ?_
  refine s_ld C hX hbl hbA hS (j := (i + 1)) (by omega) (by omega) d_L_law_1095 ?_
  obtain ⟨w1, ew1⟩ : ∃ z99 : Int32, z99 = xs (i + 1) := ⟨_, rfl⟩
  refine g_eqi (y := w1) ew1.symm ?_
  refine lv_aload_n hx hb d_L_law_1096 rfl (lv_at hl 1 rfl) ?_
  refine lv_iload hx hb d_L_law_1097 (lv_at hl 0 rfl) ?_
  refine lv_iconst (v := 2) hx hb d_L_law_1099 (by decide) ?_
  refine lv_iadd hx hb d_L_law_1100 ?_
  refine g_eqi (y := nI (i + 2)) (nI_add i 2) ?_
  refine s_ld C hX hbl hbA hS (j := (i + 2)) (by omega) (by omega) d_L_law_1101 ?_
  obtain ⟨w2, ew2⟩ : ∃ z99 : Int32, z99 = xs (i + 2) := ⟨_, rfl⟩
  refine g_eqi (y := w2) ew2.symm ?_
  refine lv_i2l (v := w2.toInt64) hx hb d_L_law_1102 rfl ?_
  refine lv_bipush (v := 32) hx hb d_L_law_1103 (by decide) ?_
  refine lv_lshl (v := w2.toInt64 <<< ((32 : Int32).toInt64 &&& 63)) hx hb d_L_law_1105 rfl ?_
  refine lv_aload_n hx hb d_L_law_1106 rfl (lv_at hl 1 rfl) ?_
  refine lv_iload hx hb d_L_law_1107 (lv_at hl 0 rfl) ?_
  refine lv_iconst (v := 3) hx hb d_L_law_1109 (by decide) ?_
  refine lv_iadd hx hb d_L_law_1110 ?_
  refine g_eqi (y := nI (i + 3)) (nI_add i 3) ?_
  refine s_ld C hX hbl hbA hS (j := (i + 3)) (by omega) (by omega) d_L_law_1111 ?_
  obtain ⟨w3, ew3⟩ : ∃ z99 : Int32, z99 = xs (i + 3) := ⟨_, rfl⟩
  refine g_eqi (y := w3) ew3.symm ?_
  refine lv_i2l (v := w3.toInt64) hx hb d_L_law_1112 rfl ?_
  refine lv_ldc2 hx hb hown (C.w wd_742) d_L_law_1113 ?_
  refine lv_land hx hb d_L_law_1116 ?_
  refine lv_lor hx hb d_L_law_1117 ?_
  obtain ⟨v2, ev2⟩ : ∃ z99 : Int64, z99 = (w2.toInt64 <<< ((32 : Int32).toInt64 &&& 63)) ||| (w3.toInt64 &&& 4294967295) := ⟨_, rfl⟩
  refine g_eql (y := v2) ev2.symm ?_
  refine lv_aload_n hx hb d_L_law_1118 rfl (lv_at hl 4 rfl) ?_
  refine j_calli (l_runS C hN hZ hNc hl.1 (ct_L_rate (sa := sa) hl0 fx x a b hk o g ho w1 v2 _) (cx_SW C 4 wd_364 wd_365 wd_0 wd_366 rfl rfl (by decide +kernel) ⟨Nat.le_of_ble_eq_true rfl, Nat.le_of_ble_eq_true rfl⟩) hP.left hS hA0 rfl rfl (Nat.le_of_ble_eq_true rfl) d_L_law_1119 ⟨by show cells + 2 ≤ 601024; omega, by show slots + 12 ≤ 7293033; omega⟩) hd hP hS hA0 (fun k9 f1 H locs hq hd hP hS => ?_)
  obtain ⟨fx1, g1, a1, b1, r9, hu9, ho1, hk1, hlp⟩ := hq
  rw [hu9] at hd hP
  have hok1 : bOK b1 := hk1.2.2.2.2
  have hP2 : hH G (lA s) (hj fm (hj fx1 (hc1 o (aL G 1 g1)))) H := by rw [← hj_comm hd]; exact hP
  refine lv_istore (lv' := [(5, .int k9), (4, .int (nI i)), (0, .ref b0), (1, .ref x), (2, .ref y), (3, .ref o)]) hx hb d_L_law_1122 hl (by decide) rfl (fun ls hl => ?_)
  refine lv_aload_n hx hb d_L_law_1124 rfl (lv_at hl 4 rfl) ?_
  refine lv_aload_n hx hb d_L_law_1125 rfl (lv_at hl 2 rfl) ?_
  refine lv_iload hx hb d_L_law_1126 (lv_at hl 1 rfl) ?_
  refine lv_iconst (v := 1) hx hb d_L_law_1128 (by decide) ?_
  refine lv_iadd hx hb d_L_law_1129 ?_
  refine g_eqi (y := nI (i + 1)) (nI_add i 1) ?_
  refine s_ld C hX hbl hbA hS (j := (i + 1)) (by omega) (by omega) d_L_law_1130 ?_
  refine g_eqi (y := w1) ew1.symm ?_
  refine lv_aload_n hx hb d_L_law_1131 rfl (lv_at hl 2 rfl) ?_
  refine lv_iload hx hb d_L_law_1132 (lv_at hl 1 rfl) ?_
  refine lv_iconst (v := 2) hx hb d_L_law_1134 (by decide) ?_
  refine lv_iadd hx hb d_L_law_1135 ?_
  refine g_eqi (y := nI (i + 2)) (nI_add i 2) ?_
  refine s_ld C hX hbl hbA hS (j := (i + 2)) (by omega) (by omega) d_L_law_1136 ?_
  refine g_eqi (y := w2) ew2.symm ?_
  refine lv_i2l (v := w2.toInt64) hx hb d_L_law_1137 rfl ?_
  refine lv_bipush (v := 32) hx hb d_L_law_1138 (by decide) ?_
  refine lv_lshl (v := w2.toInt64 <<< ((32 : Int32).toInt64 &&& 63)) hx hb d_L_law_1140 rfl ?_
  refine lv_aload_n hx hb d_L_law_1141 rfl (lv_at hl 2 rfl) ?_
  refine lv_iload hx hb d_L_law_1142 (lv_at hl 1 rfl) ?_
  refine lv_iconst (v := 3) hx hb d_L_law_1144 (by decide) ?_
  refine lv_iadd hx hb d_L_law_1145 ?_
  refine g_eqi (y := nI (i + 3)) (nI_add i 3) ?_
  refine s_ld C hX hbl hbA hS (j := (i + 3)) (by omega) (by omega) d_L_law_1146 ?_
  refine g_eqi (y := w3) ew3.symm ?_
  refine lv_i2l (v := w3.toInt64) hx hb d_L_law_1147 rfl ?_
  refine lv_ldc2 hx hb hown (C.w wd_742) d_L_law_1148 ?_
  refine lv_land hx hb d_L_law_1151 ?_
  refine lv_lor hx hb d_L_law_1152 ?_
  refine g_eql (y := v2) ev2.symm ?_
  refine j_calli (g_runV C hl.1 (ct_M_rate fm y ca b hok th bc cp hm w1 v2 r9 b1 (fun hI9 hN9 => lp_K hlp hI9 hN9) _) (cx_V C 2 wd_674 wd_675 wd_676 wd_3 wd_677 rfl rfl (by decide +kernel) ⟨Nat.le_of_ble_eq_true rfl, Nat.le_of_ble_eq_true rfl⟩) hP2.left oy rfl rfl rfl (Nat.le_of_ble_eq_true rfl) d_L_law_1153 ⟨by show cells + 2 + 0 ≤ 601024; omega, by show slots + 12 + 0 ≤ 7293033; omega⟩) hd.symm hP2 hS hA0 (fun r2 fm1 H locs hq hd hP hS => ?_)
  obtain ⟨th2, b2, bc2, cp2, hm2, hmp⟩ := hq
  obtain ⟨hth, hb2, hdone⟩ := lp_mp hlp hmp
  rw [hth, hb2] at hm2
  obtain ⟨ys1, oy1⟩ := mS_y hm2
  refine lv_istore (lv' := [(6, .int r2), (5, .int k9), (4, .int (nI i)), (0, .ref b0), (1, .ref x), (2, .ref y), (3, .ref o)]) hx hb d_L_law_1156 hl (by decide) rfl (fun ls hl => ?_)
  refine lv_aload_n hx hb d_L_law_1158 rfl (lv_at hl 5 rfl) ?_
  refine j_calli (g_runV C hl.1 (ct_M_thrown fm1 y ca b1 hok1 k9 bc2 cp2 hm2 _) (cx_V C 0 wd_580 wd_581 wd_582 wd_3 wd_583 rfl rfl (by decide +kernel) ⟨Nat.le_of_ble_eq_true rfl, Nat.le_of_ble_eq_true rfl⟩) hP.left oy1 rfl rfl rfl (Nat.le_of_ble_eq_true rfl) d_L_law_1159 ⟨by show cells + 2 + 0 + 0 ≤ 601024; omega, by show slots + 12 + 0 + 0 ≤ 7293033; omega⟩) hd hP hS hA0 (fun r3 fm2 H locs hq hd hP hS => ?_)
  obtain ⟨hr3, hu3⟩ := hq
  rw [hu3] at hd hP
  refine g_eqi (y := k9) hr3 ?_
  have oo1 : hj fx1 (hc1 o (aL G 1 g1)) o = some (aL G 1 g1) := (hj_r ho1).trans hc1_s
  have oo : hj fm1 (hj fx1 (hc1 o (aL G 1 g1))) o = some (aL G 1 g1) := (hj_r (dj_at hd oo1)).trans oo1
  refine lv_iload hx hb d_L_law_1162 (lv_at hl 1 rfl) ?_
  refine lv_icmp_eq (tgt := 1169) hx hb d_L_law_1164 (by decide) (fun c_1164 => ?_) (fun c_1164 => ?_)
  · refine lv_iload hx hb d_L_law_1169 (lv_at hl 1 rfl) ?_
    refine lv_if_ne (tgt := 1193) hx hb d_L_law_1171 (by decide) (fun c_1171 => ?_) (fun c_1171 => ?_)
    · refine lv_goto (tgt := 2120) hx hb d_L_law_1193 (by decide) ?_
      refine W.widen (k := cells + 15) (n := slots + 400) (by show cells + 2 + 0 + 0 ≤ cells + 15; omega) (by show slots + 12 + 0 + 0 ≤ slots + 400; omega) ?_
      exact kk _ _ _ ⟨fx1, fm1, g1, a1, b1, k9, bc2, cp2, hk1, hm2, ho1, hd.symm, by rw [hj_comm hd.symm]; exact hP⟩ hS (lv_sub hl [2, 3, 4, 5, 6] rfl)
    · obtain ⟨⟨hK9, hg9⟩, hr9⟩ := hdone c_1171
      refine lv_aload_n hx hb d_L_law_1174 rfl (lv_at hl 6 rfl) ?_
      refine lv_iconst (v := 0) hx hb d_L_law_1175 (by decide) ?_
      refine g_laldN C hP oo (j := 0) (by decide) (by decide) d_L_law_1176 ?_
      refine g_eql (y := eb r9) (hg9) ?_
      refine lv_iload hx hb d_L_law_1177 (lv_at hl 0 rfl) ?_
      refine lv_if_eq (tgt := 1186) hx hb d_L_law_1179 (by decide) (fun c_1179 => ?_) (fun c_1179 => ?_)
      · refine lv_lconst (v := 0) hx hb d_L_law_1186 (by decide) ?_
        refine W.lcmp hx hb d_L_law_1187 ?_
        refine lv_if_eq (tgt := 1193) hx hb d_L_law_1188 (by decide) (fun c_1188 => ?_) (fun c_1188 => ?_)
        · have c_1188 := (lg_cmp_eq _ _).mp c_1188
          refine lv_goto (tgt := 2120) hx hb d_L_law_1193 (by decide) ?_
          refine W.widen (k := cells + 15) (n := slots + 400) (by show cells + 2 + 0 + 0 ≤ cells + 15; omega) (by show slots + 12 + 0 + 0 ≤ slots + 400; omega) ?_
          exact kk _ _ _ ⟨fx1, fm1, g1, a1, b1, k9, bc2, cp2, hk1, hm2, ho1, hd.symm, by rw [hj_comm hd.symm]; exact hP⟩ hS (lv_sub hl [2, 3, 4, 5, 6] rfl)
        · have c_1188 := fun z => c_1188 ((lg_cmp_eq _ _).mpr z)
          exact absurd (by first | exact eb_t (hr9.symm.trans c_1179) | exact eb_f (fun z => c_1179 (hr9.trans z))) c_1188
      · refine lv_lconst (v := 1) hx hb d_L_law_1182 (by decide) ?_
        refine lv_goto (tgt := 1187) hx hb d_L_law_1183 (by decide) ?_
        refine W.lcmp hx hb d_L_law_1187 ?_
        refine lv_if_eq (tgt := 1193) hx hb d_L_law_1188 (by decide) (fun c_1188 => ?_) (fun c_1188 => ?_)
        · have c_1188 := (lg_cmp_eq _ _).mp c_1188
          refine lv_goto (tgt := 2120) hx hb d_L_law_1193 (by decide) ?_
          refine W.widen (k := cells + 15) (n := slots + 400) (by show cells + 2 + 0 + 0 ≤ cells + 15; omega) (by show slots + 12 + 0 + 0 ≤ slots + 400; omega) ?_
          exact kk _ _ _ ⟨fx1, fm1, g1, a1, b1, k9, bc2, cp2, hk1, hm2, ho1, hd.symm, by rw [hj_comm hd.symm]; exact hP⟩ hS (lv_sub hl [2, 3, 4, 5, 6] rfl)
        · have c_1188 := fun z => c_1188 ((lg_cmp_eq _ _).mpr z)
          exact absurd (by first | exact eb_t (hr9.symm.trans c_1179) | exact eb_f (fun z => c_1179 (hr9.trans z))) c_1188
  · exact absurd rfl c_1164
set_option maxHeartbeats 4000000 in
set_option maxRecDepth 100000 in
theorem law_pack {G : hG} {sa : xS} {hw : Cond} {p : Program} {l : Launch} {e : Env} {s : State} {m : MethodId} {below : List Frame} {meth : Method} {c : Code} {Q : State → Prop} {b0 L : Nat} {xs : Nat → Int32} (hl0 : l.stackTraces = false) (C : hC G R_L (hw :: bw) code 8 ret p s m #[Value.ref b0] meth c) (hN : xN sa s) (hZ : xZ (lA s) s s.heap) (hNc : va_Nc eA eI s) (hX : va_X b0 L xs s s.heap) (hbl : b0 < s.heap.size) (hL : L ≤ 5120)
    {i cells slots x y o : Nat} {ca : Nat → Nat} {H : Heap} {locs : List Loc} {ls : Array Slot} (hi : i + 10 ≤ L) (hc9 : cells + 15 ≤ 601024) (hs9 : slots + 400 ≤ 7293033) (hI : LI G (lA s) x y o ca H) (hS : va_S (lA s) s.heap H locs) (hl : lv_has ls 8 [(4, .int (nI i)), (0, .ref b0), (1, .ref x), (2, .ref y), (3, .ref o)])
    (kk : ∀ (H1 : Heap) (locs1 : List Loc) (ls1 : Array Slot), LI G (lA s) x y o ca H1 → va_S (lA s) s.heap H1 locs1 → lv_has ls1 8 [(4, .int (nI i)), (0, .ref b0), (1, .ref x), (2, .ref y), (3, .ref o)] → W p l e room_1 s m #[Value.ref b0] below meth c H1 locs1 (cells + 15) (slots + 400) Q (F0 m 2120 ls1 [])) : W p l e room_1 s m #[Value.ref b0] below meth c H locs cells slots Q (F0 m 1196 ls []) := by
  obtain ⟨hx, hb, hml, hown, -, -, -, -⟩ := id C
  have hbA : ¬ lA s b0 := Nat.not_le.mpr hbl
  have hA0 : ∀ q, s.heap.size ≤ q → lA s q := fun _ h => h
  obtain ⟨fx, fm, g, a, b, th, bc, cp, hk, hm, ho, hd, hP⟩ := hI
  obtain ⟨ys, oy⟩ := mS_y hm
  have hok : bOK b := hk.2.2.2.2
  refine lv_aload_n hx hb d_L_law_1196 rfl (lv_at hl 2 rfl) ?_
  refine lv_aload_n hx hb d_L_law_1197 rfl (lv_at hl 1 rfl) ?_
  refine lv_iload hx hb d_L_law_1198 (lv_at hl 0 rfl) ?_
  refine lv_iconst (v := 1) hx hb d_L_law_1200 (by decide) ?_
  refine lv_iadd hx hb d_L_law_1201 ?_
  refine g_eqi (y := nI (i + 1)) (nI_add i 1) ?_
  refine s_ld C hX hbl hbA hS (j := (i + 1)) (by omega) (by omega) d_L_law_1202 ?_
  obtain ⟨w1, ew1⟩ : ∃ z99 : Int32, z99 = xs (i + 1) := ⟨_, rfl⟩
  refine g_eqi (y := w1) ew1.symm ?_
  refine lv_aload_n hx hb d_L_law_1203 rfl (lv_at hl 1 rfl) ?_
  refine lv_iload hx hb d_L_law_1204 (lv_at hl 0 rfl) ?_
  refine lv_iconst (v := 2) hx hb d_L_law_1206 (by decide) ?_
  refine lv_iadd hx hb d_L_law_1207 ?_
  refine g_eqi (y := nI (i + 2)) (nI_add i 2) ?_
  refine s_ld C hX hbl hbA hS (j := (i + 2)) (by omega) (by omega) d_L_law_1208 ?_
  obtain ⟨w2, ew2⟩ : ∃ z99 : Int32, z99 = xs (i + 2) := ⟨_, rfl⟩
  refine g_eqi (y := w2) ew2.symm ?_
  refine lv_aload_n hx hb d_L_law_1209 rfl (lv_at hl 4 rfl) ?_
  refine j_calli (l_runS C hN hZ hNc hl.1 (ct_L_pack (sa := sa) hl0 fx x a b hk o g ho w1 w2 _) (cx_SW C 4 wd_371 wd_372 wd_0 wd_373 rfl rfl (by decide +kernel) ⟨Nat.le_of_ble_eq_true rfl, Nat.le_of_ble_eq_true rfl⟩) hP.left hS hA0 rfl rfl (Nat.le_of_ble_eq_true rfl) d_L_law_1210 ⟨by show cells + 3 ≤ 601024; omega, by show slots + 325 ≤ 7293033; omega⟩) hd hP hS hA0 (fun k9 f1 H locs hq hd hP hS => ?_)
  obtain ⟨fx1, g1, a1, b1, r9, hu9, ho1, hk1, hlp⟩ := hq
  rw [hu9] at hd hP
  have hok1 : bOK b1 := hk1.2.2.2.2
  have hP2 : hH G (lA s) (hj fm (hj fx1 (hc1 o (aL G 1 g1)))) H := by rw [← hj_comm hd]; exact hP
  refine lv_istore (lv' := [(5, .int k9), (4, .int (nI i)), (0, .ref b0), (1, .ref x), (2, .ref y), (3, .ref o)]) hx hb d_L_law_1213 hl (by decide) rfl (fun ls hl => ?_)
  refine lv_aload_n hx hb d_L_law_1215 rfl (lv_at hl 4 rfl) ?_
  refine lv_aload_n hx hb d_L_law_1216 rfl (lv_at hl 2 rfl) ?_
  refine lv_iload hx hb d_L_law_1217 (lv_at hl 1 rfl) ?_
  refine lv_iconst (v := 1) hx hb d_L_law_1219 (by decide) ?_
  refine lv_iadd hx hb d_L_law_1220 ?_
  refine g_eqi (y := nI (i + 1)) (nI_add i 1) ?_
  refine s_ld C hX hbl hbA hS (j := (i + 1)) (by omega) (by omega) d_L_law_1221 ?_
  refine g_eqi (y := w1) ew1.symm ?_
  refine lv_aload_n hx hb d_L_law_1222 rfl (lv_at hl 2 rfl) ?_
  refine lv_iload hx hb d_L_law_1223 (lv_at hl 1 rfl) ?_
  refine lv_iconst (v := 2) hx hb d_L_law_1225 (by decide) ?_
  refine lv_iadd hx hb d_L_law_1226 ?_
  refine g_eqi (y := nI (i + 2)) (nI_add i 2) ?_
  refine s_ld C hX hbl hbA hS (j := (i + 2)) (by omega) (by omega) d_L_law_1227 ?_
  refine g_eqi (y := w2) ew2.symm ?_
  refine j_calli (g_runV C hl.1 (ct_M_pack fm y ca b hok th bc cp hm w1 w2 r9 b1 (fun hI9 hN9 => lp_K hlp hI9 hN9) _) (cx_V C 2 wd_678 wd_679 wd_680 wd_3 wd_681 rfl rfl (by decide +kernel) ⟨Nat.le_of_ble_eq_true rfl, Nat.le_of_ble_eq_true rfl⟩) hP2.left oy rfl rfl rfl (Nat.le_of_ble_eq_true rfl) d_L_law_1228 ⟨by show cells + 3 + 0 ≤ 601024; omega, by show slots + 325 + 0 ≤ 7293033; omega⟩) hd.symm hP2 hS hA0 (fun r2 fm1 H locs hq hd hP hS => ?_)
  obtain ⟨th2, b2, bc2, cp2, hm2, hmp⟩ := hq
  obtain ⟨hth, hb2, hdone⟩ := lp_mp hlp hmp
  rw [hth, hb2] at hm2
  obtain ⟨ys1, oy1⟩ := mS_y hm2
  refine lv_istore (lv' := [(6, .int r2), (5, .int k9), (4, .int (nI i)), (0, .ref b0), (1, .ref x), (2, .ref y), (3, .ref o)]) hx hb d_L_law_1231 hl (by decide) rfl (fun ls hl => ?_)
  refine lv_aload_n hx hb d_L_law_1233 rfl (lv_at hl 5 rfl) ?_
  refine j_calli (g_runV C hl.1 (ct_M_thrown fm1 y ca b1 hok1 k9 bc2 cp2 hm2 _) (cx_V C 0 wd_580 wd_581 wd_582 wd_3 wd_583 rfl rfl (by decide +kernel) ⟨Nat.le_of_ble_eq_true rfl, Nat.le_of_ble_eq_true rfl⟩) hP.left oy1 rfl rfl rfl (Nat.le_of_ble_eq_true rfl) d_L_law_1234 ⟨by show cells + 3 + 0 + 0 ≤ 601024; omega, by show slots + 325 + 0 + 0 ≤ 7293033; omega⟩) hd hP hS hA0 (fun r3 fm2 H locs hq hd hP hS => ?_)
  obtain ⟨hr3, hu3⟩ := hq
  rw [hu3] at hd hP
  refine g_eqi (y := k9) hr3 ?_
  have oo1 : hj fx1 (hc1 o (aL G 1 g1)) o = some (aL G 1 g1) := (hj_r ho1).trans hc1_s
  have oo : hj fm1 (hj fx1 (hc1 o (aL G 1 g1))) o = some (aL G 1 g1) := (hj_r (dj_at hd oo1)).trans oo1
  refine lv_iload hx hb d_L_law_1237 (lv_at hl 1 rfl) ?_
  refine lv_icmp_eq (tgt := 1244) hx hb d_L_law_1239 (by decide) (fun c_1239 => ?_) (fun c_1239 => ?_)
  · refine lv_iload hx hb d_L_law_1244 (lv_at hl 1 rfl) ?_
    refine lv_if_ne (tgt := 1268) hx hb d_L_law_1246 (by decide) (fun c_1246 => ?_) (fun c_1246 => ?_)
    · refine lv_goto (tgt := 2120) hx hb d_L_law_1268 (by decide) ?_
      refine W.widen (k := cells + 15) (n := slots + 400) (by show cells + 3 + 0 + 0 ≤ cells + 15; omega) (by show slots + 325 + 0 + 0 ≤ slots + 400; omega) ?_
      exact kk _ _ _ ⟨fx1, fm1, g1, a1, b1, k9, bc2, cp2, hk1, hm2, ho1, hd.symm, by rw [hj_comm hd.symm]; exact hP⟩ hS (lv_sub hl [2, 3, 4, 5, 6] rfl)
    · obtain ⟨⟨hK9, hg9⟩, hr9⟩ := hdone c_1246
      refine lv_aload_n hx hb d_L_law_1249 rfl (lv_at hl 6 rfl) ?_
      refine lv_iconst (v := 0) hx hb d_L_law_1250 (by decide) ?_
      refine g_laldN C hP oo (j := 0) (by decide) (by decide) d_L_law_1251 ?_
      refine g_eql (y := eb r9) (hg9) ?_
      refine lv_iload hx hb d_L_law_1252 (lv_at hl 0 rfl) ?_
      refine lv_if_eq (tgt := 1261) hx hb d_L_law_1254 (by decide) (fun c_1254 => ?_) (fun c_1254 => ?_)
      · refine lv_lconst (v := 0) hx hb d_L_law_1261 (by decide) ?_
        refine W.lcmp hx hb d_L_law_1262 ?_
        refine lv_if_eq (tgt := 1268) hx hb d_L_law_1263 (by decide) (fun c_1263 => ?_) (fun c_1263 => ?_)
        · have c_1263 := (lg_cmp_eq _ _).mp c_1263
          refine lv_goto (tgt := 2120) hx hb d_L_law_1268 (by decide) ?_
          refine W.widen (k := cells + 15) (n := slots + 400) (by show cells + 3 + 0 + 0 ≤ cells + 15; omega) (by show slots + 325 + 0 + 0 ≤ slots + 400; omega) ?_
          exact kk _ _ _ ⟨fx1, fm1, g1, a1, b1, k9, bc2, cp2, hk1, hm2, ho1, hd.symm, by rw [hj_comm hd.symm]; exact hP⟩ hS (lv_sub hl [2, 3, 4, 5, 6] rfl)
        · have c_1263 := fun z => c_1263 ((lg_cmp_eq _ _).mpr z)
          exact absurd (by first | exact eb_t (hr9.symm.trans c_1254) | exact eb_f (fun z => c_1254 (hr9.trans z))) c_1263
      · refine lv_lconst (v := 1) hx hb d_L_law_1257 (by decide) ?_
        refine lv_goto (tgt := 1262) hx hb d_L_law_1258 (by decide) ?_
        refine W.lcmp hx hb d_L_law_1262 ?_
        refine lv_if_eq (tgt := 1268) hx hb d_L_law_1263 (by decide) (fun c_1263 => ?_) (fun c_1263 => ?_)
        · have c_1263 := (lg_cmp_eq _ _).mp c_1263
          refine lv_goto (tgt := 2120) hx hb d_L_law_1268 (by decide) ?_
          refine W.widen (k := cells + 15) (n := slots + 400) (by show cells + 3 + 0 + 0 ≤ cells + 15; omega) (by show slots + 325 + 0 + 0 ≤ slots + 400; omega) ?_
          exact kk _ _ _ ⟨fx1, fm1, g1, a1, b1, k9, bc2, cp2, hk1, hm2, ho1, hd.symm, by rw [hj_comm hd.symm]; exact hP⟩ hS (lv_sub hl [2, 3, 4, 5, 6] rfl)
        · have c_1263 := fun z => c_1263 ((lg_cmp_eq _ _).mpr z)
          exact absurd (by first | exact eb_t (hr9.symm.trans c_1254) | exact eb_f (fun z => c_1254 (hr9.trans z))) c_1263
  · exact absurd rfl c_1239
set_option maxHeartbeats 4000000 in
set_option maxRecDepth 100000 in
theorem law_stock {G : hG} {sa : xS} {hw : Cond} {p : Program} {l : Launch} {e : Env} {s : State} {m : MethodId} {below : List Frame} {meth : Method} {c : Code} {Q : State → Prop} {b0 L : Nat} {xs : Nat → Int32} (hl0 : l.stackTraces = false) (C : hC G R_L (hw :: bw) code 8 ret p s m #[Value.ref b0] meth c) (hN : xN sa s) (hZ : xZ (lA s) s s.heap) (hNc : va_Nc eA eI s) (hX : va_X b0 L xs s s.heap) (hbl : b0 < s.heap.size) (hL : L ≤ 5120)
    {i cells slots x y o : Nat} {ca : Nat → Nat} {H : Heap} {locs : List Loc} {ls : Array Slot} (hi : i + 10 ≤ L) (hc9 : cells + 15 ≤ 601024) (hs9 : slots + 400 ≤ 7293033) (hI : LI G (lA s) x y o ca H) (hS : va_S (lA s) s.heap H locs) (hl : lv_has ls 8 [(4, .int (nI i)), (0, .ref b0), (1, .ref x), (2, .ref y), (3, .ref o)])
    (kk : ∀ (H1 : Heap) (locs1 : List Loc) (ls1 : Array Slot), LI G (lA s) x y o ca H1 → va_S (lA s) s.heap H1 locs1 → lv_has ls1 8 [(4, .int (nI i)), (0, .ref b0), (1, .ref x), (2, .ref y), (3, .ref o)] → W p l e room_1 s m #[Value.ref b0] below meth c H1 locs1 (cells + 15) (slots + 400) Q (F0 m 2120 ls1 [])) : W p l e room_1 s m #[Value.ref b0] below meth c H locs cells slots Q (F0 m 1271 ls []) := by
  obtain ⟨hx, hb, hml, hown, -, -, -, -⟩ := id C
  have hbA : ¬ lA s b0 := Nat.not_le.mpr hbl
  have hA0 : ∀ q, s.heap.size ≤ q → lA s q := fun _ h => h
  obtain ⟨fx, fm, g, a, b, th, bc, cp, hk, hm, ho, hd, hP⟩ := hI
  obtain ⟨ys, oy⟩ := mS_y hm
  have hok : bOK b := hk.2.2.2.2
  refine lv_aload_n hx hb d_L_law_1271 rfl (lv_at hl 2 rfl) ?_
  refine lv_aload_n hx hb d_L_law_1272 rfl (lv_at hl 1 rfl) ?_
  refine lv_iload hx hb d_L_law_1273 (lv_at hl 0 rfl) ?_
  refine lv_iconst (v := 1) hx hb d_L_law_1275 (by decide) ?_
  refine lv_iadd hx hb d_L_law_1276 ?_
  refine g_eqi (y := nI (i + 1)) (nI_add i 1) ?_
  refine s_ld C hX hbl hbA hS (j := (i + 1)) (by omega) (by omega) d_L_law_1277 ?_
  obtain ⟨w1, ew1⟩ : ∃ z99 : Int32, z99 = xs (i + 1) := ⟨_, rfl⟩
  refine g_eqi (y := w1) ew1.symm ?_
  refine lv_aload_n hx hb d_L_law_1278 rfl (lv_at hl 1 rfl) ?_
  refine lv_iload hx hb d_L_law_1279 (lv_at hl 0 rfl) ?_
  refine lv_iconst (v := 2) hx hb d_L_law_1281 (by decide) ?_
  refine lv_iadd hx hb d_L_law_1282 ?_
  refine g_eqi (y := nI (i + 2)) (nI_add i 2) ?_
  refine s_ld C hX hbl hbA hS (j := (i + 2)) (by omega) (by omega) d_L_law_1283 ?_
  obtain ⟨w2, ew2⟩ : ∃ z99 : Int32, z99 = xs (i + 2) := ⟨_, rfl⟩
  refine g_eqi (y := w2) ew2.symm ?_
  refine lv_aload_n hx hb d_L_law_1284 rfl (lv_at hl 4 rfl) ?_
  refine j_calli (l_runS C hN hZ hNc hl.1 (ct_L_stock (sa := sa) hl0 fx x a b hk o g ho w1 w2 _) (cx_SW C 4 wd_392 wd_393 wd_0 wd_394 rfl rfl (by decide +kernel) ⟨Nat.le_of_ble_eq_true rfl, Nat.le_of_ble_eq_true rfl⟩) hP.left hS hA0 rfl rfl (Nat.le_of_ble_eq_true rfl) d_L_law_1285 ⟨by show cells + 2 ≤ 601024; omega, by show slots + 12 ≤ 7293033; omega⟩) hd hP hS hA0 (fun k9 f1 H locs hq hd hP hS => ?_)
  obtain ⟨fx1, g1, a1, b1, r9, hu9, ho1, hk1, hlp⟩ := hq
  rw [hu9] at hd hP
  have hok1 : bOK b1 := hk1.2.2.2.2
  have hP2 : hH G (lA s) (hj fm (hj fx1 (hc1 o (aL G 1 g1)))) H := by rw [← hj_comm hd]; exact hP
  refine lv_istore (lv' := [(5, .int k9), (4, .int (nI i)), (0, .ref b0), (1, .ref x), (2, .ref y), (3, .ref o)]) hx hb d_L_law_1288 hl (by decide) rfl (fun ls hl => ?_)
  refine lv_aload_n hx hb d_L_law_1290 rfl (lv_at hl 4 rfl) ?_
  refine lv_aload_n hx hb d_L_law_1291 rfl (lv_at hl 2 rfl) ?_
  refine lv_iload hx hb d_L_law_1292 (lv_at hl 1 rfl) ?_
  refine lv_iconst (v := 1) hx hb d_L_law_1294 (by decide) ?_
  refine lv_iadd hx hb d_L_law_1295 ?_
  refine g_eqi (y := nI (i + 1)) (nI_add i 1) ?_
  refine s_ld C hX hbl hbA hS (j := (i + 1)) (by omega) (by omega) d_L_law_1296 ?_
  refine g_eqi (y := w1) ew1.symm ?_
  refine lv_aload_n hx hb d_L_law_1297 rfl (lv_at hl 2 rfl) ?_
  refine lv_iload hx hb d_L_law_1298 (lv_at hl 1 rfl) ?_
  refine lv_iconst (v := 2) hx hb d_L_law_1300 (by decide) ?_
  refine lv_iadd hx hb d_L_law_1301 ?_
  refine g_eqi (y := nI (i + 2)) (nI_add i 2) ?_
  refine s_ld C hX hbl hbA hS (j := (i + 2)) (by omega) (by omega) d_L_law_1302 ?_
  refine g_eqi (y := w2) ew2.symm ?_
  refine j_calli (g_runV C hl.1 (ct_M_stock fm y ca b hok th bc cp hm w1 w2 r9 b1 (fun hI9 hN9 => lp_K hlp hI9 hN9) _) (cx_V C 2 wd_682 wd_683 wd_684 wd_3 wd_685 rfl rfl (by decide +kernel) ⟨Nat.le_of_ble_eq_true rfl, Nat.le_of_ble_eq_true rfl⟩) hP2.left oy rfl rfl rfl (Nat.le_of_ble_eq_true rfl) d_L_law_1303 ⟨by show cells + 2 + 0 ≤ 601024; omega, by show slots + 12 + 0 ≤ 7293033; omega⟩) hd.symm hP2 hS hA0 (fun r2 fm1 H locs hq hd hP hS => ?_)
  obtain ⟨th2, b2, bc2, cp2, hm2, hmp⟩ := hq
  obtain ⟨hth, hb2, hdone⟩ := lp_mp hlp hmp
  rw [hth, hb2] at hm2
  obtain ⟨ys1, oy1⟩ := mS_y hm2
  refine lv_istore (lv' := [(6, .int r2), (5, .int k9), (4, .int (nI i)), (0, .ref b0), (1, .ref x), (2, .ref y), (3, .ref o)]) hx hb d_L_law_1306 hl (by decide) rfl (fun ls hl => ?_)
  refine lv_aload_n hx hb d_L_law_1308 rfl (lv_at hl 5 rfl) ?_
  refine j_calli (g_runV C hl.1 (ct_M_thrown fm1 y ca b1 hok1 k9 bc2 cp2 hm2 _) (cx_V C 0 wd_580 wd_581 wd_582 wd_3 wd_583 rfl rfl (by decide +kernel) ⟨Nat.le_of_ble_eq_true rfl, Nat.le_of_ble_eq_true rfl⟩) hP.left oy1 rfl rfl rfl (Nat.le_of_ble_eq_true rfl) d_L_law_1309 ⟨by show cells + 2 + 0 + 0 ≤ 601024; omega, by show slots + 12 + 0 + 0 ≤ 7293033; omega⟩) hd hP hS hA0 (fun r3 fm2 H locs hq hd hP hS => ?_)
  obtain ⟨hr3, hu3⟩ := hq
  rw [hu3] at hd hP
  refine g_eqi (y := k9) hr3 ?_
  have oo1 : hj fx1 (hc1 o (aL G 1 g1)) o = some (aL G 1 g1) := (hj_r ho1).trans hc1_s
  have oo : hj fm1 (hj fx1 (hc1 o (aL G 1 g1))) o = some (aL G 1 g1) := (hj_r (dj_at hd oo1)).trans oo1
  refine lv_iload hx hb d_L_law_1312 (lv_at hl 1 rfl) ?_
  refine lv_icmp_eq (tgt := 1319) hx hb d_L_law_1314 (by decide) (fun c_1314 => ?_) (fun c_1314 => ?_)
  · refine lv_iload hx hb d_L_law_1319 (lv_at hl 1 rfl) ?_
    refine lv_if_ne (tgt := 1343) hx hb d_L_law_1321 (by decide) (fun c_1321 => ?_) (fun c_1321 => ?_)
    · refine lv_goto (tgt := 2120) hx hb d_L_law_1343 (by decide) ?_
      refine W.widen (k := cells + 15) (n := slots + 400) (by show cells + 2 + 0 + 0 ≤ cells + 15; omega) (by show slots + 12 + 0 + 0 ≤ slots + 400; omega) ?_
      exact kk _ _ _ ⟨fx1, fm1, g1, a1, b1, k9, bc2, cp2, hk1, hm2, ho1, hd.symm, by rw [hj_comm hd.symm]; exact hP⟩ hS (lv_sub hl [2, 3, 4, 5, 6] rfl)
    · obtain ⟨⟨hK9, hg9⟩, hr9⟩ := hdone c_1321
      refine lv_aload_n hx hb d_L_law_1324 rfl (lv_at hl 6 rfl) ?_
      refine lv_iconst (v := 0) hx hb d_L_law_1325 (by decide) ?_
      refine g_laldN C hP oo (j := 0) (by decide) (by decide) d_L_law_1326 ?_
      refine g_eql (y := eb r9) (hg9) ?_
      refine lv_iload hx hb d_L_law_1327 (lv_at hl 0 rfl) ?_
      refine lv_if_eq (tgt := 1336) hx hb d_L_law_1329 (by decide) (fun c_1329 => ?_) (fun c_1329 => ?_)
      · refine lv_lconst (v := 0) hx hb d_L_law_1336 (by decide) ?_
        refine W.lcmp hx hb d_L_law_1337 ?_
        refine lv_if_eq (tgt := 1343) hx hb d_L_law_1338 (by decide) (fun c_1338 => ?_) (fun c_1338 => ?_)
        · have c_1338 := (lg_cmp_eq _ _).mp c_1338
          refine lv_goto (tgt := 2120) hx hb d_L_law_1343 (by decide) ?_
          refine W.widen (k := cells + 15) (n := slots + 400) (by show cells + 2 + 0 + 0 ≤ cells + 15; omega) (by show slots + 12 + 0 + 0 ≤ slots + 400; omega) ?_
          exact kk _ _ _ ⟨fx1, fm1, g1, a1, b1, k9, bc2, cp2, hk1, hm2, ho1, hd.symm, by rw [hj_comm hd.symm]; exact hP⟩ hS (lv_sub hl [2, 3, 4, 5, 6] rfl)
        · have c_1338 := fun z => c_1338 ((lg_cmp_eq _ _).mpr z)
          exact absurd (by first | exact eb_t (hr9.symm.trans c_1329) | exact eb_f (fun z => c_1329 (hr9.trans z))) c_1338
      · refine lv_lconst (v := 1) hx hb d_L_law_1332 (by decide) ?_
        refine lv_goto (tgt := 1337) hx hb d_L_law_1333 (by decide) ?_
        refine W.lcmp hx hb d_L_law_1337 ?_
        refine lv_if_eq (tgt := 1343) hx hb d_L_law_1338 (by decide) (fun c_1338 => ?_) (fun c_1338 => ?_)
        · have c_1338 := (lg_cmp_eq _ _).mp c_1338
          refine lv_goto (tgt := 2120) hx hb d_L_law_1343 (by decide) ?_
          refine W.widen (k := cells + 15) (n := slots + 400) (by show cells + 2 + 0 + 0 ≤ cells + 15; omega) (by show slots + 12 + 0 + 0 ≤ slots + 400; omega) ?_
          exact kk _ _ _ ⟨fx1, fm1, g1, a1, b1, k9, bc2, cp2, hk1, hm2, ho1, hd.symm, by rw [hj_comm hd.symm]; exact hP⟩ hS (lv_sub hl [2, 3, 4, 5, 6] rfl)
        · have c_1338 := fun z => c_1338 ((lg_cmp_eq _ _).mpr z)
          exact absurd (by first | exact eb_t (hr9.symm.trans c_1329) | exact eb_f (fun z => c_1329 (hr9.trans z))) c_1338
  · exact absurd rfl c_1314
set_option maxHeartbeats 4000000 in
set_option maxRecDepth 100000 in
theorem law_life {G : hG} {sa : xS} {hw : Cond} {p : Program} {l : Launch} {e : Env} {s : State} {m : MethodId} {below : List Frame} {meth : Method} {c : Code} {Q : State → Prop} {b0 L : Nat} {xs : Nat → Int32} (hl0 : l.stackTraces = false) (C : hC G R_L (hw :: bw) code 8 ret p s m #[Value.ref b0] meth c) (hN : xN sa s) (hZ : xZ (lA s) s s.heap) (hNc : va_Nc eA eI s) (hX : va_X b0 L xs s s.heap) (hbl : b0 < s.heap.size) (hL : L ≤ 5120)
    {i cells slots x y o : Nat} {ca : Nat → Nat} {H : Heap} {locs : List Loc} {ls : Array Slot} (hi : i + 10 ≤ L) (hc9 : cells + 15 ≤ 601024) (hs9 : slots + 400 ≤ 7293033) (hI : LI G (lA s) x y o ca H) (hS : va_S (lA s) s.heap H locs) (hl : lv_has ls 8 [(4, .int (nI i)), (0, .ref b0), (1, .ref x), (2, .ref y), (3, .ref o)])
    (kk : ∀ (H1 : Heap) (locs1 : List Loc) (ls1 : Array Slot), LI G (lA s) x y o ca H1 → va_S (lA s) s.heap H1 locs1 → lv_has ls1 8 [(4, .int (nI i)), (0, .ref b0), (1, .ref x), (2, .ref y), (3, .ref o)] → W p l e room_1 s m #[Value.ref b0] below meth c H1 locs1 (cells + 15) (slots + 400) Q (F0 m 2120 ls1 [])) : W p l e room_1 s m #[Value.ref b0] below meth c H locs cells slots Q (F0 m 1346 ls []) := by
  obtain ⟨hx, hb, hml, hown, -, -, -, -⟩ := id C
  have hbA : ¬ lA s b0 := Nat.not_le.mpr hbl
  have hA0 : ∀ q, s.heap.size ≤ q → lA s q := fun _ h => h
  obtain ⟨fx, fm, g, a, b, th, bc, cp, hk, hm, ho, hd, hP⟩ := hI
  obtain ⟨ys, oy⟩ := mS_y hm
  have hok : bOK b := hk.2.2.2.2
  refine lv_aload_n hx hb d_L_law_1346 rfl (lv_at hl 2 rfl) ?_
  refine lv_aload_n hx hb d_L_law_1347 rfl (lv_at hl 1 rfl) ?_
  refine lv_iload hx hb d_L_law_1348 (lv_at hl 0 rfl) ?_
  refine lv_iconst (v := 1) hx hb d_L_law_1350 (by decide) ?_
  refine lv_iadd hx hb d_L_law_1351 ?_
  refine g_eqi (y := nI (i + 1)) (nI_add i 1) ?_
  refine s_ld C hX hbl hbA hS (j := (i + 1)) (by omega) (by omega) d_L_law_1352 ?_
  obtain ⟨w1, ew1⟩ : ∃ z99 : Int32, z99 = xs (i + 1) := ⟨_, rfl⟩
  refine g_eqi (y := w1) ew1.symm ?_
  refine lv_aload_n hx hb d_L_law_1353 rfl (lv_at hl 1 rfl) ?_
  refine lv_iload hx hb d_L_law_1354 (lv_at hl 0 rfl) ?_
  refine lv_iconst (v := 2) hx hb d_L_law_1356 (by decide) ?_
  refine lv_iadd hx hb d_L_law_1357 ?_
  refine g_eqi (y := nI (i + 2)) (nI_add i 2) ?_
  refine s_ld C hX hbl hbA hS (j := (i + 2)) (by omega) (by omega) d_L_law_1358 ?_
  obtain ⟨w2, ew2⟩ : ∃ z99 : Int32, z99 = xs (i + 2) := ⟨_, rfl⟩
  refine g_eqi (y := w2) ew2.symm ?_
  refine lv_i2l (v := w2.toInt64) hx hb d_L_law_1359 rfl ?_
  refine lv_bipush (v := 32) hx hb d_L_law_1360 (by decide) ?_
  refine lv_lshl (v := w2.toInt64 <<< ((32 : Int32).toInt64 &&& 63)) hx hb d_L_law_1362 rfl ?_
  refine lv_aload_n hx hb d_L_law_1363 rfl (lv_at hl 1 rfl) ?_
  refine lv_iload hx hb d_L_law_1364 (lv_at hl 0 rfl) ?_
  refine lv_iconst (v := 3) hx hb d_L_law_1366 (by decide) ?_
  refine lv_iadd hx hb d_L_law_1367 ?_
  refine g_eqi (y := nI (i + 3)) (nI_add i 3) ?_
  refine s_ld C hX hbl hbA hS (j := (i + 3)) (by omega) (by omega) d_L_law_1368 ?_
  obtain ⟨w3, ew3⟩ : ∃ z99 : Int32, z99 = xs (i + 3) := ⟨_, rfl⟩
  refine g_eqi (y := w3) ew3.symm ?_
  refine lv_i2l (v := w3.toInt64) hx hb d_L_law_1369 rfl ?_
  refine lv_ldc2 hx hb hown (C.w wd_742) d_L_law_1370 ?_
  refine lv_land hx hb d_L_law_1373 ?_
  refine lv_lor hx hb d_L_law_1374 ?_
  obtain ⟨v2, ev2⟩ : ∃ z99 : Int64, z99 = (w2.toInt64 <<< ((32 : Int32).toInt64 &&& 63)) ||| (w3.toInt64 &&& 4294967295) := ⟨_, rfl⟩
  refine g_eql (y := v2) ev2.symm ?_
  refine lv_aload_n hx hb d_L_law_1375 rfl (lv_at hl 1 rfl) ?_
  refine lv_iload hx hb d_L_law_1376 (lv_at hl 0 rfl) ?_
  refine lv_iconst (v := 4) hx hb d_L_law_1378 (by decide) ?_
  refine lv_iadd hx hb d_L_law_1379 ?_
  refine g_eqi (y := nI (i + 4)) (nI_add i 4) ?_
  refine s_ld C hX hbl hbA hS (j := (i + 4)) (by omega) (by omega) d_L_law_1380 ?_
  obtain ⟨w4, ew4⟩ : ∃ z99 : Int32, z99 = xs (i + 4) := ⟨_, rfl⟩
  refine g_eqi (y := w4) ew4.symm ?_
  refine lv_aload_n hx hb d_L_law_1381 rfl (lv_at hl 4 rfl) ?_
  refine j_calli (l_runS C hN hZ hNc hl.1 (ct_L_life (sa := sa) hl0 fx x a b hk o g ho w1 v2 w4 _) (cx_SW C 5 wd_400 wd_401 wd_0 wd_402 rfl rfl (by decide +kernel) ⟨Nat.le_of_ble_eq_true rfl, Nat.le_of_ble_eq_true rfl⟩) hP.left hS hA0 rfl rfl (Nat.le_of_ble_eq_true rfl) d_L_law_1382 ⟨by show cells + 2 ≤ 601024; omega, by show slots + 12 ≤ 7293033; omega⟩) hd hP hS hA0 (fun k9 f1 H locs hq hd hP hS => ?_)
  obtain ⟨fx1, g1, a1, b1, r9, hu9, ho1, hk1, hlp⟩ := hq
  rw [hu9] at hd hP
  have hok1 : bOK b1 := hk1.2.2.2.2
  have hP2 : hH G (lA s) (hj fm (hj fx1 (hc1 o (aL G 1 g1)))) H := by rw [← hj_comm hd]; exact hP
  refine lv_istore (lv' := [(5, .int k9), (4, .int (nI i)), (0, .ref b0), (1, .ref x), (2, .ref y), (3, .ref o)]) hx hb d_L_law_1385 hl (by decide) rfl (fun ls hl => ?_)
  refine lv_aload_n hx hb d_L_law_1387 rfl (lv_at hl 4 rfl) ?_
  refine lv_aload_n hx hb d_L_law_1388 rfl (lv_at hl 2 rfl) ?_
  refine lv_iload hx hb d_L_law_1389 (lv_at hl 1 rfl) ?_
  refine lv_iconst (v := 1) hx hb d_L_law_1391 (by decide) ?_
  refine lv_iadd hx hb d_L_law_1392 ?_
  refine g_eqi (y := nI (i + 1)) (nI_add i 1) ?_
  refine s_ld C hX hbl hbA hS (j := (i + 1)) (by omega) (by omega) d_L_law_1393 ?_
  refine g_eqi (y := w1) ew1.symm ?_
  refine lv_aload_n hx hb d_L_law_1394 rfl (lv_at hl 2 rfl) ?_
  refine lv_iload hx hb d_L_law_1395 (lv_at hl 1 rfl) ?_
  refine lv_iconst (v := 2) hx hb d_L_law_1397 (by decide) ?_
  refine lv_iadd hx hb d_L_law_1398 ?_
  refine g_eqi (y := nI (i + 2)) (nI_add i 2) ?_
  refine s_ld C hX hbl hbA hS (j := (i + 2)) (by omega) (by omega) d_L_law_1399 ?_
  refine g_eqi (y := w2) ew2.symm ?_
  refine lv_i2l (v := w2.toInt64) hx hb d_L_law_1400 rfl ?_
  refine lv_bipush (v := 32) hx hb d_L_law_1401 (by decide) ?_
  refine lv_lshl (v := w2.toInt64 <<< ((32 : Int32).toInt64 &&& 63)) hx hb d_L_law_1403 rfl ?_
  refine lv_aload_n hx hb d_L_law_1404 rfl (lv_at hl 2 rfl) ?_
  refine lv_iload hx hb d_L_law_1405 (lv_at hl 1 rfl) ?_
  refine lv_iconst (v := 3) hx hb d_L_law_1407 (by decide) ?_
  refine lv_iadd hx hb d_L_law_1408 ?_
  refine g_eqi (y := nI (i + 3)) (nI_add i 3) ?_
  refine s_ld C hX hbl hbA hS (j := (i + 3)) (by omega) (by omega) d_L_law_1409 ?_
  refine g_eqi (y := w3) ew3.symm ?_
  refine lv_i2l (v := w3.toInt64) hx hb d_L_law_1410 rfl ?_
  refine lv_ldc2 hx hb hown (C.w wd_742) d_L_law_1411 ?_
  refine lv_land hx hb d_L_law_1414 ?_
  refine lv_lor hx hb d_L_law_1415 ?_
  refine g_eql (y := v2) ev2.symm ?_
  refine lv_aload_n hx hb d_L_law_1416 rfl (lv_at hl 2 rfl) ?_
  refine lv_iload hx hb d_L_law_1417 (lv_at hl 1 rfl) ?_
  refine lv_iconst (v := 4) hx hb d_L_law_1419 (by decide) ?_
  refine lv_iadd hx hb d_L_law_1420 ?_
  refine g_eqi (y := nI (i + 4)) (nI_add i 4) ?_
  refine s_ld C hX hbl hbA hS (j := (i + 4)) (by omega) (by omega) d_L_law_1421 ?_
  refine g_eqi (y := w4) ew4.symm ?_
  refine j_calli (g_runV C hl.1 (ct_M_life fm y ca b hok th bc cp hm w1 v2 w4 r9 b1 (fun hI9 hN9 => lp_K hlp hI9 hN9) _) (cx_V C 3 wd_709 wd_710 wd_711 wd_3 wd_712 rfl rfl (by decide +kernel) ⟨Nat.le_of_ble_eq_true rfl, Nat.le_of_ble_eq_true rfl⟩) hP2.left oy rfl rfl rfl (Nat.le_of_ble_eq_true rfl) d_L_law_1422 ⟨by show cells + 2 + 0 ≤ 601024; omega, by show slots + 12 + 0 ≤ 7293033; omega⟩) hd.symm hP2 hS hA0 (fun r2 fm1 H locs hq hd hP hS => ?_)
  obtain ⟨th2, b2, bc2, cp2, hm2, hmp⟩ := hq
  obtain ⟨hth, hb2, hdone⟩ := lp_mp hlp hmp
  rw [hth, hb2] at hm2
  obtain ⟨ys1, oy1⟩ := mS_y hm2
  refine lv_istore (lv' := [(6, .int r2), (5, .int k9), (4, .int (nI i)), (0, .ref b0), (1, .ref x), (2, .ref y), (3, .ref o)]) hx hb d_L_law_1425 hl (by decide) rfl (fun ls hl => ?_)
  refine lv_aload_n hx hb d_L_law_1427 rfl (lv_at hl 5 rfl) ?_
  refine j_calli (g_runV C hl.1 (ct_M_thrown fm1 y ca b1 hok1 k9 bc2 cp2 hm2 _) (cx_V C 0 wd_580 wd_581 wd_582 wd_3 wd_583 rfl rfl (by decide +kernel) ⟨Nat.le_of_ble_eq_true rfl, Nat.le_of_ble_eq_true rfl⟩) hP.left oy1 rfl rfl rfl (Nat.le_of_ble_eq_true rfl) d_L_law_1428 ⟨by show cells + 2 + 0 + 0 ≤ 601024; omega, by show slots + 12 + 0 + 0 ≤ 7293033; omega⟩) hd hP hS hA0 (fun r3 fm2 H locs hq hd hP hS => ?_)
  obtain ⟨hr3, hu3⟩ := hq
  rw [hu3] at hd hP
  refine g_eqi (y := k9) hr3 ?_
  have oo1 : hj fx1 (hc1 o (aL G 1 g1)) o = some (aL G 1 g1) := (hj_r ho1).trans hc1_s
  have oo : hj fm1 (hj fx1 (hc1 o (aL G 1 g1))) o = some (aL G 1 g1) := (hj_r (dj_at hd oo1)).trans oo1
  refine lv_iload hx hb d_L_law_1431 (lv_at hl 1 rfl) ?_
  refine lv_icmp_eq (tgt := 1438) hx hb d_L_law_1433 (by decide) (fun c_1433 => ?_) (fun c_1433 => ?_)
  · refine lv_iload hx hb d_L_law_1438 (lv_at hl 1 rfl) ?_
    refine lv_if_ne (tgt := 1462) hx hb d_L_law_1440 (by decide) (fun c_1440 => ?_) (fun c_1440 => ?_)
    · refine lv_goto (tgt := 2120) hx hb d_L_law_1462 (by decide) ?_
      refine W.widen (k := cells + 15) (n := slots + 400) (by show cells + 2 + 0 + 0 ≤ cells + 15; omega) (by show slots + 12 + 0 + 0 ≤ slots + 400; omega) ?_
      exact kk _ _ _ ⟨fx1, fm1, g1, a1, b1, k9, bc2, cp2, hk1, hm2, ho1, hd.symm, by rw [hj_comm hd.symm]; exact hP⟩ hS (lv_sub hl [2, 3, 4, 5, 6] rfl)
    · obtain ⟨⟨hK9, hg9⟩, hr9⟩ := hdone c_1440
      refine lv_aload_n hx hb d_L_law_1443 rfl (lv_at hl 6 rfl) ?_
      refine lv_iconst (v := 0) hx hb d_L_law_1444 (by decide) ?_
      refine g_laldN C hP oo (j := 0) (by decide) (by decide) d_L_law_1445 ?_
      refine g_eql (y := eb r9) (hg9) ?_
      refine lv_iload hx hb d_L_law_1446 (lv_at hl 0 rfl) ?_
      refine lv_if_eq (tgt := 1455) hx hb d_L_law_1448 (by decide) (fun c_1448 => ?_) (fun c_1448 => ?_)
      · refine lv_lconst (v := 0) hx hb d_L_law_1455 (by decide) ?_
        refine W.lcmp hx hb d_L_law_1456 ?_
        refine lv_if_eq (tgt := 1462) hx hb d_L_law_1457 (by decide) (fun c_1457 => ?_) (fun c_1457 => ?_)
        · have c_1457 := (lg_cmp_eq _ _).mp c_1457
          refine lv_goto (tgt := 2120) hx hb d_L_law_1462 (by decide) ?_
          refine W.widen (k := cells + 15) (n := slots + 400) (by show cells + 2 + 0 + 0 ≤ cells + 15; omega) (by show slots + 12 + 0 + 0 ≤ slots + 400; omega) ?_
          exact kk _ _ _ ⟨fx1, fm1, g1, a1, b1, k9, bc2, cp2, hk1, hm2, ho1, hd.symm, by rw [hj_comm hd.symm]; exact hP⟩ hS (lv_sub hl [2, 3, 4, 5, 6] rfl)
        · have c_1457 := fun z => c_1457 ((lg_cmp_eq _ _).mpr z)
          exact absurd (by first | exact eb_t (hr9.symm.trans c_1448) | exact eb_f (fun z => c_1448 (hr9.trans z))) c_1457
      · refine lv_lconst (v := 1) hx hb d_L_law_1451 (by decide) ?_
        refine lv_goto (tgt := 1456) hx hb d_L_law_1452 (by decide) ?_
        refine W.lcmp hx hb d_L_law_1456 ?_
        refine lv_if_eq (tgt := 1462) hx hb d_L_law_1457 (by decide) (fun c_1457 => ?_) (fun c_1457 => ?_)
        · have c_1457 := (lg_cmp_eq _ _).mp c_1457
          refine lv_goto (tgt := 2120) hx hb d_L_law_1462 (by decide) ?_
          refine W.widen (k := cells + 15) (n := slots + 400) (by show cells + 2 + 0 + 0 ≤ cells + 15; omega) (by show slots + 12 + 0 + 0 ≤ slots + 400; omega) ?_
          exact kk _ _ _ ⟨fx1, fm1, g1, a1, b1, k9, bc2, cp2, hk1, hm2, ho1, hd.symm, by rw [hj_comm hd.symm]; exact hP⟩ hS (lv_sub hl [2, 3, 4, 5, 6] rfl)
        · have c_1457 := fun z => c_1457 ((lg_cmp_eq _ _).mpr z)
          exact absurd (by first | exact eb_t (hr9.symm.trans c_1448) | exact eb_f (fun z => c_1448 (hr9.trans z))) c_1457
  · exact absurd rfl c_1433
set_option maxHeartbeats 4000000 in
set_option maxRecDepth 100000 in
theorem law_state {G : hG} {sa : xS} {hw : Cond} {p : Program} {l : Launch} {e : Env} {s : State} {m : MethodId} {below : List Frame} {meth : Method} {c : Code} {Q : State → Prop} {b0 L : Nat} {xs : Nat → Int32} (hl0 : l.stackTraces = false) (C : hC G R_L (hw :: bw) code 8 ret p s m #[Value.ref b0] meth c) (hN : xN sa s) (hZ : xZ (lA s) s s.heap) (hNc : va_Nc eA eI s) (hX : va_X b0 L xs s s.heap) (hbl : b0 < s.heap.size) (hL : L ≤ 5120)
    {i cells slots x y o : Nat} {ca : Nat → Nat} {H : Heap} {locs : List Loc} {ls : Array Slot} (hi : i + 10 ≤ L) (hc9 : cells + 15 ≤ 601024) (hs9 : slots + 400 ≤ 7293033) (hI : LI G (lA s) x y o ca H) (hS : va_S (lA s) s.heap H locs) (hl : lv_has ls 8 [(4, .int (nI i)), (0, .ref b0), (1, .ref x), (2, .ref y), (3, .ref o)])
    (kk : ∀ (H1 : Heap) (locs1 : List Loc) (ls1 : Array Slot), LI G (lA s) x y o ca H1 → va_S (lA s) s.heap H1 locs1 → lv_has ls1 8 [(4, .int (nI i)), (0, .ref b0), (1, .ref x), (2, .ref y), (3, .ref o)] → W p l e room_1 s m #[Value.ref b0] below meth c H1 locs1 (cells + 15) (slots + 400) Q (F0 m 2120 ls1 [])) : W p l e room_1 s m #[Value.ref b0] below meth c H locs cells slots Q (F0 m 1465 ls []) := by
  obtain ⟨hx, hb, hml, hown, -, -, -, -⟩ := id C
  have hbA : ¬ lA s b0 := Nat.not_le.mpr hbl
  have hA0 : ∀ q, s.heap.size ≤ q → lA s q := fun _ h => h
  obtain ⟨fx, fm, g, a, b, th, bc, cp, hk, hm, ho, hd, hP⟩ := hI
  obtain ⟨ys, oy⟩ := mS_y hm
  have hok : bOK b := hk.2.2.2.2
  refine lv_aload_n hx hb d_L_law_1465 rfl (lv_at hl 2 rfl) ?_
  refine lv_aload_n hx hb d_L_law_1466 rfl (lv_at hl 1 rfl) ?_
  refine lv_iload hx hb d_L_law_1467 (lv_at hl 0 rfl) ?_
  refine lv_iconst (v := 1) hx hb d_L_law_1469 (by decide) ?_
  refine lv_iadd hx hb d_L_law_1470 ?_
  refine g_eqi (y := nI (i + 1)) (nI_add i 1) ?_
  refine s_ld C hX hbl hbA hS (j := (i + 1)) (by omega) (by omega) d_L_law_1471 ?_
  obtain ⟨w1, ew1⟩ : ∃ z99 : Int32, z99 = xs (i + 1) := ⟨_, rfl⟩
  refine g_eqi (y := w1) ew1.symm ?_
  refine lv_aload_n hx hb d_L_law_1472 rfl (lv_at hl 1 rfl) ?_
  refine lv_iload hx hb d_L_law_1473 (lv_at hl 0 rfl) ?_
  refine lv_iconst (v := 2) hx hb d_L_law_1475 (by decide) ?_
  refine lv_iadd hx hb d_L_law_1476 ?_
  refine g_eqi (y := nI (i + 2)) (nI_add i 2) ?_
  refine s_ld C hX hbl hbA hS (j := (i + 2)) (by omega) (by omega) d_L_law_1477 ?_
  obtain ⟨w2, ew2⟩ : ∃ z99 : Int32, z99 = xs (i + 2) := ⟨_, rfl⟩
  refine g_eqi (y := w2) ew2.symm ?_
  refine lv_i2l (v := w2.toInt64) hx hb d_L_law_1478 rfl ?_
  refine lv_bipush (v := 32) hx hb d_L_law_1479 (by decide) ?_
  refine lv_lshl (v := w2.toInt64 <<< ((32 : Int32).toInt64 &&& 63)) hx hb d_L_law_1481 rfl ?_
  refine lv_aload_n hx hb d_L_law_1482 rfl (lv_at hl 1 rfl) ?_
  refine lv_iload hx hb d_L_law_1483 (lv_at hl 0 rfl) ?_
  refine lv_iconst (v := 3) hx hb d_L_law_1485 (by decide) ?_
  refine lv_iadd hx hb d_L_law_1486 ?_
  refine g_eqi (y := nI (i + 3)) (nI_add i 3) ?_
  refine s_ld C hX hbl hbA hS (j := (i + 3)) (by omega) (by omega) d_L_law_1487 ?_
  obtain ⟨w3, ew3⟩ : ∃ z99 : Int32, z99 = xs (i + 3) := ⟨_, rfl⟩
  refine g_eqi (y := w3) ew3.symm ?_
  refine lv_i2l (v := w3.toInt64) hx hb d_L_law_1488 rfl ?_
  refine lv_ldc2 hx hb hown (C.w wd_742) d_L_law_1489 ?_
  refine lv_land hx hb d_L_law_1492 ?_
  refine lv_lor hx hb d_L_law_1493 ?_
  obtain ⟨v2, ev2⟩ : ∃ z99 : Int64, z99 = (w2.toInt64 <<< ((32 : Int32).toInt64 &&& 63)) ||| (w3.toInt64 &&& 4294967295) := ⟨_, rfl⟩
  refine g_eql (y := v2) ev2.symm ?_
  refine lv_aload_n hx hb d_L_law_1494 rfl (lv_at hl 4 rfl) ?_
  refine j_calli (l_runS C hN hZ hNc hl.1 (ct_L_state (sa := sa) hl0 fx x a b hk o g ho w1 v2 _) (cx_SW C 4 wd_408 wd_409 wd_0 wd_410 rfl rfl (by decide +kernel) ⟨Nat.le_of_ble_eq_true rfl, Nat.le_of_ble_eq_true rfl⟩) hP.left hS hA0 rfl rfl (Nat.le_of_ble_eq_true rfl) d_L_law_1495 ⟨by show cells + 1 ≤ 601024; omega, by show slots + 6 ≤ 7293033; omega⟩) hd hP hS hA0 (fun k9 f1 H locs hq hd hP hS => ?_)
  obtain ⟨fx1, g1, a1, b1, r9, hu9, ho1, hk1, hlp⟩ := hq
  rw [hu9] at hd hP
  have hok1 : bOK b1 := hk1.2.2.2.2
  have hP2 : hH G (lA s) (hj fm (hj fx1 (hc1 o (aL G 1 g1)))) H := by rw [← hj_comm hd]; exact hP
  refine lv_istore (lv' := [(5, .int k9), (4, .int (nI i)), (0, .ref b0), (1, .ref x), (2, .ref y), (3, .ref o)]) hx hb d_L_law_1498 hl (by decide) rfl (fun ls hl => ?_)
  refine lv_aload_n hx hb d_L_law_1500 rfl (lv_at hl 4 rfl) ?_
  refine lv_aload_n hx hb d_L_law_1501 rfl (lv_at hl 2 rfl) ?_
  refine lv_iload hx hb d_L_law_1502 (lv_at hl 1 rfl) ?_
  refine lv_iconst (v := 1) hx hb d_L_law_1504 (by decide) ?_
  refine lv_iadd hx hb d_L_law_1505 ?_
  refine g_eqi (y := nI (i + 1)) (nI_add i 1) ?_
  refine s_ld C hX hbl hbA hS (j := (i + 1)) (by omega) (by omega) d_L_law_1506 ?_
  refine g_eqi (y := w1) ew1.symm ?_
  refine lv_aload_n hx hb d_L_law_1507 rfl (lv_at hl 2 rfl) ?_
  refine lv_iload hx hb d_L_law_1508 (lv_at hl 1 rfl) ?_
  refine lv_iconst (v := 2) hx hb d_L_law_1510 (by decide) ?_
  refine lv_iadd hx hb d_L_law_1511 ?_
  refine g_eqi (y := nI (i + 2)) (nI_add i 2) ?_
  refine s_ld C hX hbl hbA hS (j := (i + 2)) (by omega) (by omega) d_L_law_1512 ?_
  refine g_eqi (y := w2) ew2.symm ?_
  refine lv_i2l (v := w2.toInt64) hx hb d_L_law_1513 rfl ?_
  refine lv_bipush (v := 32) hx hb d_L_law_1514 (by decide) ?_
  refine lv_lshl (v := w2.toInt64 <<< ((32 : Int32).toInt64 &&& 63)) hx hb d_L_law_1516 rfl ?_
  refine lv_aload_n hx hb d_L_law_1517 rfl (lv_at hl 2 rfl) ?_
  refine lv_iload hx hb d_L_law_1518 (lv_at hl 1 rfl) ?_
  refine lv_iconst (v := 3) hx hb d_L_law_1520 (by decide) ?_
  refine lv_iadd hx hb d_L_law_1521 ?_
  refine g_eqi (y := nI (i + 3)) (nI_add i 3) ?_
  refine s_ld C hX hbl hbA hS (j := (i + 3)) (by omega) (by omega) d_L_law_1522 ?_
  refine g_eqi (y := w3) ew3.symm ?_
  refine lv_i2l (v := w3.toInt64) hx hb d_L_law_1523 rfl ?_
  refine lv_ldc2 hx hb hown (C.w wd_742) d_L_law_1524 ?_
  refine lv_land hx hb d_L_law_1527 ?_
  refine lv_lor hx hb d_L_law_1528 ?_
  refine g_eql (y := v2) ev2.symm ?_
  refine j_calli (g_runV C hl.1 (ct_M_state fm y ca b hok th bc cp hm w1 v2 r9 b1 (fun hI9 hN9 => lp_K hlp hI9 hN9) _) (cx_V C 2 wd_713 wd_714 wd_715 wd_3 wd_716 rfl rfl (by decide +kernel) ⟨Nat.le_of_ble_eq_true rfl, Nat.le_of_ble_eq_true rfl⟩) hP2.left oy rfl rfl rfl (Nat.le_of_ble_eq_true rfl) d_L_law_1529 ⟨by show cells + 1 + 0 ≤ 601024; omega, by show slots + 6 + 0 ≤ 7293033; omega⟩) hd.symm hP2 hS hA0 (fun r2 fm1 H locs hq hd hP hS => ?_)
  obtain ⟨th2, b2, bc2, cp2, hm2, hmp⟩ := hq
  obtain ⟨hth, hb2, hdone⟩ := lp_mp hlp hmp
  rw [hth, hb2] at hm2
  obtain ⟨ys1, oy1⟩ := mS_y hm2
  refine lv_istore (lv' := [(6, .int r2), (5, .int k9), (4, .int (nI i)), (0, .ref b0), (1, .ref x), (2, .ref y), (3, .ref o)]) hx hb d_L_law_1532 hl (by decide) rfl (fun ls hl => ?_)
  refine lv_aload_n hx hb d_L_law_1534 rfl (lv_at hl 5 rfl) ?_
  refine j_calli (g_runV C hl.1 (ct_M_thrown fm1 y ca b1 hok1 k9 bc2 cp2 hm2 _) (cx_V C 0 wd_580 wd_581 wd_582 wd_3 wd_583 rfl rfl (by decide +kernel) ⟨Nat.le_of_ble_eq_true rfl, Nat.le_of_ble_eq_true rfl⟩) hP.left oy1 rfl rfl rfl (Nat.le_of_ble_eq_true rfl) d_L_law_1535 ⟨by show cells + 1 + 0 + 0 ≤ 601024; omega, by show slots + 6 + 0 + 0 ≤ 7293033; omega⟩) hd hP hS hA0 (fun r3 fm2 H locs hq hd hP hS => ?_)
  obtain ⟨hr3, hu3⟩ := hq
  rw [hu3] at hd hP
  refine g_eqi (y := k9) hr3 ?_
  have oo1 : hj fx1 (hc1 o (aL G 1 g1)) o = some (aL G 1 g1) := (hj_r ho1).trans hc1_s
  have oo : hj fm1 (hj fx1 (hc1 o (aL G 1 g1))) o = some (aL G 1 g1) := (hj_r (dj_at hd oo1)).trans oo1
  refine lv_iload hx hb d_L_law_1538 (lv_at hl 1 rfl) ?_
  refine lv_icmp_eq (tgt := 1545) hx hb d_L_law_1540 (by decide) (fun c_1540 => ?_) (fun c_1540 => ?_)
  · refine lv_iload hx hb d_L_law_1545 (lv_at hl 1 rfl) ?_
    refine lv_if_ne (tgt := 1562) hx hb d_L_law_1547 (by decide) (fun c_1547 => ?_) (fun c_1547 => ?_)
    · refine lv_goto (tgt := 2120) hx hb d_L_law_1562 (by decide) ?_
      refine W.widen (k := cells + 15) (n := slots + 400) (by show cells + 1 + 0 + 0 ≤ cells + 15; omega) (by show slots + 6 + 0 + 0 ≤ slots + 400; omega) ?_
      exact kk _ _ _ ⟨fx1, fm1, g1, a1, b1, k9, bc2, cp2, hk1, hm2, ho1, hd.symm, by rw [hj_comm hd.symm]; exact hP⟩ hS (lv_sub hl [2, 3, 4, 5, 6] rfl)
    · obtain ⟨⟨hK9, hg9⟩, hr9⟩ := hdone c_1547
      refine lv_aload_n hx hb d_L_law_1550 rfl (lv_at hl 6 rfl) ?_
      refine lv_iconst (v := 0) hx hb d_L_law_1551 (by decide) ?_
      refine g_laldN C hP oo (j := 0) (by decide) (by decide) d_L_law_1552 ?_
      refine g_eql (y := r9.toInt64) (hg9) ?_
      refine lv_iload hx hb d_L_law_1553 (lv_at hl 0 rfl) ?_
      refine lv_i2l (v := r2.toInt64) hx hb d_L_law_1555 rfl ?_
      refine W.lcmp hx hb d_L_law_1556 ?_
      refine lv_if_eq (tgt := 1562) hx hb d_L_law_1557 (by decide) (fun c_1557 => ?_) (fun c_1557 => ?_)
      · have c_1557 := (lg_cmp_eq _ _).mp c_1557
        refine lv_goto (tgt := 2120) hx hb d_L_law_1562 (by decide) ?_
        refine W.widen (k := cells + 15) (n := slots + 400) (by show cells + 1 + 0 + 0 ≤ cells + 15; omega) (by show slots + 6 + 0 + 0 ≤ slots + 400; omega) ?_
        exact kk _ _ _ ⟨fx1, fm1, g1, a1, b1, k9, bc2, cp2, hk1, hm2, ho1, hd.symm, by rw [hj_comm hd.symm]; exact hP⟩ hS (lv_sub hl [2, 3, 4, 5, 6] rfl)
      · have c_1557 := fun z => c_1557 ((lg_cmp_eq _ _).mpr z)
        exact absurd (by rw [hr9]) c_1557
  · exact absurd rfl c_1540
