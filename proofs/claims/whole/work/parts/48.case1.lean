/-! The law: its calls (1). -/
set_option maxHeartbeats 4000000 in
set_option maxRecDepth 100000 in
theorem law_part {G : hG} {sa : xS} {hw : Cond} {p : Program} {l : Launch} {e : Env} {s : State} {m : MethodId} {below : List Frame} {meth : Method} {c : Code} {Q : State → Prop} {b0 L : Nat} {xs : Nat → Int32} (hl0 : l.stackTraces = false) (C : hC G R_L (hw :: bw) code 8 ret p s m #[Value.ref b0] meth c) (hN : xN sa s) (hZ : xZ (lA s) s s.heap) (hNc : va_Nc eA eI s) (hX : va_X b0 L xs s s.heap) (hbl : b0 < s.heap.size) (hL : L ≤ 5120)
    {i cells slots x y o : Nat} {ca : Nat → Nat} {H : Heap} {locs : List Loc} {ls : Array Slot} (hi : i + 10 ≤ L) (hc9 : cells + 15 ≤ 601024) (hs9 : slots + 400 ≤ 7293033) (hI : LI G (lA s) x y o ca H) (hS : va_S (lA s) s.heap H locs) (hl : lv_has ls 8 [(4, .int (nI i)), (0, .ref b0), (1, .ref x), (2, .ref y), (3, .ref o)])
    (kk : ∀ (H1 : Heap) (locs1 : List Loc) (ls1 : Array Slot), LI G (lA s) x y o ca H1 → va_S (lA s) s.heap H1 locs1 → lv_has ls1 8 [(4, .int (nI i)), (0, .ref b0), (1, .ref x), (2, .ref y), (3, .ref o)] → W p l e room_1 s m #[Value.ref b0] below meth c H1 locs1 (cells + 15) (slots + 400) Q (F0 m 2120 ls1 [])) : W p l e room_1 s m #[Value.ref b0] below meth c H locs cells slots Q (F0 m 136 ls []) := by
  obtain ⟨hx, hb, hml, hown, -, -, -, -⟩ := id C
  have hbA : ¬ lA s b0 := Nat.not_le.mpr hbl
  have hA0 : ∀ q, s.heap.size ≤ q → lA s q := fun _ h => h
  obtain ⟨fx, fm, g, a, b, th, bc, cp, hk, hm, ho, hd, hP⟩ := hI
  obtain ⟨ys, oy⟩ := mS_y hm
  have hok : bOK b := hk.2.2.2.2
  refine lv_aload_n hx hb d_L_law_136 rfl (lv_at hl 2 rfl) ?_
  refine lv_aload_n hx hb d_L_law_137 rfl (lv_at hl 1 rfl) ?_
  refine lv_iload hx hb d_L_law_138 (lv_at hl 0 rfl) ?_
  refine lv_iconst (v := 1) hx hb d_L_law_140 (by decide) ?_
  refine lv_iadd hx hb d_L_law_141 ?_
  refine g_eqi (y := nI (i + 1)) (nI_add i 1) ?_
  refine s_ld C hX hbl hbA hS (j := (i + 1)) (by omega) (by omega) d_L_law_142 ?_
  obtain ⟨w1, ew1⟩ : ∃ z99 : Int32, z99 = xs (i + 1) := ⟨_, rfl⟩
  refine g_eqi (y := w1) ew1.symm ?_
  refine lv_aload_n hx hb d_L_law_143 rfl (lv_at hl 4 rfl) ?_
  refine j_calli (l_runS C hN hZ hNc hl.1 (ct_L_part (sa := sa) hl0 fx x a b hk o g ho w1 _) (cx_SW C 3 wd_66 wd_67 wd_0 wd_68 rfl rfl (by decide +kernel) ⟨Nat.le_of_ble_eq_true rfl, Nat.le_of_ble_eq_true rfl⟩) hP.left hS hA0 rfl rfl (Nat.le_of_ble_eq_true rfl) d_L_law_144 ⟨by show cells + 14 ≤ 601024; omega, by show slots + 110 ≤ 7293033; omega⟩) hd hP hS hA0 (fun k9 f1 H locs hq hd hP hS => ?_)
  obtain ⟨fx1, g1, a1, b1, r9, hu9, ho1, hk1, hlp⟩ := hq
  rw [hu9] at hd hP
  have hok1 : bOK b1 := hk1.2.2.2.2
  have hP2 : hH G (lA s) (hj fm (hj fx1 (hc1 o (aL G 1 g1)))) H := by rw [← hj_comm hd]; exact hP
  refine lv_istore (lv' := [(5, .int k9), (4, .int (nI i)), (0, .ref b0), (1, .ref x), (2, .ref y), (3, .ref o)]) hx hb d_L_law_147 hl (by decide) rfl (fun ls hl => ?_)
  refine lv_aload_n hx hb d_L_law_149 rfl (lv_at hl 4 rfl) ?_
  refine lv_aload_n hx hb d_L_law_150 rfl (lv_at hl 2 rfl) ?_
  refine lv_iload hx hb d_L_law_151 (lv_at hl 1 rfl) ?_
  refine lv_iconst (v := 1) hx hb d_L_law_153 (by decide) ?_
  refine lv_iadd hx hb d_L_law_154 ?_
  refine g_eqi (y := nI (i + 1)) (nI_add i 1) ?_
  refine s_ld C hX hbl hbA hS (j := (i + 1)) (by omega) (by omega) d_L_law_155 ?_
  refine g_eqi (y := w1) ew1.symm ?_
  refine j_calli (g_runV C hl.1 (ct_M_part fm y ca b hok th bc cp hm w1 r9 b1 (fun hI9 hN9 => lp_K hlp hI9 hN9) _) (cx_V C 1 wd_584 wd_585 wd_586 wd_3 wd_587 rfl rfl (by decide +kernel) ⟨Nat.le_of_ble_eq_true rfl, Nat.le_of_ble_eq_true rfl⟩) hP2.left oy rfl rfl rfl (Nat.le_of_ble_eq_true rfl) d_L_law_156 ⟨by show cells + 14 + 0 ≤ 601024; omega, by show slots + 110 + 0 ≤ 7293033; omega⟩) hd.symm hP2 hS hA0 (fun r2 fm1 H locs hq hd hP hS => ?_)
  obtain ⟨th2, b2, bc2, cp2, hm2, hmp⟩ := hq
  obtain ⟨hth, hb2, hdone⟩ := lp_mp hlp hmp
  rw [hth, hb2] at hm2
  obtain ⟨ys1, oy1⟩ := mS_y hm2
  refine lv_istore (lv' := [(6, .int r2), (5, .int k9), (4, .int (nI i)), (0, .ref b0), (1, .ref x), (2, .ref y), (3, .ref o)]) hx hb d_L_law_159 hl (by decide) rfl (fun ls hl => ?_)
  refine lv_aload_n hx hb d_L_law_161 rfl (lv_at hl 5 rfl) ?_
  refine j_calli (g_runV C hl.1 (ct_M_thrown fm1 y ca b1 hok1 k9 bc2 cp2 hm2 _) (cx_V C 0 wd_580 wd_581 wd_582 wd_3 wd_583 rfl rfl (by decide +kernel) ⟨Nat.le_of_ble_eq_true rfl, Nat.le_of_ble_eq_true rfl⟩) hP.left oy1 rfl rfl rfl (Nat.le_of_ble_eq_true rfl) d_L_law_162 ⟨by show cells + 14 + 0 + 0 ≤ 601024; omega, by show slots + 110 + 0 + 0 ≤ 7293033; omega⟩) hd hP hS hA0 (fun r3 fm2 H locs hq hd hP hS => ?_)
  obtain ⟨hr3, hu3⟩ := hq
  rw [hu3] at hd hP
  refine g_eqi (y := k9) hr3 ?_
  have oo1 : hj fx1 (hc1 o (aL G 1 g1)) o = some (aL G 1 g1) := (hj_r ho1).trans hc1_s
  have oo : hj fm1 (hj fx1 (hc1 o (aL G 1 g1))) o = some (aL G 1 g1) := (hj_r (dj_at hd oo1)).trans oo1
  refine lv_iload hx hb d_L_law_165 (lv_at hl 1 rfl) ?_
  refine lv_icmp_eq (tgt := 172) hx hb d_L_law_167 (by decide) (fun c_167 => ?_) (fun c_167 => ?_)
  · refine lv_iload hx hb d_L_law_172 (lv_at hl 1 rfl) ?_
    refine lv_if_ne (tgt := 189) hx hb d_L_law_174 (by decide) (fun c_174 => ?_) (fun c_174 => ?_)
    · refine lv_goto (tgt := 2120) hx hb d_L_law_189 (by decide) ?_
      refine W.widen (k := cells + 15) (n := slots + 400) (by show cells + 14 + 0 + 0 ≤ cells + 15; omega) (by show slots + 110 + 0 + 0 ≤ slots + 400; omega) ?_
      exact kk _ _ _ ⟨fx1, fm1, g1, a1, b1, k9, bc2, cp2, hk1, hm2, ho1, hd.symm, by rw [hj_comm hd.symm]; exact hP⟩ hS (lv_sub hl [2, 3, 4, 5, 6] rfl)
    · obtain ⟨⟨hK9, hg9⟩, hr9⟩ := hdone c_174
      refine lv_aload_n hx hb d_L_law_177 rfl (lv_at hl 6 rfl) ?_
      refine lv_iconst (v := 0) hx hb d_L_law_178 (by decide) ?_
      refine g_laldN C hP oo (j := 0) (by decide) (by decide) d_L_law_179 ?_
      refine g_eql (y := r9.toInt64) (hg9) ?_
      refine lv_iload hx hb d_L_law_180 (lv_at hl 0 rfl) ?_
      refine lv_i2l (v := r2.toInt64) hx hb d_L_law_182 rfl ?_
      refine W.lcmp hx hb d_L_law_183 ?_
      refine lv_if_eq (tgt := 189) hx hb d_L_law_184 (by decide) (fun c_184 => ?_) (fun c_184 => ?_)
      · have c_184 := (lg_cmp_eq _ _).mp c_184
        refine lv_goto (tgt := 2120) hx hb d_L_law_189 (by decide) ?_
        refine W.widen (k := cells + 15) (n := slots + 400) (by show cells + 14 + 0 + 0 ≤ cells + 15; omega) (by show slots + 110 + 0 + 0 ≤ slots + 400; omega) ?_
        exact kk _ _ _ ⟨fx1, fm1, g1, a1, b1, k9, bc2, cp2, hk1, hm2, ho1, hd.symm, by rw [hj_comm hd.symm]; exact hP⟩ hS (lv_sub hl [2, 3, 4, 5, 6] rfl)
      · have c_184 := fun z => c_184 ((lg_cmp_eq _ _).mpr z)
        exact absurd (by rw [hr9]) c_184
  · exact absurd rfl c_167
set_option maxHeartbeats 4000000 in
set_option maxRecDepth 100000 in
theorem law_maker {G : hG} {sa : xS} {hw : Cond} {p : Program} {l : Launch} {e : Env} {s : State} {m : MethodId} {below : List Frame} {meth : Method} {c : Code} {Q : State → Prop} {b0 L : Nat} {xs : Nat → Int32} (hl0 : l.stackTraces = false) (C : hC G R_L (hw :: bw) code 8 ret p s m #[Value.ref b0] meth c) (hN : xN sa s) (hZ : xZ (lA s) s s.heap) (hNc : va_Nc eA eI s) (hX : va_X b0 L xs s s.heap) (hbl : b0 < s.heap.size) (hL : L ≤ 5120)
    {i cells slots x y o : Nat} {ca : Nat → Nat} {H : Heap} {locs : List Loc} {ls : Array Slot} (hi : i + 10 ≤ L) (hc9 : cells + 15 ≤ 601024) (hs9 : slots + 400 ≤ 7293033) (hI : LI G (lA s) x y o ca H) (hS : va_S (lA s) s.heap H locs) (hl : lv_has ls 8 [(4, .int (nI i)), (0, .ref b0), (1, .ref x), (2, .ref y), (3, .ref o)])
    (kk : ∀ (H1 : Heap) (locs1 : List Loc) (ls1 : Array Slot), LI G (lA s) x y o ca H1 → va_S (lA s) s.heap H1 locs1 → lv_has ls1 8 [(4, .int (nI i)), (0, .ref b0), (1, .ref x), (2, .ref y), (3, .ref o)] → W p l e room_1 s m #[Value.ref b0] below meth c H1 locs1 (cells + 15) (slots + 400) Q (F0 m 2120 ls1 [])) : W p l e room_1 s m #[Value.ref b0] below meth c H locs cells slots Q (F0 m 192 ls []) := by
  obtain ⟨hx, hb, hml, hown, -, -, -, -⟩ := id C
  have hbA : ¬ lA s b0 := Nat.not_le.mpr hbl
  have hA0 : ∀ q, s.heap.size ≤ q → lA s q := fun _ h => h
  obtain ⟨fx, fm, g, a, b, th, bc, cp, hk, hm, ho, hd, hP⟩ := hI
  obtain ⟨ys, oy⟩ := mS_y hm
  have hok : bOK b := hk.2.2.2.2
  refine lv_aload_n hx hb d_L_law_192 rfl (lv_at hl 2 rfl) ?_
  refine lv_aload_n hx hb d_L_law_193 rfl (lv_at hl 1 rfl) ?_
  refine lv_iload hx hb d_L_law_194 (lv_at hl 0 rfl) ?_
  refine lv_iconst (v := 1) hx hb d_L_law_196 (by decide) ?_
  refine lv_iadd hx hb d_L_law_197 ?_
  refine g_eqi (y := nI (i + 1)) (nI_add i 1) ?_
  refine s_ld C hX hbl hbA hS (j := (i + 1)) (by omega) (by omega) d_L_law_198 ?_
  obtain ⟨w1, ew1⟩ : ∃ z99 : Int32, z99 = xs (i + 1) := ⟨_, rfl⟩
  refine g_eqi (y := w1) ew1.symm ?_
  refine lv_aload_n hx hb d_L_law_199 rfl (lv_at hl 1 rfl) ?_
  refine lv_iload hx hb d_L_law_200 (lv_at hl 0 rfl) ?_
  refine lv_iconst (v := 2) hx hb d_L_law_202 (by decide) ?_
  refine lv_iadd hx hb d_L_law_203 ?_
  refine g_eqi (y := nI (i + 2)) (nI_add i 2) ?_
  refine s_ld C hX hbl hbA hS (j := (i + 2)) (by omega) (by omega) d_L_law_204 ?_
  obtain ⟨w2, ew2⟩ : ∃ z99 : Int32, z99 = xs (i + 2) := ⟨_, rfl⟩
  refine g_eqi (y := w2) ew2.symm ?_
  refine lv_aload_n hx hb d_L_law_205 rfl (lv_at hl 4 rfl) ?_
  refine j_calli (l_runS C hN hZ hNc hl.1 (ct_L_maker (sa := sa) hl0 fx x a b hk o g ho w1 w2 _) (cx_SW C 4 wd_223 wd_224 wd_0 wd_225 rfl rfl (by decide +kernel) ⟨Nat.le_of_ble_eq_true rfl, Nat.le_of_ble_eq_true rfl⟩) hP.left hS hA0 rfl rfl (Nat.le_of_ble_eq_true rfl) d_L_law_206 ⟨by show cells + 2 ≤ 601024; omega, by show slots + 12 ≤ 7293033; omega⟩) hd hP hS hA0 (fun k9 f1 H locs hq hd hP hS => ?_)
  obtain ⟨fx1, g1, a1, b1, r9, hu9, ho1, hk1, hlp⟩ := hq
  rw [hu9] at hd hP
  have hok1 : bOK b1 := hk1.2.2.2.2
  have hP2 : hH G (lA s) (hj fm (hj fx1 (hc1 o (aL G 1 g1)))) H := by rw [← hj_comm hd]; exact hP
  refine lv_istore (lv' := [(5, .int k9), (4, .int (nI i)), (0, .ref b0), (1, .ref x), (2, .ref y), (3, .ref o)]) hx hb d_L_law_209 hl (by decide) rfl (fun ls hl => ?_)
  refine lv_aload_n hx hb d_L_law_211 rfl (lv_at hl 4 rfl) ?_
  refine lv_aload_n hx hb d_L_law_212 rfl (lv_at hl 2 rfl) ?_
  refine lv_iload hx hb d_L_law_213 (lv_at hl 1 rfl) ?_
  refine lv_iconst (v := 1) hx hb d_L_law_215 (by decide) ?_
  refine lv_iadd hx hb d_L_law_216 ?_
  refine g_eqi (y := nI (i + 1)) (nI_add i 1) ?_
  refine s_ld C hX hbl hbA hS (j := (i + 1)) (by omega) (by omega) d_L_law_217 ?_
  refine g_eqi (y := w1) ew1.symm ?_
  refine lv_aload_n hx hb d_L_law_218 rfl (lv_at hl 2 rfl) ?_
  refine lv_iload hx hb d_L_law_219 (lv_at hl 1 rfl) ?_
  refine lv_iconst (v := 2) hx hb d_L_law_221 (by decide) ?_
  refine lv_iadd hx hb d_L_law_222 ?_
  refine g_eqi (y := nI (i + 2)) (nI_add i 2) ?_
  refine s_ld C hX hbl hbA hS (j := (i + 2)) (by omega) (by omega) d_L_law_223 ?_
  refine g_eqi (y := w2) ew2.symm ?_
  refine j_calli (g_runV C hl.1 (ct_M_maker fm y ca b hok th bc cp hm w1 w2 r9 b1 (fun hI9 hN9 => lp_K hlp hI9 hN9) _) (cx_V C 2 wd_589 wd_590 wd_591 wd_3 wd_592 rfl rfl (by decide +kernel) ⟨Nat.le_of_ble_eq_true rfl, Nat.le_of_ble_eq_true rfl⟩) hP2.left oy rfl rfl rfl (Nat.le_of_ble_eq_true rfl) d_L_law_224 ⟨by show cells + 2 + 0 ≤ 601024; omega, by show slots + 12 + 0 ≤ 7293033; omega⟩) hd.symm hP2 hS hA0 (fun r2 fm1 H locs hq hd hP hS => ?_)
  obtain ⟨th2, b2, bc2, cp2, hm2, hmp⟩ := hq
  obtain ⟨hth, hb2, hdone⟩ := lp_mp hlp hmp
  rw [hth, hb2] at hm2
  obtain ⟨ys1, oy1⟩ := mS_y hm2
  refine lv_istore (lv' := [(6, .int r2), (5, .int k9), (4, .int (nI i)), (0, .ref b0), (1, .ref x), (2, .ref y), (3, .ref o)]) hx hb d_L_law_227 hl (by decide) rfl (fun ls hl => ?_)
  refine lv_aload_n hx hb d_L_law_229 rfl (lv_at hl 5 rfl) ?_
  refine j_calli (g_runV C hl.1 (ct_M_thrown fm1 y ca b1 hok1 k9 bc2 cp2 hm2 _) (cx_V C 0 wd_580 wd_581 wd_582 wd_3 wd_583 rfl rfl (by decide +kernel) ⟨Nat.le_of_ble_eq_true rfl, Nat.le_of_ble_eq_true rfl⟩) hP.left oy1 rfl rfl rfl (Nat.le_of_ble_eq_true rfl) d_L_law_230 ⟨by show cells + 2 + 0 + 0 ≤ 601024; omega, by show slots + 12 + 0 + 0 ≤ 7293033; omega⟩) hd hP hS hA0 (fun r3 fm2 H locs hq hd hP hS => ?_)
  obtain ⟨hr3, hu3⟩ := hq
  rw [hu3] at hd hP
  refine g_eqi (y := k9) hr3 ?_
  have oo1 : hj fx1 (hc1 o (aL G 1 g1)) o = some (aL G 1 g1) := (hj_r ho1).trans hc1_s
  have oo : hj fm1 (hj fx1 (hc1 o (aL G 1 g1))) o = some (aL G 1 g1) := (hj_r (dj_at hd oo1)).trans oo1
  refine lv_iload hx hb d_L_law_233 (lv_at hl 1 rfl) ?_
  refine lv_icmp_eq (tgt := 240) hx hb d_L_law_235 (by decide) (fun c_235 => ?_) (fun c_235 => ?_)
  · refine lv_iload hx hb d_L_law_240 (lv_at hl 1 rfl) ?_
    refine lv_if_ne (tgt := 264) hx hb d_L_law_242 (by decide) (fun c_242 => ?_) (fun c_242 => ?_)
    · refine lv_goto (tgt := 2120) hx hb d_L_law_264 (by decide) ?_
      refine W.widen (k := cells + 15) (n := slots + 400) (by show cells + 2 + 0 + 0 ≤ cells + 15; omega) (by show slots + 12 + 0 + 0 ≤ slots + 400; omega) ?_
      exact kk _ _ _ ⟨fx1, fm1, g1, a1, b1, k9, bc2, cp2, hk1, hm2, ho1, hd.symm, by rw [hj_comm hd.symm]; exact hP⟩ hS (lv_sub hl [2, 3, 4, 5, 6] rfl)
    · obtain ⟨⟨hK9, hg9⟩, hr9⟩ := hdone c_242
      refine lv_aload_n hx hb d_L_law_245 rfl (lv_at hl 6 rfl) ?_
      refine lv_iconst (v := 0) hx hb d_L_law_246 (by decide) ?_
      refine g_laldN C hP oo (j := 0) (by decide) (by decide) d_L_law_247 ?_
      refine g_eql (y := eb r9) (hg9) ?_
      refine lv_iload hx hb d_L_law_248 (lv_at hl 0 rfl) ?_
      refine lv_if_eq (tgt := 257) hx hb d_L_law_250 (by decide) (fun c_250 => ?_) (fun c_250 => ?_)
      · refine lv_lconst (v := 0) hx hb d_L_law_257 (by decide) ?_
        refine W.lcmp hx hb d_L_law_258 ?_
        refine lv_if_eq (tgt := 264) hx hb d_L_law_259 (by decide) (fun c_259 => ?_) (fun c_259 => ?_)
        · have c_259 := (lg_cmp_eq _ _).mp c_259
          refine lv_goto (tgt := 2120) hx hb d_L_law_264 (by decide) ?_
          refine W.widen (k := cells + 15) (n := slots + 400) (by show cells + 2 + 0 + 0 ≤ cells + 15; omega) (by show slots + 12 + 0 + 0 ≤ slots + 400; omega) ?_
          exact kk _ _ _ ⟨fx1, fm1, g1, a1, b1, k9, bc2, cp2, hk1, hm2, ho1, hd.symm, by rw [hj_comm hd.symm]; exact hP⟩ hS (lv_sub hl [2, 3, 4, 5, 6] rfl)
        · have c_259 := fun z => c_259 ((lg_cmp_eq _ _).mpr z)
          exact absurd (by first | exact eb_t (hr9.symm.trans c_250) | exact eb_f (fun z => c_250 (hr9.trans z))) c_259
      · refine lv_lconst (v := 1) hx hb d_L_law_253 (by decide) ?_
        refine lv_goto (tgt := 258) hx hb d_L_law_254 (by decide) ?_
        refine W.lcmp hx hb d_L_law_258 ?_
        refine lv_if_eq (tgt := 264) hx hb d_L_law_259 (by decide) (fun c_259 => ?_) (fun c_259 => ?_)
        · have c_259 := (lg_cmp_eq _ _).mp c_259
          refine lv_goto (tgt := 2120) hx hb d_L_law_264 (by decide) ?_
          refine W.widen (k := cells + 15) (n := slots + 400) (by show cells + 2 + 0 + 0 ≤ cells + 15; omega) (by show slots + 12 + 0 + 0 ≤ slots + 400; omega) ?_
          exact kk _ _ _ ⟨fx1, fm1, g1, a1, b1, k9, bc2, cp2, hk1, hm2, ho1, hd.symm, by rw [hj_comm hd.symm]; exact hP⟩ hS (lv_sub hl [2, 3, 4, 5, 6] rfl)
        · have c_259 := fun z => c_259 ((lg_cmp_eq _ _).mpr z)
          exact absurd (by first | exact eb_t (hr9.symm.trans c_250) | exact eb_f (fun z => c_250 (hr9.trans z))) c_259
  · exact absurd rfl c_235
set_option maxHeartbeats 4000000 in
set_option maxRecDepth 100000 in
theorem law_value {G : hG} {sa : xS} {hw : Cond} {p : Program} {l : Launch} {e : Env} {s : State} {m : MethodId} {below : List Frame} {meth : Method} {c : Code} {Q : State → Prop} {b0 L : Nat} {xs : Nat → Int32} (hl0 : l.stackTraces = false) (C : hC G R_L (hw :: bw) code 8 ret p s m #[Value.ref b0] meth c) (hN : xN sa s) (hZ : xZ (lA s) s s.heap) (hNc : va_Nc eA eI s) (hX : va_X b0 L xs s s.heap) (hbl : b0 < s.heap.size) (hL : L ≤ 5120)
    {i cells slots x y o : Nat} {ca : Nat → Nat} {H : Heap} {locs : List Loc} {ls : Array Slot} (hi : i + 10 ≤ L) (hc9 : cells + 15 ≤ 601024) (hs9 : slots + 400 ≤ 7293033) (hI : LI G (lA s) x y o ca H) (hS : va_S (lA s) s.heap H locs) (hl : lv_has ls 8 [(4, .int (nI i)), (0, .ref b0), (1, .ref x), (2, .ref y), (3, .ref o)])
    (kk : ∀ (H1 : Heap) (locs1 : List Loc) (ls1 : Array Slot), LI G (lA s) x y o ca H1 → va_S (lA s) s.heap H1 locs1 → lv_has ls1 8 [(4, .int (nI i)), (0, .ref b0), (1, .ref x), (2, .ref y), (3, .ref o)] → W p l e room_1 s m #[Value.ref b0] below meth c H1 locs1 (cells + 15) (slots + 400) Q (F0 m 2120 ls1 [])) : W p l e room_1 s m #[Value.ref b0] below meth c H locs cells slots Q (F0 m 267 ls []) := by
  obtain ⟨hx, hb, hml, hown, -, -, -, -⟩ := id C
  have hbA : ¬ lA s b0 := Nat.not_le.mpr hbl
  have hA0 : ∀ q, s.heap.size ≤ q → lA s q := fun _ h => h
  obtain ⟨fx, fm, g, a, b, th, bc, cp, hk, hm, ho, hd, hP⟩ := hI
  obtain ⟨ys, oy⟩ := mS_y hm
  have hok : bOK b := hk.2.2.2.2
  refine lv_aload_n hx hb d_L_law_267 rfl (lv_at hl 2 rfl) ?_
  refine lv_aload_n hx hb d_L_law_268 rfl (lv_at hl 1 rfl) ?_
  refine lv_iload hx hb d_L_law_269 (lv_at hl 0 rfl) ?_
  refine lv_iconst (v := 1) hx hb d_L_law_271 (by decide) ?_
  refine lv_iadd hx hb d_L_law_272 ?_
  refine g_eqi (y := nI (i + 1)) (nI_add i 1) ?_
  refine s_ld C hX hbl hbA hS (j := (i + 1)) (by omega) (by omega) d_L_law_273 ?_
  obtain ⟨w1, ew1⟩ : ∃ z99 : Int32, z99 = xs (i + 1) := ⟨_, rfl⟩
  refine g_eqi (y := w1) ew1.symm ?_
  refine lv_aload_n hx hb d_L_law_274 rfl (lv_at hl 1 rfl) ?_
  refine lv_iload hx hb d_L_law_275 (lv_at hl 0 rfl) ?_
  refine lv_iconst (v := 2) hx hb d_L_law_277 (by decide) ?_
  refine lv_iadd hx hb d_L_law_278 ?_
  refine g_eqi (y := nI (i + 2)) (nI_add i 2) ?_
  refine s_ld C hX hbl hbA hS (j := (i + 2)) (by omega) (by omega) d_L_law_279 ?_
  obtain ⟨w2, ew2⟩ : ∃ z99 : Int32, z99 = xs (i + 2) := ⟨_, rfl⟩
  refine g_eqi (y := w2) ew2.symm ?_
  refine lv_aload_n hx hb d_L_law_280 rfl (lv_at hl 1 rfl) ?_
  refine lv_iload hx hb d_L_law_281 (lv_at hl 0 rfl) ?_
  refine lv_iconst (v := 3) hx hb d_L_law_283 (by decide) ?_
  refine lv_iadd hx hb d_L_law_284 ?_
  refine g_eqi (y := nI (i + 3)) (nI_add i 3) ?_
  refine s_ld C hX hbl hbA hS (j := (i + 3)) (by omega) (by omega) d_L_law_285 ?_
  obtain ⟨w3, ew3⟩ : ∃ z99 : Int32, z99 = xs (i + 3) := ⟨_, rfl⟩
  refine g_eqi (y := w3) ew3.symm ?_
  refine lv_i2l (v := w3.toInt64) hx hb d_L_law_286 rfl ?_
  refine lv_bipush (v := 32) hx hb d_L_law_287 (by decide) ?_
  refine lv_lshl (v := w3.toInt64 <<< ((32 : Int32).toInt64 &&& 63)) hx hb d_L_law_289 rfl ?_
  refine lv_aload_n hx hb d_L_law_290 rfl (lv_at hl 1 rfl) ?_
  refine lv_iload hx hb d_L_law_291 (lv_at hl 0 rfl) ?_
  refine lv_iconst (v := 4) hx hb d_L_law_293 (by decide) ?_
  refine lv_iadd hx hb d_L_law_294 ?_
  refine g_eqi (y := nI (i + 4)) (nI_add i 4) ?_
  refine s_ld C hX hbl hbA hS (j := (i + 4)) (by omega) (by omega) d_L_law_295 ?_
  obtain ⟨w4, ew4⟩ : ∃ z99 : Int32, z99 = xs (i + 4) := ⟨_, rfl⟩
  refine g_eqi (y := w4) ew4.symm ?_
  refine lv_i2l (v := w4.toInt64) hx hb d_L_law_296 rfl ?_
  refine lv_ldc2 hx hb hown (C.w wd_742) d_L_law_297 ?_
  refine lv_land hx hb d_L_law_300 ?_
  refine lv_lor hx hb d_L_law_301 ?_
  obtain ⟨v3, ev3⟩ : ∃ z99 : Int64, z99 = (w3.toInt64 <<< ((32 : Int32).toInt64 &&& 63)) ||| (w4.toInt64 &&& 4294967295) := ⟨_, rfl⟩
  refine g_eql (y := v3) ev3.symm ?_
  refine lv_aload_n hx hb d_L_law_302 rfl (lv_at hl 1 rfl) ?_
  refine lv_iload hx hb d_L_law_303 (lv_at hl 0 rfl) ?_
  refine lv_iconst (v := 5) hx hb d_L_law_305 (by decide) ?_
  refine lv_iadd hx hb d_L_law_306 ?_
  refine g_eqi (y := nI (i + 5)) (nI_add i 5) ?_
  refine s_ld C hX hbl hbA hS (j := (i + 5)) (by omega) (by omega) d_L_law_307 ?_
  obtain ⟨w5, ew5⟩ : ∃ z99 : Int32, z99 = xs (i + 5) := ⟨_, rfl⟩
  refine g_eqi (y := w5) ew5.symm ?_
  refine lv_i2l (v := w5.toInt64) hx hb d_L_law_308 rfl ?_
  refine lv_bipush (v := 32) hx hb d_L_law_309 (by decide) ?_
  refine lv_lshl (v := w5.toInt64 <<< ((32 : Int32).toInt64 &&& 63)) hx hb d_L_law_311 rfl ?_
  refine lv_aload_n hx hb d_L_law_312 rfl (lv_at hl 1 rfl) ?_
  refine lv_iload hx hb d_L_law_313 (lv_at hl 0 rfl) ?_
  refine lv_bipush (v := 6) hx hb d_L_law_315 (by decide) ?_
  refine lv_iadd hx hb d_L_law_317 ?_
  refine g_eqi (y := nI (i + 6)) (nI_add i 6) ?_
  refine s_ld C hX hbl hbA hS (j := (i + 6)) (by omega) (by omega) d_L_law_318 ?_
  obtain ⟨w6, ew6⟩ : ∃ z99 : Int32, z99 = xs (i + 6) := ⟨_, rfl⟩
  refine g_eqi (y := w6) ew6.symm ?_
  refine lv_i2l (v := w6.toInt64) hx hb d_L_law_319 rfl ?_
  refine lv_ldc2 hx hb hown (C.w wd_742) d_L_law_320 ?_
  refine lv_land hx hb d_L_law_323 ?_
  refine lv_lor hx hb d_L_law_324 ?_
  obtain ⟨v5, ev5⟩ : ∃ z99 : Int64, z99 = (w5.toInt64 <<< ((32 : Int32).toInt64 &&& 63)) ||| (w6.toInt64 &&& 4294967295) := ⟨_, rfl⟩
  refine g_eql (y := v5) ev5.symm ?_
  refine lv_aload_n hx hb d_L_law_325 rfl (lv_at hl 1 rfl) ?_
  refine lv_iload hx hb d_L_law_326 (lv_at hl 0 rfl) ?_
  refine lv_bipush (v := 7) hx hb d_L_law_328 (by decide) ?_
  refine lv_iadd hx hb d_L_law_330 ?_
  refine g_eqi (y := nI (i + 7)) (nI_add i 7) ?_
  refine s_ld C hX hbl hbA hS (j := (i + 7)) (by omega) (by omega) d_L_law_331 ?_
  obtain ⟨w7, ew7⟩ : ∃ z99 : Int32, z99 = xs (i + 7) := ⟨_, rfl⟩
  refine g_eqi (y := w7) ew7.symm ?_
  refine lv_aload_n hx hb d_L_law_332 rfl (lv_at hl 4 rfl) ?_
  refine j_calli (l_runS C hN hZ hNc hl.1 (ct_L_value (sa := sa) hl0 fx x a b hk o g ho w1 w2 v3 v5 w7 _) (cx_SW C 7 wd_231 wd_232 wd_0 wd_233 rfl rfl (by decide +kernel) ⟨Nat.le_of_ble_eq_true rfl, Nat.le_of_ble_eq_true rfl⟩) hP.left hS hA0 rfl rfl (Nat.le_of_ble_eq_true rfl) d_L_law_333 ⟨by show cells + 5 ≤ 601024; omega, by show slots + 30 ≤ 7293033; omega⟩) hd hP hS hA0 (fun k9 f1 H locs hq hd hP hS => ?_)
  obtain ⟨fx1, g1, a1, b1, r9, hu9, ho1, hk1, hlp⟩ := hq
  rw [hu9] at hd hP
  have hok1 : bOK b1 := hk1.2.2.2.2
  have hP2 : hH G (lA s) (hj fm (hj fx1 (hc1 o (aL G 1 g1)))) H := by rw [← hj_comm hd]; exact hP
  refine lv_istore (lv' := [(5, .int k9), (4, .int (nI i)), (0, .ref b0), (1, .ref x), (2, .ref y), (3, .ref o)]) hx hb d_L_law_336 hl (by decide) rfl (fun ls hl => ?_)
  refine lv_aload_n hx hb d_L_law_338 rfl (lv_at hl 4 rfl) ?_
  refine lv_aload_n hx hb d_L_law_339 rfl (lv_at hl 2 rfl) ?_
  refine lv_iload hx hb d_L_law_340 (lv_at hl 1 rfl) ?_
  refine lv_iconst (v := 1) hx hb d_L_law_342 (by decide) ?_
  refine lv_iadd hx hb d_L_law_343 ?_
  refine g_eqi (y := nI (i + 1)) (nI_add i 1) ?_
  refine s_ld C hX hbl hbA hS (j := (i + 1)) (by omega) (by omega) d_L_law_344 ?_
  refine g_eqi (y := w1) ew1.symm ?_
  refine lv_aload_n hx hb d_L_law_345 rfl (lv_at hl 2 rfl) ?_
  refine lv_iload hx hb d_L_law_346 (lv_at hl 1 rfl) ?_
  refine lv_iconst (v := 2) hx hb d_L_law_348 (by decide) ?_
  refine lv_iadd hx hb d_L_law_349 ?_
  refine g_eqi (y := nI (i + 2)) (nI_add i 2) ?_
  refine s_ld C hX hbl hbA hS (j := (i + 2)) (by omega) (by omega) d_L_law_350 ?_
  refine g_eqi (y := w2) ew2.symm ?_
  refine lv_aload_n hx hb d_L_law_351 rfl (lv_at hl 2 rfl) ?_
  refine lv_iload hx hb d_L_law_352 (lv_at hl 1 rfl) ?_
  refine lv_iconst (v := 3) hx hb d_L_law_354 (by decide) ?_
  refine lv_iadd hx hb d_L_law_355 ?_
  refine g_eqi (y := nI (i + 3)) (nI_add i 3) ?_
  refine s_ld C hX hbl hbA hS (j := (i + 3)) (by omega) (by omega) d_L_law_356 ?_
  refine g_eqi (y := w3) ew3.symm ?_
  refine lv_i2l (v := w3.toInt64) hx hb d_L_law_357 rfl ?_
  refine lv_bipush (v := 32) hx hb d_L_law_358 (by decide) ?_
  refine lv_lshl (v := w3.toInt64 <<< ((32 : Int32).toInt64 &&& 63)) hx hb d_L_law_360 rfl ?_
  refine lv_aload_n hx hb d_L_law_361 rfl (lv_at hl 2 rfl) ?_
  refine lv_iload hx hb d_L_law_362 (lv_at hl 1 rfl) ?_
  refine lv_iconst (v := 4) hx hb d_L_law_364 (by decide) ?_
  refine lv_iadd hx hb d_L_law_365 ?_
  refine g_eqi (y := nI (i + 4)) (nI_add i 4) ?_
  refine s_ld C hX hbl hbA hS (j := (i + 4)) (by omega) (by omega) d_L_law_366 ?_
  refine g_eqi (y := w4) ew4.symm ?_
  refine lv_i2l (v := w4.toInt64) hx hb d_L_law_367 rfl ?_
  refine lv_ldc2 hx hb hown (C.w wd_742) d_L_law_368 ?_
  refine lv_land hx hb d_L_law_371 ?_
  refine lv_lor hx hb d_L_law_372 ?_
  refine g_eql (y := v3) ev3.symm ?_
  refine lv_aload_n hx hb d_L_law_373 rfl (lv_at hl 2 rfl) ?_
  refine lv_iload hx hb d_L_law_374 (lv_at hl 1 rfl) ?_
  refine lv_iconst (v := 5) hx hb d_L_law_376 (by decide) ?_
  refine lv_iadd hx hb d_L_law_377 ?_
  refine g_eqi (y := nI (i + 5)) (nI_add i 5) ?_
  refine s_ld C hX hbl hbA hS (j := (i + 5)) (by omega) (by omega) d_L_law_378 ?_
  refine g_eqi (y := w5) ew5.symm ?_
  refine lv_i2l (v := w5.toInt64) hx hb d_L_law_379 rfl ?_
  refine lv_bipush (v := 32) hx hb d_L_law_380 (by decide) ?_
  refine lv_lshl (v := w5.toInt64 <<< ((32 : Int32).toInt64 &&& 63)) hx hb d_L_law_382 rfl ?_
  refine lv_aload_n hx hb d_L_law_383 rfl (lv_at hl 2 rfl) ?_
  refine lv_iload hx hb d_L_law_384 (lv_at hl 1 rfl) ?_
  refine lv_bipush (v := 6) hx hb d_L_law_386 (by decide) ?_
  refine lv_iadd hx hb d_L_law_388 ?_
  refine g_eqi (y := nI (i + 6)) (nI_add i 6) ?_
  refine s_ld C hX hbl hbA hS (j := (i + 6)) (by omega) (by omega) d_L_law_389 ?_
  refine g_eqi (y := w6) ew6.symm ?_
  refine lv_i2l (v := w6.toInt64) hx hb d_L_law_390 rfl ?_
  refine lv_ldc2 hx hb hown (C.w wd_742) d_L_law_391 ?_
  refine lv_land hx hb d_L_law_394 ?_
  refine lv_lor hx hb d_L_law_395 ?_
  refine g_eql (y := v5) ev5.symm ?_
  refine lv_aload_n hx hb d_L_law_396 rfl (lv_at hl 2 rfl) ?_
  refine lv_iload hx hb d_L_law_397 (lv_at hl 1 rfl) ?_
  refine lv_bipush (v := 7) hx hb d_L_law_399 (by decide) ?_
  refine lv_iadd hx hb d_L_law_401 ?_
  refine g_eqi (y := nI (i + 7)) (nI_add i 7) ?_
  refine s_ld C hX hbl hbA hS (j := (i + 7)) (by omega) (by omega) d_L_law_402 ?_
  refine g_eqi (y := w7) ew7.symm ?_
  refine j_calli (g_runV C hl.1 (ct_M_value fm y ca b hok th bc cp hm w1 w2 v3 v5 w7 r9 b1 (fun hI9 hN9 => lp_K hlp hI9 hN9) _) (cx_V C 5 wd_593 wd_594 wd_595 wd_3 wd_596 rfl rfl (by decide +kernel) ⟨Nat.le_of_ble_eq_true rfl, Nat.le_of_ble_eq_true rfl⟩) hP2.left oy rfl rfl rfl (Nat.le_of_ble_eq_true rfl) d_L_law_403 ⟨by show cells + 5 + 0 ≤ 601024; omega, by show slots + 30 + 0 ≤ 7293033; omega⟩) hd.symm hP2 hS hA0 (fun r2 fm1 H locs hq hd hP hS => ?_)
  obtain ⟨th2, b2, bc2, cp2, hm2, hmp⟩ := hq
  obtain ⟨hth, hb2, hdone⟩ := lp_mp hlp hmp
  rw [hth, hb2] at hm2
  obtain ⟨ys1, oy1⟩ := mS_y hm2
  refine lv_istore (lv' := [(6, .int r2), (5, .int k9), (4, .int (nI i)), (0, .ref b0), (1, .ref x), (2, .ref y), (3, .ref o)]) hx hb d_L_law_406 hl (by decide) rfl (fun ls hl => ?_)
  refine lv_aload_n hx hb d_L_law_408 rfl (lv_at hl 5 rfl) ?_
  refine j_calli (g_runV C hl.1 (ct_M_thrown fm1 y ca b1 hok1 k9 bc2 cp2 hm2 _) (cx_V C 0 wd_580 wd_581 wd_582 wd_3 wd_583 rfl rfl (by decide +kernel) ⟨Nat.le_of_ble_eq_true rfl, Nat.le_of_ble_eq_true rfl⟩) hP.left oy1 rfl rfl rfl (Nat.le_of_ble_eq_true rfl) d_L_law_409 ⟨by show cells + 5 + 0 + 0 ≤ 601024; omega, by show slots + 30 + 0 + 0 ≤ 7293033; omega⟩) hd hP hS hA0 (fun r3 fm2 H locs hq hd hP hS => ?_)
  obtain ⟨hr3, hu3⟩ := hq
  rw [hu3] at hd hP
  refine g_eqi (y := k9) hr3 ?_
  have oo1 : hj fx1 (hc1 o (aL G 1 g1)) o = some (aL G 1 g1) := (hj_r ho1).trans hc1_s
  have oo : hj fm1 (hj fx1 (hc1 o (aL G 1 g1))) o = some (aL G 1 g1) := (hj_r (dj_at hd oo1)).trans oo1
  refine lv_iload hx hb d_L_law_412 (lv_at hl 1 rfl) ?_
  refine lv_icmp_eq (tgt := 419) hx hb d_L_law_414 (by decide) (fun c_414 => ?_) (fun c_414 => ?_)
  · refine lv_iload hx hb d_L_law_419 (lv_at hl 1 rfl) ?_
    refine lv_if_ne (tgt := 443) hx hb d_L_law_421 (by decide) (fun c_421 => ?_) (fun c_421 => ?_)
    · refine lv_goto (tgt := 2120) hx hb d_L_law_443 (by decide) ?_
      refine W.widen (k := cells + 15) (n := slots + 400) (by show cells + 5 + 0 + 0 ≤ cells + 15; omega) (by show slots + 30 + 0 + 0 ≤ slots + 400; omega) ?_
      exact kk _ _ _ ⟨fx1, fm1, g1, a1, b1, k9, bc2, cp2, hk1, hm2, ho1, hd.symm, by rw [hj_comm hd.symm]; exact hP⟩ hS (lv_sub hl [2, 3, 4, 5, 6] rfl)
    · obtain ⟨⟨hK9, hg9⟩, hr9⟩ := hdone c_421
      refine lv_aload_n hx hb d_L_law_424 rfl (lv_at hl 6 rfl) ?_
      refine lv_iconst (v := 0) hx hb d_L_law_425 (by decide) ?_
      refine g_laldN C hP oo (j := 0) (by decide) (by decide) d_L_law_426 ?_
      refine g_eql (y := eb r9) (hg9) ?_
      refine lv_iload hx hb d_L_law_427 (lv_at hl 0 rfl) ?_
      refine lv_if_eq (tgt := 436) hx hb d_L_law_429 (by decide) (fun c_429 => ?_) (fun c_429 => ?_)
      · refine lv_lconst (v := 0) hx hb d_L_law_436 (by decide) ?_
        refine W.lcmp hx hb d_L_law_437 ?_
        refine lv_if_eq (tgt := 443) hx hb d_L_law_438 (by decide) (fun c_438 => ?_) (fun c_438 => ?_)
        · have c_438 := (lg_cmp_eq _ _).mp c_438
          refine lv_goto (tgt := 2120) hx hb d_L_law_443 (by decide) ?_
          refine W.widen (k := cells + 15) (n := slots + 400) (by show cells + 5 + 0 + 0 ≤ cells + 15; omega) (by show slots + 30 + 0 + 0 ≤ slots + 400; omega) ?_
          exact kk _ _ _ ⟨fx1, fm1, g1, a1, b1, k9, bc2, cp2, hk1, hm2, ho1, hd.symm, by rw [hj_comm hd.symm]; exact hP⟩ hS (lv_sub hl [2, 3, 4, 5, 6] rfl)
        · have c_438 := fun z => c_438 ((lg_cmp_eq _ _).mpr z)
          exact absurd (by first | exact eb_t (hr9.symm.trans c_429) | exact eb_f (fun z => c_429 (hr9.trans z))) c_438
      · refine lv_lconst (v := 1) hx hb d_L_law_432 (by decide) ?_
        refine lv_goto (tgt := 437) hx hb d_L_law_433 (by decide) ?_
        refine W.lcmp hx hb d_L_law_437 ?_
        refine lv_if_eq (tgt := 443) hx hb d_L_law_438 (by decide) (fun c_438 => ?_) (fun c_438 => ?_)
        · have c_438 := (lg_cmp_eq _ _).mp c_438
          refine lv_goto (tgt := 2120) hx hb d_L_law_443 (by decide) ?_
          refine W.widen (k := cells + 15) (n := slots + 400) (by show cells + 5 + 0 + 0 ≤ cells + 15; omega) (by show slots + 30 + 0 + 0 ≤ slots + 400; omega) ?_
          exact kk _ _ _ ⟨fx1, fm1, g1, a1, b1, k9, bc2, cp2, hk1, hm2, ho1, hd.symm, by rw [hj_comm hd.symm]; exact hP⟩ hS (lv_sub hl [2, 3, 4, 5, 6] rfl)
        · have c_438 := fun z => c_438 ((lg_cmp_eq _ _).mpr z)
          exact absurd (by first | exact eb_t (hr9.symm.trans c_429) | exact eb_f (fun z => c_429 (hr9.trans z))) c_438
  · exact absurd rfl c_414
set_option maxHeartbeats 4000000 in
set_option maxRecDepth 100000 in
theorem law_told {G : hG} {sa : xS} {hw : Cond} {p : Program} {l : Launch} {e : Env} {s : State} {m : MethodId} {below : List Frame} {meth : Method} {c : Code} {Q : State → Prop} {b0 L : Nat} {xs : Nat → Int32} (hl0 : l.stackTraces = false) (C : hC G R_L (hw :: bw) code 8 ret p s m #[Value.ref b0] meth c) (hN : xN sa s) (hZ : xZ (lA s) s s.heap) (hNc : va_Nc eA eI s) (hX : va_X b0 L xs s s.heap) (hbl : b0 < s.heap.size) (hL : L ≤ 5120)
    {i cells slots x y o : Nat} {ca : Nat → Nat} {H : Heap} {locs : List Loc} {ls : Array Slot} (hi : i + 10 ≤ L) (hc9 : cells + 15 ≤ 601024) (hs9 : slots + 400 ≤ 7293033) (hI : LI G (lA s) x y o ca H) (hS : va_S (lA s) s.heap H locs) (hl : lv_has ls 8 [(4, .int (nI i)), (0, .ref b0), (1, .ref x), (2, .ref y), (3, .ref o)])
    (kk : ∀ (H1 : Heap) (locs1 : List Loc) (ls1 : Array Slot), LI G (lA s) x y o ca H1 → va_S (lA s) s.heap H1 locs1 → lv_has ls1 8 [(4, .int (nI i)), (0, .ref b0), (1, .ref x), (2, .ref y), (3, .ref o)] → W p l e room_1 s m #[Value.ref b0] below meth c H1 locs1 (cells + 15) (slots + 400) Q (F0 m 2120 ls1 [])) : W p l e room_1 s m #[Value.ref b0] below meth c H locs cells slots Q (F0 m 446 ls []) := by
  obtain ⟨hx, hb, hml, hown, -, -, -, -⟩ := id C
  have hbA : ¬ lA s b0 := Nat.not_le.mpr hbl
  have hA0 : ∀ q, s.heap.size ≤ q → lA s q := fun _ h => h
  obtain ⟨fx, fm, g, a, b, th, bc, cp, hk, hm, ho, hd, hP⟩ := hI
  obtain ⟨ys, oy⟩ := mS_y hm
  have hok : bOK b := hk.2.2.2.2
  refine lv_aload_n hx hb d_L_law_446 rfl (lv_at hl 2 rfl) ?_
  refine lv_aload_n hx hb d_L_law_447 rfl (lv_at hl 1 rfl) ?_
  refine lv_iload hx hb d_L_law_448 (lv_at hl 0 rfl) ?_
  refine lv_iconst (v := 1) hx hb d_L_law_450 (by decide) ?_
  refine lv_iadd hx hb d_L_law_451 ?_
  refine g_eqi (y := nI (i + 1)) (nI_add i 1) ?_
  refine s_ld C hX hbl hbA hS (j := (i + 1)) (by omega) (by omega) d_L_law_452 ?_
  obtain ⟨w1, ew1⟩ : ∃ z99 : Int32, z99 = xs (i + 1) := ⟨_, rfl⟩
  refine g_eqi (y := w1) ew1.symm ?_
  refine lv_aload_n hx hb d_L_law_453 rfl (lv_at hl 1 rfl) ?_
  refine lv_iload hx hb d_L_law_454 (lv_at hl 0 rfl) ?_
  refine lv_iconst (v := 2) hx hb d_L_law_456 (by decide) ?_
  refine lv_iadd hx hb d_L_law_457 ?_
  refine g_eqi (y := nI (i + 2)) (nI_add i 2) ?_
  refine s_ld C hX hbl hbA hS (j := (i + 2)) (by omega) (by omega) d_L_law_458 ?_
  obtain ⟨w2, ew2⟩ : ∃ z99 : Int32, z99 = xs (i + 2) := ⟨_, rfl⟩
  refine g_eqi (y := w2) ew2.symm ?_
  refine lv_aload_n hx hb d_L_law_459 rfl (lv_at hl 1 rfl) ?_
  refine lv_iload hx hb d_L_law_460 (lv_at hl 0 rfl) ?_
  refine lv_iconst (v := 3) hx hb d_L_law_462 (by decide) ?_
  refine lv_iadd hx hb d_L_law_463 ?_
  refine g_eqi (y := nI (i + 3)) (nI_add i 3) ?_
  refine s_ld C hX hbl hbA hS (j := (i + 3)) (by omega) (by omega) d_L_law_464 ?_
  obtain ⟨w3, ew3⟩ : ∃ z99 : Int32, z99 = xs (i + 3) := ⟨_, rfl⟩
  refine g_eqi (y := w3) ew3.symm ?_
  refine lv_aload_n hx hb d_L_law_465 rfl (lv_at hl 4 rfl) ?_
  refine j_calli (l_runS C hN hZ hNc hl.1 (ct_L_told (sa := sa) hl0 fx x a b hk o g ho w1 w2 w3 _) (cx_SW C 5 wd_284 wd_285 wd_0 wd_286 rfl rfl (by decide +kernel) ⟨Nat.le_of_ble_eq_true rfl, Nat.le_of_ble_eq_true rfl⟩) hP.left hS hA0 rfl rfl (Nat.le_of_ble_eq_true rfl) d_L_law_466 ⟨by show cells + 3 ≤ 601024; omega, by show slots + 18 ≤ 7293033; omega⟩) hd hP hS hA0 (fun k9 f1 H locs hq hd hP hS => ?_)
  obtain ⟨fx1, g1, a1, b1, r9, hu9, ho1, hk1, hlp⟩ := hq
  rw [hu9] at hd hP
  have hok1 : bOK b1 := hk1.2.2.2.2
  have hP2 : hH G (lA s) (hj fm (hj fx1 (hc1 o (aL G 1 g1)))) H := by rw [← hj_comm hd]; exact hP
  refine lv_istore (lv' := [(5, .int k9), (4, .int (nI i)), (0, .ref b0), (1, .ref x), (2, .ref y), (3, .ref o)]) hx hb d_L_law_469 hl (by decide) rfl (fun ls hl => ?_)
  refine lv_aload_n hx hb d_L_law_471 rfl (lv_at hl 4 rfl) ?_
  refine lv_aload_n hx hb d_L_law_472 rfl (lv_at hl 2 rfl) ?_
  refine lv_iload hx hb d_L_law_473 (lv_at hl 1 rfl) ?_
  refine lv_iconst (v := 1) hx hb d_L_law_475 (by decide) ?_
  refine lv_iadd hx hb d_L_law_476 ?_
  refine g_eqi (y := nI (i + 1)) (nI_add i 1) ?_
  refine s_ld C hX hbl hbA hS (j := (i + 1)) (by omega) (by omega) d_L_law_477 ?_
  refine g_eqi (y := w1) ew1.symm ?_
  refine lv_aload_n hx hb d_L_law_478 rfl (lv_at hl 2 rfl) ?_
  refine lv_iload hx hb d_L_law_479 (lv_at hl 1 rfl) ?_
  refine lv_iconst (v := 2) hx hb d_L_law_481 (by decide) ?_
  refine lv_iadd hx hb d_L_law_482 ?_
  refine g_eqi (y := nI (i + 2)) (nI_add i 2) ?_
  refine s_ld C hX hbl hbA hS (j := (i + 2)) (by omega) (by omega) d_L_law_483 ?_
  refine g_eqi (y := w2) ew2.symm ?_
  refine lv_aload_n hx hb d_L_law_484 rfl (lv_at hl 2 rfl) ?_
  refine lv_iload hx hb d_L_law_485 (lv_at hl 1 rfl) ?_
  refine lv_iconst (v := 3) hx hb d_L_law_487 (by decide) ?_
  refine lv_iadd hx hb d_L_law_488 ?_
  refine g_eqi (y := nI (i + 3)) (nI_add i 3) ?_
  refine s_ld C hX hbl hbA hS (j := (i + 3)) (by omega) (by omega) d_L_law_489 ?_
  refine g_eqi (y := w3) ew3.symm ?_
  refine j_calll (g_runV C hl.1 (ct_M_told fm y ca b hok th bc cp hm w1 w2 w3 r9 b1 (fun hI9 hN9 => lp_K hlp hI9 hN9) _) (cx_V C 3 wd_616 wd_617 wd_618 wd_3 wd_619 rfl rfl (by decide +kernel) ⟨Nat.le_of_ble_eq_true rfl, Nat.le_of_ble_eq_true rfl⟩) hP2.left oy rfl rfl rfl (Nat.le_of_ble_eq_true rfl) d_L_law_490 ⟨by show cells + 3 + 0 ≤ 601024; omega, by show slots + 18 + 0 ≤ 7293033; omega⟩) hd.symm hP2 hS hA0 (fun r2 fm1 H locs hq hd hP hS => ?_)
  obtain ⟨th2, b2, bc2, cp2, hm2, hmp⟩ := hq
  obtain ⟨hth, hb2, hdone⟩ := lp_mp hlp hmp
  rw [hth, hb2] at hm2
  obtain ⟨ys1, oy1⟩ := mS_y hm2
  refine lv_lstore (lv' := [(6, .long r2), (5, .int k9), (4, .int (nI i)), (0, .ref b0), (1, .ref x), (2, .ref y), (3, .ref o)]) hx hb d_L_law_493 hl (by decide) rfl (fun ls hl => ?_)
  refine lv_aload_n hx hb d_L_law_495 rfl (lv_at hl 5 rfl) ?_
  refine j_calli (g_runV C hl.1 (ct_M_thrown fm1 y ca b1 hok1 k9 bc2 cp2 hm2 _) (cx_V C 0 wd_580 wd_581 wd_582 wd_3 wd_583 rfl rfl (by decide +kernel) ⟨Nat.le_of_ble_eq_true rfl, Nat.le_of_ble_eq_true rfl⟩) hP.left oy1 rfl rfl rfl (Nat.le_of_ble_eq_true rfl) d_L_law_496 ⟨by show cells + 3 + 0 + 0 ≤ 601024; omega, by show slots + 18 + 0 + 0 ≤ 7293033; omega⟩) hd hP hS hA0 (fun r3 fm2 H locs hq hd hP hS => ?_)
  obtain ⟨hr3, hu3⟩ := hq
  rw [hu3] at hd hP
  refine g_eqi (y := k9) hr3 ?_
  have oo1 : hj fx1 (hc1 o (aL G 1 g1)) o = some (aL G 1 g1) := (hj_r ho1).trans hc1_s
  have oo : hj fm1 (hj fx1 (hc1 o (aL G 1 g1))) o = some (aL G 1 g1) := (hj_r (dj_at hd oo1)).trans oo1
  refine lv_iload hx hb d_L_law_499 (lv_at hl 1 rfl) ?_
  refine lv_icmp_eq (tgt := 506) hx hb d_L_law_501 (by decide) (fun c_501 => ?_) (fun c_501 => ?_)
  · refine lv_iload hx hb d_L_law_506 (lv_at hl 1 rfl) ?_
    refine lv_if_ne (tgt := 522) hx hb d_L_law_508 (by decide) (fun c_508 => ?_) (fun c_508 => ?_)
    · refine lv_goto (tgt := 2120) hx hb d_L_law_522 (by decide) ?_
      refine W.widen (k := cells + 15) (n := slots + 400) (by show cells + 3 + 0 + 0 ≤ cells + 15; omega) (by show slots + 18 + 0 + 0 ≤ slots + 400; omega) ?_
      exact kk _ _ _ ⟨fx1, fm1, g1, a1, b1, k9, bc2, cp2, hk1, hm2, ho1, hd.symm, by rw [hj_comm hd.symm]; exact hP⟩ hS (lv_sub hl [2, 3, 4, 5, 6] rfl)
    · obtain ⟨⟨hK9, hg9⟩, hr9⟩ := hdone c_508
      refine lv_aload_n hx hb d_L_law_511 rfl (lv_at hl 6 rfl) ?_
      refine lv_iconst (v := 0) hx hb d_L_law_512 (by decide) ?_
      refine g_laldN C hP oo (j := 0) (by decide) (by decide) d_L_law_513 ?_
      refine g_eql (y := r9) (hg9) ?_
      refine lv_lload hx hb d_L_law_514 (lv_at hl 0 rfl) ?_
      refine W.lcmp hx hb d_L_law_516 ?_
      refine lv_if_eq (tgt := 522) hx hb d_L_law_517 (by decide) (fun c_517 => ?_) (fun c_517 => ?_)
      · have c_517 := (lg_cmp_eq _ _).mp c_517
        refine lv_goto (tgt := 2120) hx hb d_L_law_522 (by decide) ?_
        refine W.widen (k := cells + 15) (n := slots + 400) (by show cells + 3 + 0 + 0 ≤ cells + 15; omega) (by show slots + 18 + 0 + 0 ≤ slots + 400; omega) ?_
        exact kk _ _ _ ⟨fx1, fm1, g1, a1, b1, k9, bc2, cp2, hk1, hm2, ho1, hd.symm, by rw [hj_comm hd.symm]; exact hP⟩ hS (lv_sub hl [2, 3, 4, 5, 6] rfl)
      · have c_517 := fun z => c_517 ((lg_cmp_eq _ _).mpr z)
        exact absurd hr9.symm c_517
  · exact absurd rfl c_501
set_option maxHeartbeats 4000000 in
set_option maxRecDepth 100000 in
theorem law_rule {G : hG} {sa : xS} {hw : Cond} {p : Program} {l : Launch} {e : Env} {s : State} {m : MethodId} {below : List Frame} {meth : Method} {c : Code} {Q : State → Prop} {b0 L : Nat} {xs : Nat → Int32} (hl0 : l.stackTraces = false) (C : hC G R_L (hw :: bw) code 8 ret p s m #[Value.ref b0] meth c) (hN : xN sa s) (hZ : xZ (lA s) s s.heap) (hNc : va_Nc eA eI s) (hX : va_X b0 L xs s s.heap) (hbl : b0 < s.heap.size) (hL : L ≤ 5120)
    {i cells slots x y o : Nat} {ca : Nat → Nat} {H : Heap} {locs : List Loc} {ls : Array Slot} (hi : i + 10 ≤ L) (hc9 : cells + 15 ≤ 601024) (hs9 : slots + 400 ≤ 7293033) (hI : LI G (lA s) x y o ca H) (hS : va_S (lA s) s.heap H locs) (hl : lv_has ls 8 [(4, .int (nI i)), (0, .ref b0), (1, .ref x), (2, .ref y), (3, .ref o)])
    (kk : ∀ (H1 : Heap) (locs1 : List Loc) (ls1 : Array Slot), LI G (lA s) x y o ca H1 → va_S (lA s) s.heap H1 locs1 → lv_has ls1 8 [(4, .int (nI i)), (0, .ref b0), (1, .ref x), (2, .ref y), (3, .ref o)] → W p l e room_1 s m #[Value.ref b0] below meth c H1 locs1 (cells + 15) (slots + 400) Q (F0 m 2120 ls1 [])) : W p l e room_1 s m #[Value.ref b0] below meth c H locs cells slots Q (F0 m 525 ls []) := by
  obtain ⟨hx, hb, hml, hown, -, -, -, -⟩ := id C
  have hbA : ¬ lA s b0 := Nat.not_le.mpr hbl
  have hA0 : ∀ q, s.heap.size ≤ q → lA s q := fun _ h => h
  obtain ⟨fx, fm, g, a, b, th, bc, cp, hk, hm, ho, hd, hP⟩ := hI
  obtain ⟨ys, oy⟩ := mS_y hm
  have hok : bOK b := hk.2.2.2.2
  refine lv_aload_n hx hb d_L_law_525 rfl (lv_at hl 2 rfl) ?_
  have hd0 : dj fx (hj (hc1 o (aL G 1 g)) fm) := dj_jr (dj_1 ho) (dj_l hd)
  have hdm : dj (hc1 o (aL G 1 g)) fm := dj_r (dj_1 ho) hd
  rw [hj_assoc] at hP
  refine j_calli (g_runV C hl.1 (ct_B_rule fx x a b hk  _) (cx_V C 0 wd_58 wd_59 wd_60 wd_1 wd_61 rfl rfl (by decide +kernel) ⟨Nat.le_of_ble_eq_true rfl, Nat.le_of_ble_eq_true rfl⟩) hP.left hk.1.1 rfl rfl rfl (Nat.le_of_ble_eq_true rfl) d_L_law_526 ⟨by show cells + 0 ≤ 601024; omega, by show slots + 0 ≤ 7293033; omega⟩) hd0 hP hS hA0 (fun r9 fx1 H locs hq hd1 hP hS => ?_)
  obtain ⟨a1, b1, hk1, hK9⟩ := hq
  have oo1 : hj (hc1 o (aL G 1 g)) fm o = some (aL G 1 g) := hj_l hc1_s
  have ho1 : fx1 o = none := dj_at hd1 oo1
  have hd2 : dj (hj fx1 (hc1 o (aL G 1 g))) fm := dj_jl (by rw [hj_comm hdm] at hd1; exact (dj_l hd1.symm).symm) hdm
  rw [← hj_assoc] at hP
  have hP2 : hH G (lA s) (hj fm (hj fx1 (hc1 o (aL G 1 g)))) H := by rw [← hj_comm hd2]; exact hP
  refine lv_aload_n hx hb d_L_law_529 rfl (lv_at hl 3 rfl) ?_
  refine j_calli (g_runV C hl.1 (ct_M_rule fm y ca b hok th bc cp hm  r9 b1 (fun _ _ => hK9) _) (cx_V C 0 wd_624 wd_625 wd_626 wd_3 wd_627 rfl rfl (by decide +kernel) ⟨Nat.le_of_ble_eq_true rfl, Nat.le_of_ble_eq_true rfl⟩) hP2.left oy rfl rfl rfl (Nat.le_of_ble_eq_true rfl) d_L_law_530 ⟨by show cells + 0 + 0 ≤ 601024; omega, by show slots + 0 + 0 ≤ 7293033; omega⟩) hd2.symm hP2 hS hA0 (fun r2 fm1 H locs hq hd hP hS => ?_)
  obtain ⟨th2, b2, bc2, cp2, hm2, hmp⟩ := hq
  obtain ⟨hb2, hr2⟩ := mp_tt hmp
  rw [hb2] at hm2
  refine lv_icmp_eq (tgt := 2120) hx hb d_L_law_533 (by decide) (fun c_533 => ?_) (fun c_533 => ?_)
  · refine W.widen (k := cells + 15) (n := slots + 400) (by show cells + 0 + 0 ≤ cells + 15; omega) (by show slots + 0 + 0 ≤ slots + 400; omega) ?_
    exact kk _ _ _ ⟨fx1, fm1, g, a1, b1, th2, bc2, cp2, hk1, hm2, ho1, hd.symm, by rw [hj_comm hd.symm]; exact hP⟩ hS (lv_sub hl [0, 1, 2, 3, 4] rfl)
  · exact absurd hr2.symm c_533
