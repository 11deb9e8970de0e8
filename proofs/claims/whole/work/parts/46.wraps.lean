/-! The law's wrappers. -/
def eb (r : Int32) : Int64 := if r = 0 then 0 else 1
theorem eb_t {r : Int32} (h : r = 0) : eb r = 0 := if_pos h
theorem eb_f {r : Int32} (h : ¬ r = 0) : eb r = 1 := if_neg h
set_option maxHeartbeats 4000000 in
set_option maxRecDepth 100000 in
theorem ct_L_part {l : Launch} {G : hG} {sa : xS} (hl0 : l.stackTraces = false) (f : hm) (x : Nat) (a : AD) (b : BD) (hk : bk G f x a b) (o : Nat) (g : Nat → Int64) (ho : f o = none) (k0 : Int32) : li_ l G sa y_L_part w_L_part { frames := 8, cells := 14, slots := 110, locals := 160 } [.ref x, .int k0, .ref o] (hj f (hc1 o (aL G 1 g))) (fun k u => ∃ (f1 : hm) (g1 : Nat → Int64) (a1 : AD) (b1 : BD) (r : Int32), u = hj f1 (hc1 o (aL G 1 g1)) ∧ f1 o = none ∧ bk G f1 x a1 b1 ∧ lp (N_part k0) (True) b b1 k ((K_part b k0 r b1) ∧ g1 0 = r.toInt64)) := by
  intro sz
  refine l_ofW (cc := c_L_part) (maxL := 4) (ret := (some .int)) (hh := h_L_part) (by decide) rfl (Nat.le_of_ble_eq_true rfl) ?_
  intro p e s m below meth c ls C hex hN hZ hNc hsz hP hl
  obtain ⟨hx, hb, hml, hown, -, -, -, -⟩ := id C
  subst hsz
  have hA0 : ∀ q, s.heap.size ≤ q → hA (hj f (hc1 o (aL G 1 g))) s.heap.size q := hA.new
  have hS : va_S (hA (hj f (hc1 o (aL G 1 g))) s.heap.size) s.heap s.heap [] := va_S.rf
  replace hl : lv_has ls 4 [(0, .ref x), (1, .int k0), (2, .ref o)] := hl
  have hd := dj_1 (e := aL G 1 g) ho
  refine lv_aload_n hx hb d_L_part_0 rfl (lv_at hl 2 rfl) ?_
  refine lv_iconst (v := 0) hx hb d_L_part_1 (by decide) ?_
  refine lv_aload_n hx hb d_L_part_2 rfl (lv_at hl 0 rfl) ?_
  refine lv_iload_n hx hb d_L_part_3 rfl (lv_at hl 1 rfl) ?_
  refine jx_calli (x_runV C hN hZ hl.1 (ct_B_part (sa := sa) hl0 f x a b hk k0 _) (cx_V C 1 wd_70 wd_71 wd_72 wd_1 wd_73 rfl rfl (by decide +kernel) ⟨Nat.le_of_ble_eq_true rfl, Nat.le_of_ble_eq_true rfl⟩) hP.left hS hA0 hk.1.1 rfl rfl rfl (Nat.le_of_ble_eq_true rfl) d_L_part_4 ⟨Nat.le_of_ble_eq_true rfl, Nat.le_of_ble_eq_true rfl⟩) hd hP hS hA0 (fun E ce q9 H locs hE hP hS z1 z2 z3 => ?_) (fun r f1 H locs hq hd hP hS => ?_)
  · obtain ⟨rfl, hI9⟩ := hE
    refine l_catch1 C hex (by decide) (by decide) wd_69 hN.2.2.2.1 z1 z2 z3 ?_
    refine lv_astore_n (lv' := [(3, .ref q9), (0, .ref x), (1, .int k0), (2, .ref o)]) hx hb d_L_part_12 rfl hl (by decide) rfl (fun ls hl => ?_)
    refine lv_iconst (v := 1) hx hb d_L_part_13 (by decide) ?_
    exact g_iret C hP hS (⟨f, g, a, b, 0, rfl, ho, hk, Or.inr (Or.inr ⟨hI9, rfl, rfl⟩)⟩) (Nat.le_of_ble_eq_true rfl) (Nat.le_of_ble_eq_true rfl) d_L_part_14
  · obtain ⟨hI9, a1, b1, hk1, hK9⟩ := hq
    have oo : hj f1 (hc1 o (aL G 1 g)) o = some (aL G 1 g) := (hj_r (dj_1n hd)).trans hc1_s
    refine lv_i2l (v := r.toInt64) hx hb d_L_part_7 rfl ?_
    refine g_lastN C hP hS oo (j := 0) (by decide) (by decide) d_L_part_8 (fun H locs hP hS => ?_)
    obtain ⟨g2, eg2⟩ : ∃ z99, z99 = vp_updL g 0 r.toInt64 := ⟨_, rfl⟩
    rw [← eg2] at hP
    rw [hj_upr (dj_1n hd), hc1_up] at hP
    refine lv_goto (tgt := 15) hx hb d_L_part_9 (by decide) ?_
    refine lv_iconst (v := 0) hx hb d_L_part_15 (by decide) ?_
    exact g_iret C hP hS (⟨f1, g2, a1, b1, r, rfl, dj_1n hd, hk1, Or.inl ⟨hI9, trivial, rfl, hK9, by rw [eg2]; rfl⟩⟩) (Nat.le_of_ble_eq_true rfl) (Nat.le_of_ble_eq_true rfl) d_L_part_16
set_option maxHeartbeats 4000000 in
set_option maxRecDepth 100000 in
theorem ct_L_maker {l : Launch} {G : hG} {sa : xS} (hl0 : l.stackTraces = false) (f : hm) (x : Nat) (a : AD) (b : BD) (hk : bk G f x a b) (o : Nat) (g : Nat → Int64) (ho : f o = none) (k0 : Int32) (v0 : Int32) : li_ l G sa y_L_maker w_L_maker { frames := 8, cells := 2, slots := 12, locals := 160 } [.ref x, .int k0, .int v0, .ref o] (hj f (hc1 o (aL G 1 g))) (fun k u => ∃ (f1 : hm) (g1 : Nat → Int64) (a1 : AD) (b1 : BD) (r : Int32), u = hj f1 (hc1 o (aL G 1 g1)) ∧ f1 o = none ∧ bk G f1 x a1 b1 ∧ lp (N_maker k0 v0) (True) b b1 k ((K_maker b k0 v0 r b1) ∧ g1 0 = eb r)) := by
  intro sz
  refine l_ofW (cc := c_L_maker) (maxL := 5) (ret := (some .int)) (hh := h_L_maker) (by decide) rfl (Nat.le_of_ble_eq_true rfl) ?_
  intro p e s m below meth c ls C hex hN hZ hNc hsz hP hl
  obtain ⟨hx, hb, hml, hown, -, -, -, -⟩ := id C
  subst hsz
  have hA0 : ∀ q, s.heap.size ≤ q → hA (hj f (hc1 o (aL G 1 g))) s.heap.size q := hA.new
  have hS : va_S (hA (hj f (hc1 o (aL G 1 g))) s.heap.size) s.heap s.heap [] := va_S.rf
  replace hl : lv_has ls 5 [(0, .ref x), (1, .int k0), (2, .int v0), (3, .ref o)] := hl
  have hd := dj_1 (e := aL G 1 g) ho
  refine lv_aload_n hx hb d_L_maker_0 rfl (lv_at hl 3 rfl) ?_
  refine lv_iconst (v := 0) hx hb d_L_maker_1 (by decide) ?_
  refine lv_aload_n hx hb d_L_maker_2 rfl (lv_at hl 0 rfl) ?_
  refine lv_iload_n hx hb d_L_maker_3 rfl (lv_at hl 1 rfl) ?_
  refine lv_iload_n hx hb d_L_maker_4 rfl (lv_at hl 2 rfl) ?_
  refine jx_calli (x_runV C hN hZ hl.1 (ct_B_maker (sa := sa) hl0 f x a b hk k0 v0 _) (cx_V C 2 wd_226 wd_227 wd_228 wd_1 wd_229 rfl rfl (by decide +kernel) ⟨Nat.le_of_ble_eq_true rfl, Nat.le_of_ble_eq_true rfl⟩) hP.left hS hA0 hk.1.1 rfl rfl rfl (Nat.le_of_ble_eq_true rfl) d_L_maker_5 ⟨Nat.le_of_ble_eq_true rfl, Nat.le_of_ble_eq_true rfl⟩) hd hP hS hA0 (fun E ce q9 H locs hE hP hS z1 z2 z3 => ?_) (fun r f1 H locs hq hd hP hS => ?_)
  · obtain ⟨rfl, hI9⟩ := hE
    refine l_catch1 C hex (by decide) (by decide) wd_69 hN.2.2.2.1 z1 z2 z3 ?_
    refine lv_astore (lv' := [(4, .ref q9), (0, .ref x), (1, .int k0), (2, .int v0), (3, .ref o)]) hx hb d_L_maker_20 hl (by decide) rfl (fun ls hl => ?_)
    refine lv_iconst (v := 1) hx hb d_L_maker_22 (by decide) ?_
    exact g_iret C hP hS (⟨f, g, a, b, 0, rfl, ho, hk, Or.inr (Or.inr ⟨hI9, rfl, rfl⟩)⟩) (Nat.le_of_ble_eq_true rfl) (Nat.le_of_ble_eq_true rfl) d_L_maker_23
  · obtain ⟨hI9, a1, b1, hk1, hK9⟩ := hq
    have oo : hj f1 (hc1 o (aL G 1 g)) o = some (aL G 1 g) := (hj_r (dj_1n hd)).trans hc1_s
    refine lv_if_eq (tgt := 15) hx hb d_L_maker_8 (by decide) (fun c_8 => ?_) (fun c_8 => ?_)
    · refine lv_lconst (v := 0) hx hb d_L_maker_15 (by decide) ?_
      refine g_lastN C hP hS oo (j := 0) (by decide) (by decide) d_L_maker_16 (fun H locs hP hS => ?_)
      obtain ⟨g2, eg2⟩ : ∃ z99, z99 = vp_updL g 0 0 := ⟨_, rfl⟩
      rw [← eg2] at hP
      rw [hj_upr (dj_1n hd), hc1_up] at hP
      refine lv_goto (tgt := 24) hx hb d_L_maker_17 (by decide) ?_
      refine lv_iconst (v := 0) hx hb d_L_maker_24 (by decide) ?_
      exact g_iret C hP hS (⟨f1, g2, a1, b1, r, rfl, dj_1n hd, hk1, Or.inl ⟨hI9, trivial, rfl, hK9, by rw [eg2]; first | exact (eb_t c_8).symm | exact (eb_f c_8).symm⟩⟩) (Nat.le_of_ble_eq_true rfl) (Nat.le_of_ble_eq_true rfl) d_L_maker_25
    · refine lv_lconst (v := 1) hx hb d_L_maker_11 (by decide) ?_
      refine lv_goto (tgt := 16) hx hb d_L_maker_12 (by decide) ?_
      refine g_lastN C hP hS oo (j := 0) (by decide) (by decide) d_L_maker_16 (fun H locs hP hS => ?_)
      obtain ⟨g4, eg4⟩ : ∃ z99, z99 = vp_updL g 0 1 := ⟨_, rfl⟩
      rw [← eg4] at hP
      rw [hj_upr (dj_1n hd), hc1_up] at hP
      refine lv_goto (tgt := 24) hx hb d_L_maker_17 (by decide) ?_
      refine lv_iconst (v := 0) hx hb d_L_maker_24 (by decide) ?_
      exact g_iret C hP hS (⟨f1, g4, a1, b1, r, rfl, dj_1n hd, hk1, Or.inl ⟨hI9, trivial, rfl, hK9, by rw [eg4]; first | exact (eb_t c_8).symm | exact (eb_f c_8).symm⟩⟩) (Nat.le_of_ble_eq_true rfl) (Nat.le_of_ble_eq_true rfl) d_L_maker_25
set_option maxHeartbeats 4000000 in
set_option maxRecDepth 100000 in
theorem ct_L_value {l : Launch} {G : hG} {sa : xS} (hl0 : l.stackTraces = false) (f : hm) (x : Nat) (a : AD) (b : BD) (hk : bk G f x a b) (o : Nat) (g : Nat → Int64) (ho : f o = none) (p0 : Int32) (n0 : Int32) (x0 : Int64) (y0 : Int64) (un0 : Int32) : li_ l G sa y_L_value w_L_value { frames := 9, cells := 5, slots := 30, locals := 200 } [.ref x, .int p0, .int n0, .long x0, .long y0, .int un0, .ref o] (hj f (hc1 o (aL G 1 g))) (fun k u => ∃ (f1 : hm) (g1 : Nat → Int64) (a1 : AD) (b1 : BD) (r : Int32), u = hj f1 (hc1 o (aL G 1 g1)) ∧ f1 o = none ∧ bk G f1 x a1 b1 ∧ lp (I_pn b p0 n0) (N_value x0 y0 un0) b b1 k ((K_value b p0 n0 x0 y0 un0 r b1) ∧ g1 0 = eb r)) := by
  intro sz
  refine l_ofW (cc := c_L_value) (maxL := 10) (ret := (some .int)) (hh := h_L_value) (by decide) rfl (Nat.le_of_ble_eq_true rfl) ?_
  intro p e s m below meth c ls C hex hN hZ hNc hsz hP hl
  obtain ⟨hx, hb, hml, hown, -, -, -, -⟩ := id C
  subst hsz
  have hA0 : ∀ q, s.heap.size ≤ q → hA (hj f (hc1 o (aL G 1 g))) s.heap.size q := hA.new
  have hS : va_S (hA (hj f (hc1 o (aL G 1 g))) s.heap.size) s.heap s.heap [] := va_S.rf
  replace hl : lv_has ls 10 [(0, .ref x), (1, .int p0), (2, .int n0), (3, .long x0), (5, .long y0), (7, .int un0), (8, .ref o)] := hl
  have hd := dj_1 (e := aL G 1 g) ho
  refine lv_aload hx hb d_L_value_0 (lv_at hl 6 rfl) ?_
  refine lv_iconst (v := 0) hx hb d_L_value_2 (by decide) ?_
  refine lv_aload_n hx hb d_L_value_3 rfl (lv_at hl 0 rfl) ?_
  refine lv_iload_n hx hb d_L_value_4 rfl (lv_at hl 1 rfl) ?_
  refine lv_iload_n hx hb d_L_value_5 rfl (lv_at hl 2 rfl) ?_
  refine lv_lload_n hx hb d_L_value_6 rfl (lv_at hl 3 rfl) ?_
  refine lv_lload hx hb d_L_value_7 (lv_at hl 4 rfl) ?_
  refine lv_iload hx hb d_L_value_9 (lv_at hl 5 rfl) ?_
  refine jx_calli (x_runV C hN hZ hl.1 (ct_B_value (sa := sa) hl0 f x a b hk p0 n0 x0 y0 un0 _) (cx_V C 5 wd_235 wd_236 wd_237 wd_1 wd_238 rfl rfl (by decide +kernel) ⟨Nat.le_of_ble_eq_true rfl, Nat.le_of_ble_eq_true rfl⟩) hP.left hS hA0 hk.1.1 rfl rfl rfl (Nat.le_of_ble_eq_true rfl) d_L_value_11 ⟨Nat.le_of_ble_eq_true rfl, Nat.le_of_ble_eq_true rfl⟩) hd hP hS hA0 (fun E ce q9 H locs hE hP hS z1 z2 z3 => ?_) (fun r f1 H locs hq hd hP hS => ?_)
  · rcases hE with ⟨rfl, hI9⟩ | ⟨rfl, hI9, hN9⟩
    · refine l_catch1 C hex (by decide) (by decide) wd_234 hN.2.2.2.2.1 z1 z2 z3 ?_
      refine lv_astore (lv' := [(9, .ref q9), (0, .ref x), (1, .int p0), (2, .int n0), (3, .long x0), (5, .long y0), (7, .int un0), (8, .ref o)]) hx hb d_L_value_26 hl (by decide) rfl (fun ls hl => ?_)
      refine lv_iconst (v := 1) hx hb d_L_value_28 (by decide) ?_
      exact g_iret C hP hS (⟨f, g, a, b, 0, rfl, ho, hk, Or.inr (Or.inr ⟨hI9, rfl, rfl⟩)⟩) (Nat.le_of_ble_eq_true rfl) (Nat.le_of_ble_eq_true rfl) d_L_value_29
    · refine l_catch2 C hex (by decide) wd_234 hNc (by decide) (by decide) wd_69 hN.2.2.2.1 z1 z2 z3 ?_
      refine lv_astore (lv' := [(9, .ref q9), (0, .ref x), (1, .int p0), (2, .int n0), (3, .long x0), (5, .long y0), (7, .int un0), (8, .ref o)]) hx hb d_L_value_30 hl (by decide) rfl (fun ls hl => ?_)
      refine lv_iconst (v := 2) hx hb d_L_value_32 (by decide) ?_
      exact g_iret C hP hS (⟨f, g, a, b, 0, rfl, ho, hk, Or.inr (Or.inl ⟨hI9, hN9, rfl, rfl⟩)⟩) (Nat.le_of_ble_eq_true rfl) (Nat.le_of_ble_eq_true rfl) d_L_value_33
  · obtain ⟨hI9, hN9, a1, b1, hk1, hK9⟩ := hq
    have oo : hj f1 (hc1 o (aL G 1 g)) o = some (aL G 1 g) := (hj_r (dj_1n hd)).trans hc1_s
    refine lv_if_eq (tgt := 21) hx hb d_L_value_14 (by decide) (fun c_14 => ?_) (fun c_14 => ?_)
    · refine lv_lconst (v := 0) hx hb d_L_value_21 (by decide) ?_
      refine g_lastN C hP hS oo (j := 0) (by decide) (by decide) d_L_value_22 (fun H locs hP hS => ?_)
      obtain ⟨g2, eg2⟩ : ∃ z99, z99 = vp_updL g 0 0 := ⟨_, rfl⟩
      rw [← eg2] at hP
      rw [hj_upr (dj_1n hd), hc1_up] at hP
      refine lv_goto (tgt := 34) hx hb d_L_value_23 (by decide) ?_
      refine lv_iconst (v := 0) hx hb d_L_value_34 (by decide) ?_
      exact g_iret C hP hS (⟨f1, g2, a1, b1, r, rfl, dj_1n hd, hk1, Or.inl ⟨hI9, hN9, rfl, hK9, by rw [eg2]; first | exact (eb_t c_14).symm | exact (eb_f c_14).symm⟩⟩) (Nat.le_of_ble_eq_true rfl) (Nat.le_of_ble_eq_true rfl) d_L_value_35
    · refine lv_lconst (v := 1) hx hb d_L_value_17 (by decide) ?_
      refine lv_goto (tgt := 22) hx hb d_L_value_18 (by decide) ?_
      refine g_lastN C hP hS oo (j := 0) (by decide) (by decide) d_L_value_22 (fun H locs hP hS => ?_)
      obtain ⟨g4, eg4⟩ : ∃ z99, z99 = vp_updL g 0 1 := ⟨_, rfl⟩
      rw [← eg4] at hP
      rw [hj_upr (dj_1n hd), hc1_up] at hP
      refine lv_goto (tgt := 34) hx hb d_L_value_23 (by decide) ?_
      refine lv_iconst (v := 0) hx hb d_L_value_34 (by decide) ?_
      exact g_iret C hP hS (⟨f1, g4, a1, b1, r, rfl, dj_1n hd, hk1, Or.inl ⟨hI9, hN9, rfl, hK9, by rw [eg4]; first | exact (eb_t c_14).symm | exact (eb_f c_14).symm⟩⟩) (Nat.le_of_ble_eq_true rfl) (Nat.le_of_ble_eq_true rfl) d_L_value_35
set_option maxHeartbeats 4000000 in
set_option maxRecDepth 100000 in
theorem ct_L_told {l : Launch} {G : hG} {sa : xS} (hl0 : l.stackTraces = false) (f : hm) (x : Nat) (a : AD) (b : BD) (hk : bk G f x a b) (o : Nat) (g : Nat → Int64) (ho : f o = none) (p0 : Int32) (n0 : Int32) (w0 : Int32) : li_ l G sa y_L_told w_L_told { frames := 8, cells := 3, slots := 18, locals := 160 } [.ref x, .int p0, .int n0, .int w0, .ref o] (hj f (hc1 o (aL G 1 g))) (fun k u => ∃ (f1 : hm) (g1 : Nat → Int64) (a1 : AD) (b1 : BD) (r : Int64), u = hj f1 (hc1 o (aL G 1 g1)) ∧ f1 o = none ∧ bk G f1 x a1 b1 ∧ lp (I_told b p0 n0 w0) (True) b b1 k ((K_told b p0 n0 w0 r ∧ b1 = b) ∧ g1 0 = r)) := by
  intro sz
  refine l_ofW (cc := c_L_told) (maxL := 6) (ret := (some .int)) (hh := h_L_told) (by decide) rfl (Nat.le_of_ble_eq_true rfl) ?_
  intro p e s m below meth c ls C hex hN hZ hNc hsz hP hl
  obtain ⟨hx, hb, hml, hown, -, -, -, -⟩ := id C
  subst hsz
  have hA0 : ∀ q, s.heap.size ≤ q → hA (hj f (hc1 o (aL G 1 g))) s.heap.size q := hA.new
  have hS : va_S (hA (hj f (hc1 o (aL G 1 g))) s.heap.size) s.heap s.heap [] := va_S.rf
  replace hl : lv_has ls 6 [(0, .ref x), (1, .int p0), (2, .int n0), (3, .int w0), (4, .ref o)] := hl
  have hd := dj_1 (e := aL G 1 g) ho
  refine lv_aload hx hb d_L_told_0 (lv_at hl 4 rfl) ?_
  refine lv_iconst (v := 0) hx hb d_L_told_2 (by decide) ?_
  refine lv_aload_n hx hb d_L_told_3 rfl (lv_at hl 0 rfl) ?_
  refine lv_iload_n hx hb d_L_told_4 rfl (lv_at hl 1 rfl) ?_
  refine lv_iload_n hx hb d_L_told_5 rfl (lv_at hl 2 rfl) ?_
  refine lv_iload_n hx hb d_L_told_6 rfl (lv_at hl 3 rfl) ?_
  refine jx_calll (x_runV C hN hZ hl.1 (ct_B_told (sa := sa) hl0 f x a b hk p0 n0 w0 _) (cx_V C 3 wd_287 wd_288 wd_289 wd_1 wd_290 rfl rfl (by decide +kernel) ⟨Nat.le_of_ble_eq_true rfl, Nat.le_of_ble_eq_true rfl⟩) hP.left hS hA0 hk.1.1 rfl rfl rfl (Nat.le_of_ble_eq_true rfl) d_L_told_7 ⟨Nat.le_of_ble_eq_true rfl, Nat.le_of_ble_eq_true rfl⟩) hd hP hS hA0 (fun E ce q9 H locs hE hP hS z1 z2 z3 => ?_) (fun r f1 H locs hq hd hP hS => ?_)
  · obtain ⟨rfl, hI9⟩ := hE
    refine l_catch1 C hex (by decide) (by decide) wd_234 hN.2.2.2.2.1 z1 z2 z3 ?_
    refine lv_astore (lv' := [(5, .ref q9), (0, .ref x), (1, .int p0), (2, .int n0), (3, .int w0), (4, .ref o)]) hx hb d_L_told_14 hl (by decide) rfl (fun ls hl => ?_)
    refine lv_iconst (v := 1) hx hb d_L_told_16 (by decide) ?_
    exact g_iret C hP hS (⟨f, g, a, b, 0, rfl, ho, hk, Or.inr (Or.inr ⟨hI9, rfl, rfl⟩)⟩) (Nat.le_of_ble_eq_true rfl) (Nat.le_of_ble_eq_true rfl) d_L_told_17
  · obtain ⟨hI9, hK9, hu9⟩ := hq
    subst hu9
    have oo : hj f1 (hc1 o (aL G 1 g)) o = some (aL G 1 g) := (hj_r (dj_1n hd)).trans hc1_s
    refine g_lastN C hP hS oo (j := 0) (by decide) (by decide) d_L_told_10 (fun H locs hP hS => ?_)
    obtain ⟨g2, eg2⟩ : ∃ z99, z99 = vp_updL g 0 r := ⟨_, rfl⟩
    rw [← eg2] at hP
    rw [hj_upr (dj_1n hd), hc1_up] at hP
    refine lv_goto (tgt := 18) hx hb d_L_told_11 (by decide) ?_
    refine lv_iconst (v := 0) hx hb d_L_told_18 (by decide) ?_
    exact g_iret C hP hS (⟨f1, g2, a, b, r, rfl, dj_1n hd, hk, Or.inl ⟨hI9, trivial, rfl, ⟨hK9, rfl⟩, by rw [eg2]; rfl⟩⟩) (Nat.le_of_ble_eq_true rfl) (Nat.le_of_ble_eq_true rfl) d_L_told_19
set_option maxHeartbeats 4000000 in
set_option maxRecDepth 100000 in
theorem ct_L_ask {l : Launch} {G : hG} {sa : xS} (hl0 : l.stackTraces = false) (f : hm) (x : Nat) (a : AD) (b : BD) (hk : bk G f x a b) (o : Nat) (g : Nat → Int64) (ho : f o = none) (q0 : Int32) (n0 : Int32) (h0 : Int32) : li_ l G sa y_L_ask w_L_ask { frames := 8, cells := 3, slots := 18, locals := 160 } [.ref x, .int q0, .int n0, .int h0, .ref o] (hj f (hc1 o (aL G 1 g))) (fun k u => ∃ (f1 : hm) (g1 : Nat → Int64) (a1 : AD) (b1 : BD) (r : Int32), u = hj f1 (hc1 o (aL G 1 g1)) ∧ f1 o = none ∧ bk G f1 x a1 b1 ∧ lp (I_ask b q0 n0) (N_ask h0) b b1 k ((K_ask b q0 n0 h0 r b1) ∧ g1 0 = eb r)) := by
  intro sz
  refine l_ofW (cc := c_L_ask) (maxL := 6) (ret := (some .int)) (hh := h_L_ask) (by decide) rfl (Nat.le_of_ble_eq_true rfl) ?_
  intro p e s m below meth c ls C hex hN hZ hNc hsz hP hl
  obtain ⟨hx, hb, hml, hown, -, -, -, -⟩ := id C
  subst hsz
  have hA0 : ∀ q, s.heap.size ≤ q → hA (hj f (hc1 o (aL G 1 g))) s.heap.size q := hA.new
  have hS : va_S (hA (hj f (hc1 o (aL G 1 g))) s.heap.size) s.heap s.heap [] := va_S.rf
  replace hl : lv_has ls 6 [(0, .ref x), (1, .int q0), (2, .int n0), (3, .int h0), (4, .ref o)] := hl
  have hd := dj_1 (e := aL G 1 g) ho
  refine lv_aload hx hb d_L_ask_0 (lv_at hl 4 rfl) ?_
  refine lv_iconst (v := 0) hx hb d_L_ask_2 (by decide) ?_
  refine lv_aload_n hx hb d_L_ask_3 rfl (lv_at hl 0 rfl) ?_
  refine lv_iload_n hx hb d_L_ask_4 rfl (lv_at hl 1 rfl) ?_
  refine lv_iload_n hx hb d_L_ask_5 rfl (lv_at hl 2 rfl) ?_
  refine lv_iload_n hx hb d_L_ask_6 rfl (lv_at hl 3 rfl) ?_
  refine jx_calli (x_runV C hN hZ hl.1 (ct_B_ask (sa := sa) hl0 f x a b hk q0 n0 h0 _) (cx_V C 3 wd_299 wd_300 wd_301 wd_1 wd_302 rfl rfl (by decide +kernel) ⟨Nat.le_of_ble_eq_true rfl, Nat.le_of_ble_eq_true rfl⟩) hP.left hS hA0 hk.1.1 rfl rfl rfl (Nat.le_of_ble_eq_true rfl) d_L_ask_7 ⟨Nat.le_of_ble_eq_true rfl, Nat.le_of_ble_eq_true rfl⟩) hd hP hS hA0 (fun E ce q9 H locs hE hP hS z1 z2 z3 => ?_) (fun r f1 H locs hq hd hP hS => ?_)
  · rcases hE with ⟨rfl, hI9⟩ | ⟨rfl, hI9, hN9⟩
    · refine l_catch1 C hex (by decide) (by decide) wd_234 hN.2.2.2.2.1 z1 z2 z3 ?_
      refine lv_astore (lv' := [(5, .ref q9), (0, .ref x), (1, .int q0), (2, .int n0), (3, .int h0), (4, .ref o)]) hx hb d_L_ask_22 hl (by decide) rfl (fun ls hl => ?_)
      refine lv_iconst (v := 1) hx hb d_L_ask_24 (by decide) ?_
      exact g_iret C hP hS (⟨f, g, a, b, 0, rfl, ho, hk, Or.inr (Or.inr ⟨hI9, rfl, rfl⟩)⟩) (Nat.le_of_ble_eq_true rfl) (Nat.le_of_ble_eq_true rfl) d_L_ask_25
    · refine l_catch2 C hex (by decide) wd_234 hNc (by decide) (by decide) wd_69 hN.2.2.2.1 z1 z2 z3 ?_
      refine lv_astore (lv' := [(5, .ref q9), (0, .ref x), (1, .int q0), (2, .int n0), (3, .int h0), (4, .ref o)]) hx hb d_L_ask_26 hl (by decide) rfl (fun ls hl => ?_)
      refine lv_iconst (v := 2) hx hb d_L_ask_28 (by decide) ?_
      exact g_iret C hP hS (⟨f, g, a, b, 0, rfl, ho, hk, Or.inr (Or.inl ⟨hI9, hN9, rfl, rfl⟩)⟩) (Nat.le_of_ble_eq_true rfl) (Nat.le_of_ble_eq_true rfl) d_L_ask_29
  · obtain ⟨hI9, hN9, a1, b1, hk1, hK9⟩ := hq
    have oo : hj f1 (hc1 o (aL G 1 g)) o = some (aL G 1 g) := (hj_r (dj_1n hd)).trans hc1_s
    refine lv_if_eq (tgt := 17) hx hb d_L_ask_10 (by decide) (fun c_10 => ?_) (fun c_10 => ?_)
    · refine lv_lconst (v := 0) hx hb d_L_ask_17 (by decide) ?_
      refine g_lastN C hP hS oo (j := 0) (by decide) (by decide) d_L_ask_18 (fun H locs hP hS => ?_)
      obtain ⟨g2, eg2⟩ : ∃ z99, z99 = vp_updL g 0 0 := ⟨_, rfl⟩
      rw [← eg2] at hP
      rw [hj_upr (dj_1n hd), hc1_up] at hP
      refine lv_goto (tgt := 30) hx hb d_L_ask_19 (by decide) ?_
      refine lv_iconst (v := 0) hx hb d_L_ask_30 (by decide) ?_
      exact g_iret C hP hS (⟨f1, g2, a1, b1, r, rfl, dj_1n hd, hk1, Or.inl ⟨hI9, hN9, rfl, hK9, by rw [eg2]; first | exact (eb_t c_10).symm | exact (eb_f c_10).symm⟩⟩) (Nat.le_of_ble_eq_true rfl) (Nat.le_of_ble_eq_true rfl) d_L_ask_31
    · refine lv_lconst (v := 1) hx hb d_L_ask_13 (by decide) ?_
      refine lv_goto (tgt := 18) hx hb d_L_ask_14 (by decide) ?_
      refine g_lastN C hP hS oo (j := 0) (by decide) (by decide) d_L_ask_18 (fun H locs hP hS => ?_)
      obtain ⟨g4, eg4⟩ : ∃ z99, z99 = vp_updL g 0 1 := ⟨_, rfl⟩
      rw [← eg4] at hP
      rw [hj_upr (dj_1n hd), hc1_up] at hP
      refine lv_goto (tgt := 30) hx hb d_L_ask_19 (by decide) ?_
      refine lv_iconst (v := 0) hx hb d_L_ask_30 (by decide) ?_
      exact g_iret C hP hS (⟨f1, g4, a1, b1, r, rfl, dj_1n hd, hk1, Or.inl ⟨hI9, hN9, rfl, hK9, by rw [eg4]; first | exact (eb_t c_10).symm | exact (eb_f c_10).symm⟩⟩) (Nat.le_of_ble_eq_true rfl) (Nat.le_of_ble_eq_true rfl) d_L_ask_31
set_option maxHeartbeats 4000000 in
set_option maxRecDepth 100000 in
theorem ct_L_alternates {l : Launch} {G : hG} {sa : xS} (hl0 : l.stackTraces = false) (f : hm) (x : Nat) (a : AD) (b : BD) (hk : bk G f x a b) (o : Nat) (g : Nat → Int64) (ho : f o = none) (p0 : Int32) (q0 : Int32) : li_ l G sa y_L_alternates w_L_alternates { frames := 9, cells := 2, slots := 12, locals := 200 } [.ref x, .int p0, .int q0, .ref o] (hj f (hc1 o (aL G 1 g))) (fun k u => ∃ (f1 : hm) (g1 : Nat → Int64) (a1 : AD) (b1 : BD) (r : Int32), u = hj f1 (hc1 o (aL G 1 g1)) ∧ f1 o = none ∧ bk G f1 x a1 b1 ∧ lp (I_alt b p0 q0) (True) b b1 k ((K_alt b p0 q0 r b1) ∧ g1 0 = r.toInt64)) := by
  intro sz
  refine l_ofW (cc := c_L_alternates) (maxL := 5) (ret := (some .int)) (hh := h_L_alternates) (by decide) rfl (Nat.le_of_ble_eq_true rfl) ?_
  intro p e s m below meth c ls C hex hN hZ hNc hsz hP hl
  obtain ⟨hx, hb, hml, hown, -, -, -, -⟩ := id C
  subst hsz
  have hA0 : ∀ q, s.heap.size ≤ q → hA (hj f (hc1 o (aL G 1 g))) s.heap.size q := hA.new
  have hS : va_S (hA (hj f (hc1 o (aL G 1 g))) s.heap.size) s.heap s.heap [] := va_S.rf
  replace hl : lv_has ls 5 [(0, .ref x), (1, .int p0), (2, .int q0), (3, .ref o)] := hl
  have hd := dj_1 (e := aL G 1 g) ho
  refine lv_aload_n hx hb d_L_alternates_0 rfl (lv_at hl 3 rfl) ?_
  refine lv_iconst (v := 0) hx hb d_L_alternates_1 (by decide) ?_
  refine lv_aload_n hx hb d_L_alternates_2 rfl (lv_at hl 0 rfl) ?_
  refine lv_iload_n hx hb d_L_alternates_3 rfl (lv_at hl 1 rfl) ?_
  refine lv_iload_n hx hb d_L_alternates_4 rfl (lv_at hl 2 rfl) ?_
  refine jx_calli (x_runV C hN hZ hl.1 (ct_B_alternates (sa := sa) hl0 f x a b hk p0 q0 _) (cx_V C 2 wd_307 wd_308 wd_309 wd_1 wd_310 rfl rfl (by decide +kernel) ⟨Nat.le_of_ble_eq_true rfl, Nat.le_of_ble_eq_true rfl⟩) hP.left hS hA0 hk.1.1 rfl rfl rfl (Nat.le_of_ble_eq_true rfl) d_L_alternates_5 ⟨Nat.le_of_ble_eq_true rfl, Nat.le_of_ble_eq_true rfl⟩) hd hP hS hA0 (fun E ce q9 H locs hE hP hS z1 z2 z3 => ?_) (fun r f1 H locs hq hd hP hS => ?_)
  · obtain ⟨rfl, hI9⟩ := hE
    refine l_catch1 C hex (by decide) (by decide) wd_234 hN.2.2.2.2.1 z1 z2 z3 ?_
    refine lv_astore (lv' := [(4, .ref q9), (0, .ref x), (1, .int p0), (2, .int q0), (3, .ref o)]) hx hb d_L_alternates_13 hl (by decide) rfl (fun ls hl => ?_)
    refine lv_iconst (v := 1) hx hb d_L_alternates_15 (by decide) ?_
    exact g_iret C hP hS (⟨f, g, a, b, 0, rfl, ho, hk, Or.inr (Or.inr ⟨hI9, rfl, rfl⟩)⟩) (Nat.le_of_ble_eq_true rfl) (Nat.le_of_ble_eq_true rfl) d_L_alternates_16
  · obtain ⟨hI9, a1, b1, hk1, hK9⟩ := hq
    have oo : hj f1 (hc1 o (aL G 1 g)) o = some (aL G 1 g) := (hj_r (dj_1n hd)).trans hc1_s
    refine lv_i2l (v := r.toInt64) hx hb d_L_alternates_8 rfl ?_
    refine g_lastN C hP hS oo (j := 0) (by decide) (by decide) d_L_alternates_9 (fun H locs hP hS => ?_)
    obtain ⟨g2, eg2⟩ : ∃ z99, z99 = vp_updL g 0 r.toInt64 := ⟨_, rfl⟩
    rw [← eg2] at hP
    rw [hj_upr (dj_1n hd), hc1_up] at hP
    refine lv_goto (tgt := 17) hx hb d_L_alternates_10 (by decide) ?_
    refine lv_iconst (v := 0) hx hb d_L_alternates_17 (by decide) ?_
    exact g_iret C hP hS (⟨f1, g2, a1, b1, r, rfl, dj_1n hd, hk1, Or.inl ⟨hI9, trivial, rfl, hK9, by rw [eg2]; rfl⟩⟩) (Nat.le_of_ble_eq_true rfl) (Nat.le_of_ble_eq_true rfl) d_L_alternates_18
set_option maxHeartbeats 4000000 in
set_option maxRecDepth 100000 in
theorem ct_L_search {l : Launch} {G : hG} {sa : xS} (hl0 : l.stackTraces = false) (f : hm) (x : Nat) (a : AD) (b : BD) (hk : bk G f x a b) (o : Nat) (g : Nat → Int64) (ho : f o = none) (n0 : Int32) (x0 : Int64) (y0 : Int64) (z0 : Int64) (w0 : Int64) : li_ l G sa y_L_search w_L_search { frames := 9, cells := 5, slots := 30, locals := 200 } [.ref x, .int n0, .long x0, .long y0, .long z0, .long w0, .ref o] (hj f (hc1 o (aL G 1 g))) (fun k u => ∃ (f1 : hm) (g1 : Nat → Int64) (a1 : AD) (b1 : BD) (r : Int32), u = hj f1 (hc1 o (aL G 1 g1)) ∧ f1 o = none ∧ bk G f1 x a1 b1 ∧ lp (okx n0 12) (N_search x0 y0 z0 w0) b b1 k ((K_search b n0 x0 y0 z0 w0 r b1) ∧ g1 0 = r.toInt64)) := by
  intro sz
  refine l_ofW (cc := c_L_search) (maxL := 12) (ret := (some .int)) (hh := h_L_search) (by decide) rfl (Nat.le_of_ble_eq_true rfl) ?_
  intro p e s m below meth c ls C hex hN hZ hNc hsz hP hl
  obtain ⟨hx, hb, hml, hown, -, -, -, -⟩ := id C
  subst hsz
  have hA0 : ∀ q, s.heap.size ≤ q → hA (hj f (hc1 o (aL G 1 g))) s.heap.size q := hA.new
  have hS : va_S (hA (hj f (hc1 o (aL G 1 g))) s.heap.size) s.heap s.heap [] := va_S.rf
  replace hl : lv_has ls 12 [(0, .ref x), (1, .int n0), (2, .long x0), (4, .long y0), (6, .long z0), (8, .long w0), (10, .ref o)] := hl
  have hd := dj_1 (e := aL G 1 g) ho
  refine lv_aload hx hb d_L_search_0 (lv_at hl 6 rfl) ?_
  refine lv_iconst (v := 0) hx hb d_L_search_2 (by decide) ?_
  refine lv_aload_n hx hb d_L_search_3 rfl (lv_at hl 0 rfl) ?_
  refine lv_iload_n hx hb d_L_search_4 rfl (lv_at hl 1 rfl) ?_
  refine lv_lload_n hx hb d_L_search_5 rfl (lv_at hl 2 rfl) ?_
  refine lv_lload hx hb d_L_search_6 (lv_at hl 3 rfl) ?_
  refine lv_lload hx hb d_L_search_8 (lv_at hl 4 rfl) ?_
  refine lv_lload hx hb d_L_search_10 (lv_at hl 5 rfl) ?_
  refine jx_calli (x_runV C hN hZ hl.1 (ct_B_search (sa := sa) hl0 f x a b hk n0 x0 y0 z0 w0 _) (cx_V C 5 wd_340 wd_341 wd_342 wd_1 wd_343 rfl rfl (by decide +kernel) ⟨Nat.le_of_ble_eq_true rfl, Nat.le_of_ble_eq_true rfl⟩) hP.left hS hA0 hk.1.1 rfl rfl rfl (Nat.le_of_ble_eq_true rfl) d_L_search_12 ⟨Nat.le_of_ble_eq_true rfl, Nat.le_of_ble_eq_true rfl⟩) hd hP hS hA0 (fun E ce q9 H locs hE hP hS z1 z2 z3 => ?_) (fun r f1 H locs hq hd hP hS => ?_)
  · rcases hE with ⟨rfl, hI9⟩ | ⟨rfl, hI9, hN9⟩
    · refine l_catch1 C hex (by decide) (by decide) wd_234 hN.2.2.2.2.1 z1 z2 z3 ?_
      refine lv_astore (lv' := [(11, .ref q9), (0, .ref x), (1, .int n0), (2, .long x0), (4, .long y0), (6, .long z0), (8, .long w0), (10, .ref o)]) hx hb d_L_search_20 hl (by decide) rfl (fun ls hl => ?_)
      refine lv_iconst (v := 1) hx hb d_L_search_22 (by decide) ?_
      exact g_iret C hP hS (⟨f, g, a, b, 0, rfl, ho, hk, Or.inr (Or.inr ⟨hI9, rfl, rfl⟩)⟩) (Nat.le_of_ble_eq_true rfl) (Nat.le_of_ble_eq_true rfl) d_L_search_23
    · refine l_catch2 C hex (by decide) wd_234 hNc (by decide) (by decide) wd_69 hN.2.2.2.1 z1 z2 z3 ?_
      refine lv_astore (lv' := [(11, .ref q9), (0, .ref x), (1, .int n0), (2, .long x0), (4, .long y0), (6, .long z0), (8, .long w0), (10, .ref o)]) hx hb d_L_search_24 hl (by decide) rfl (fun ls hl => ?_)
      refine lv_iconst (v := 2) hx hb d_L_search_26 (by decide) ?_
      exact g_iret C hP hS (⟨f, g, a, b, 0, rfl, ho, hk, Or.inr (Or.inl ⟨hI9, hN9, rfl, rfl⟩)⟩) (Nat.le_of_ble_eq_true rfl) (Nat.le_of_ble_eq_true rfl) d_L_search_27
  · obtain ⟨hI9, hN9, a1, b1, hk1, hK9⟩ := hq
    have oo : hj f1 (hc1 o (aL G 1 g)) o = some (aL G 1 g) := (hj_r (dj_1n hd)).trans hc1_s
    refine lv_i2l (v := r.toInt64) hx hb d_L_search_15 rfl ?_
    refine g_lastN C hP hS oo (j := 0) (by decide) (by decide) d_L_search_16 (fun H locs hP hS => ?_)
    obtain ⟨g2, eg2⟩ : ∃ z99, z99 = vp_updL g 0 r.toInt64 := ⟨_, rfl⟩
    rw [← eg2] at hP
    rw [hj_upr (dj_1n hd), hc1_up] at hP
    refine lv_goto (tgt := 28) hx hb d_L_search_17 (by decide) ?_
    refine lv_iconst (v := 0) hx hb d_L_search_28 (by decide) ?_
    exact g_iret C hP hS (⟨f1, g2, a1, b1, r, rfl, dj_1n hd, hk1, Or.inl ⟨hI9, hN9, rfl, hK9, by rw [eg2]; rfl⟩⟩) (Nat.le_of_ble_eq_true rfl) (Nat.le_of_ble_eq_true rfl) d_L_search_29
set_option maxHeartbeats 4000000 in
set_option maxRecDepth 100000 in
theorem ct_L_price {l : Launch} {G : hG} {sa : xS} (hl0 : l.stackTraces = false) (f : hm) (x : Nat) (a : AD) (b : BD) (hk : bk G f x a b) (o : Nat) (g : Nat → Int64) (ho : f o = none) (p0 : Int32) (m0 : Int32) (c0 : Int64) (u0 : Int32) : li_ l G sa y_L_price w_L_price { frames := 8, cells := 4, slots := 24, locals := 160 } [.ref x, .int p0, .int m0, .long c0, .int u0, .ref o] (hj f (hc1 o (aL G 1 g))) (fun k u => ∃ (f1 : hm) (g1 : Nat → Int64) (a1 : AD) (b1 : BD) (r : Int32), u = hj f1 (hc1 o (aL G 1 g1)) ∧ f1 o = none ∧ bk G f1 x a1 b1 ∧ lp (I_price b p0 u0) (N_price m0 c0) b b1 k ((K_price b p0 m0 c0 u0 r b1) ∧ g1 0 = eb r)) := by
  intro sz
  refine l_ofW (cc := c_L_price) (maxL := 8) (ret := (some .int)) (hh := h_L_price) (by decide) rfl (Nat.le_of_ble_eq_true rfl) ?_
  intro p e s m below meth c ls C hex hN hZ hNc hsz hP hl
  obtain ⟨hx, hb, hml, hown, -, -, -, -⟩ := id C
  subst hsz
  have hA0 : ∀ q, s.heap.size ≤ q → hA (hj f (hc1 o (aL G 1 g))) s.heap.size q := hA.new
  have hS : va_S (hA (hj f (hc1 o (aL G 1 g))) s.heap.size) s.heap s.heap [] := va_S.rf
  replace hl : lv_has ls 8 [(0, .ref x), (1, .int p0), (2, .int m0), (3, .long c0), (5, .int u0), (6, .ref o)] := hl
  have hd := dj_1 (e := aL G 1 g) ho
  refine lv_aload hx hb d_L_price_0 (lv_at hl 5 rfl) ?_
  refine lv_iconst (v := 0) hx hb d_L_price_2 (by decide) ?_
  refine lv_aload_n hx hb d_L_price_3 rfl (lv_at hl 0 rfl) ?_
  refine lv_iload_n hx hb d_L_price_4 rfl (lv_at hl 1 rfl) ?_
  refine lv_iload_n hx hb d_L_price_5 rfl (lv_at hl 2 rfl) ?_
  refine lv_lload_n hx hb d_L_price_6 rfl (lv_at hl 3 rfl) ?_
  refine lv_iload hx hb d_L_price_7 (lv_at hl 4 rfl) ?_
  refine jx_calli (x_runV C hN hZ hl.1 (ct_B_price (sa := sa) hl0 f x a b hk p0 m0 c0 u0 _) (cx_V C 4 wd_347 wd_348 wd_349 wd_1 wd_350 rfl rfl (by decide +kernel) ⟨Nat.le_of_ble_eq_true rfl, Nat.le_of_ble_eq_true rfl⟩) hP.left hS hA0 hk.1.1 rfl rfl rfl (Nat.le_of_ble_eq_true rfl) d_L_price_9 ⟨Nat.le_of_ble_eq_true rfl, Nat.le_of_ble_eq_true rfl⟩) hd hP hS hA0 (fun E ce q9 H locs hE hP hS z1 z2 z3 => ?_) (fun r f1 H locs hq hd hP hS => ?_)
  · rcases hE with ⟨rfl, hI9⟩ | ⟨rfl, hI9, hN9⟩
    · refine l_catch1 C hex (by decide) (by decide) wd_234 hN.2.2.2.2.1 z1 z2 z3 ?_
      refine lv_astore (lv' := [(7, .ref q9), (0, .ref x), (1, .int p0), (2, .int m0), (3, .long c0), (5, .int u0), (6, .ref o)]) hx hb d_L_price_24 hl (by decide) rfl (fun ls hl => ?_)
      refine lv_iconst (v := 1) hx hb d_L_price_26 (by decide) ?_
      exact g_iret C hP hS (⟨f, g, a, b, 0, rfl, ho, hk, Or.inr (Or.inr ⟨hI9, rfl, rfl⟩)⟩) (Nat.le_of_ble_eq_true rfl) (Nat.le_of_ble_eq_true rfl) d_L_price_27
    · refine l_catch2 C hex (by decide) wd_234 hNc (by decide) (by decide) wd_69 hN.2.2.2.1 z1 z2 z3 ?_
      refine lv_astore (lv' := [(7, .ref q9), (0, .ref x), (1, .int p0), (2, .int m0), (3, .long c0), (5, .int u0), (6, .ref o)]) hx hb d_L_price_28 hl (by decide) rfl (fun ls hl => ?_)
      refine lv_iconst (v := 2) hx hb d_L_price_30 (by decide) ?_
      exact g_iret C hP hS (⟨f, g, a, b, 0, rfl, ho, hk, Or.inr (Or.inl ⟨hI9, hN9, rfl, rfl⟩)⟩) (Nat.le_of_ble_eq_true rfl) (Nat.le_of_ble_eq_true rfl) d_L_price_31
  · obtain ⟨hI9, hN9, a1, b1, hk1, hK9⟩ := hq
    have oo : hj f1 (hc1 o (aL G 1 g)) o = some (aL G 1 g) := (hj_r (dj_1n hd)).trans hc1_s
    refine lv_if_eq (tgt := 19) hx hb d_L_price_12 (by decide) (fun c_12 => ?_) (fun c_12 => ?_)
    · refine lv_lconst (v := 0) hx hb d_L_price_19 (by decide) ?_
      refine g_lastN C hP hS oo (j := 0) (by decide) (by decide) d_L_price_20 (fun H locs hP hS => ?_)
      obtain ⟨g2, eg2⟩ : ∃ z99, z99 = vp_updL g 0 0 := ⟨_, rfl⟩
      rw [← eg2] at hP
      rw [hj_upr (dj_1n hd), hc1_up] at hP
      refine lv_goto (tgt := 32) hx hb d_L_price_21 (by decide) ?_
      refine lv_iconst (v := 0) hx hb d_L_price_32 (by decide) ?_
      exact g_iret C hP hS (⟨f1, g2, a1, b1, r, rfl, dj_1n hd, hk1, Or.inl ⟨hI9, hN9, rfl, hK9, by rw [eg2]; first | exact (eb_t c_12).symm | exact (eb_f c_12).symm⟩⟩) (Nat.le_of_ble_eq_true rfl) (Nat.le_of_ble_eq_true rfl) d_L_price_33
    · refine lv_lconst (v := 1) hx hb d_L_price_15 (by decide) ?_
      refine lv_goto (tgt := 20) hx hb d_L_price_16 (by decide) ?_
      refine g_lastN C hP hS oo (j := 0) (by decide) (by decide) d_L_price_20 (fun H locs hP hS => ?_)
      obtain ⟨g4, eg4⟩ : ∃ z99, z99 = vp_updL g 0 1 := ⟨_, rfl⟩
      rw [← eg4] at hP
      rw [hj_upr (dj_1n hd), hc1_up] at hP
      refine lv_goto (tgt := 32) hx hb d_L_price_21 (by decide) ?_
      refine lv_iconst (v := 0) hx hb d_L_price_32 (by decide) ?_
      exact g_iret C hP hS (⟨f1, g4, a1, b1, r, rfl, dj_1n hd, hk1, Or.inl ⟨hI9, hN9, rfl, hK9, by rw [eg4]; first | exact (eb_t c_12).symm | exact (eb_f c_12).symm⟩⟩) (Nat.le_of_ble_eq_true rfl) (Nat.le_of_ble_eq_true rfl) d_L_price_33
set_option maxHeartbeats 4000000 in
set_option maxRecDepth 100000 in
theorem ct_L_rate {l : Launch} {G : hG} {sa : xS} (hl0 : l.stackTraces = false) (f : hm) (x : Nat) (a : AD) (b : BD) (hk : bk G f x a b) (o : Nat) (g : Nat → Int64) (ho : f o = none) (c0 : Int32) (v0 : Int64) : li_ l G sa y_L_rate w_L_rate { frames := 8, cells := 2, slots := 12, locals := 160 } [.ref x, .int c0, .long v0, .ref o] (hj f (hc1 o (aL G 1 g))) (fun k u => ∃ (f1 : hm) (g1 : Nat → Int64) (a1 : AD) (b1 : BD) (r : Int32), u = hj f1 (hc1 o (aL G 1 g1)) ∧ f1 o = none ∧ bk G f1 x a1 b1 ∧ lp (I_rate c0) (N_rate v0) b b1 k ((K_rate b c0 v0 r b1) ∧ g1 0 = eb r)) := by
  intro sz
  refine l_ofW (cc := c_L_rate) (maxL := 6) (ret := (some .int)) (hh := h_L_rate) (by decide) rfl (Nat.le_of_ble_eq_true rfl) ?_
  intro p e s m below meth c ls C hex hN hZ hNc hsz hP hl
  obtain ⟨hx, hb, hml, hown, -, -, -, -⟩ := id C
  subst hsz
  have hA0 : ∀ q, s.heap.size ≤ q → hA (hj f (hc1 o (aL G 1 g))) s.heap.size q := hA.new
  have hS : va_S (hA (hj f (hc1 o (aL G 1 g))) s.heap.size) s.heap s.heap [] := va_S.rf
  replace hl : lv_has ls 6 [(0, .ref x), (1, .int c0), (2, .long v0), (4, .ref o)] := hl
  have hd := dj_1 (e := aL G 1 g) ho
  refine lv_aload hx hb d_L_rate_0 (lv_at hl 3 rfl) ?_
  refine lv_iconst (v := 0) hx hb d_L_rate_2 (by decide) ?_
  refine lv_aload_n hx hb d_L_rate_3 rfl (lv_at hl 0 rfl) ?_
  refine lv_iload_n hx hb d_L_rate_4 rfl (lv_at hl 1 rfl) ?_
  refine lv_lload_n hx hb d_L_rate_5 rfl (lv_at hl 2 rfl) ?_
  refine jx_calli (x_runV C hN hZ hl.1 (ct_B_rate (sa := sa) hl0 f x a b hk c0 v0 _) (cx_V C 2 wd_367 wd_368 wd_369 wd_1 wd_370 rfl rfl (by decide +kernel) ⟨Nat.le_of_ble_eq_true rfl, Nat.le_of_ble_eq_true rfl⟩) hP.left hS hA0 hk.1.1 rfl rfl rfl (Nat.le_of_ble_eq_true rfl) d_L_rate_6 ⟨Nat.le_of_ble_eq_true rfl, Nat.le_of_ble_eq_true rfl⟩) hd hP hS hA0 (fun E ce q9 H locs hE hP hS z1 z2 z3 => ?_) (fun r f1 H locs hq hd hP hS => ?_)
  · rcases hE with ⟨rfl, hI9⟩ | ⟨rfl, hI9, hN9⟩
    · refine l_catch1 C hex (by decide) (by decide) wd_234 hN.2.2.2.2.1 z1 z2 z3 ?_
      refine lv_astore (lv' := [(5, .ref q9), (0, .ref x), (1, .int c0), (2, .long v0), (4, .ref o)]) hx hb d_L_rate_21 hl (by decide) rfl (fun ls hl => ?_)
      refine lv_iconst (v := 1) hx hb d_L_rate_23 (by decide) ?_
      exact g_iret C hP hS (⟨f, g, a, b, 0, rfl, ho, hk, Or.inr (Or.inr ⟨hI9, rfl, rfl⟩)⟩) (Nat.le_of_ble_eq_true rfl) (Nat.le_of_ble_eq_true rfl) d_L_rate_24
    · refine l_catch2 C hex (by decide) wd_234 hNc (by decide) (by decide) wd_69 hN.2.2.2.1 z1 z2 z3 ?_
      refine lv_astore (lv' := [(5, .ref q9), (0, .ref x), (1, .int c0), (2, .long v0), (4, .ref o)]) hx hb d_L_rate_25 hl (by decide) rfl (fun ls hl => ?_)
      refine lv_iconst (v := 2) hx hb d_L_rate_27 (by decide) ?_
      exact g_iret C hP hS (⟨f, g, a, b, 0, rfl, ho, hk, Or.inr (Or.inl ⟨hI9, hN9, rfl, rfl⟩)⟩) (Nat.le_of_ble_eq_true rfl) (Nat.le_of_ble_eq_true rfl) d_L_rate_28
  · obtain ⟨hI9, hN9, a1, b1, hk1, hK9⟩ := hq
    have oo : hj f1 (hc1 o (aL G 1 g)) o = some (aL G 1 g) := (hj_r (dj_1n hd)).trans hc1_s
    refine lv_if_eq (tgt := 16) hx hb d_L_rate_9 (by decide) (fun c_9 => ?_) (fun c_9 => ?_)
    · refine lv_lconst (v := 0) hx hb d_L_rate_16 (by decide) ?_
      refine g_lastN C hP hS oo (j := 0) (by decide) (by decide) d_L_rate_17 (fun H locs hP hS => ?_)
      obtain ⟨g2, eg2⟩ : ∃ z99, z99 = vp_updL g 0 0 := ⟨_, rfl⟩
      rw [← eg2] at hP
      rw [hj_upr (dj_1n hd), hc1_up] at hP
      refine lv_goto (tgt := 29) hx hb d_L_rate_18 (by decide) ?_
      refine lv_iconst (v := 0) hx hb d_L_rate_29 (by decide) ?_
      exact g_iret C hP hS (⟨f1, g2, a1, b1, r, rfl, dj_1n hd, hk1, Or.inl ⟨hI9, hN9, rfl, hK9, by rw [eg2]; first | exact (eb_t c_9).symm | exact (eb_f c_9).symm⟩⟩) (Nat.le_of_ble_eq_true rfl) (Nat.le_of_ble_eq_true rfl) d_L_rate_30
    · refine lv_lconst (v := 1) hx hb d_L_rate_12 (by decide) ?_
      refine lv_goto (tgt := 17) hx hb d_L_rate_13 (by decide) ?_
      refine g_lastN C hP hS oo (j := 0) (by decide) (by decide) d_L_rate_17 (fun H locs hP hS => ?_)
      obtain ⟨g4, eg4⟩ : ∃ z99, z99 = vp_updL g 0 1 := ⟨_, rfl⟩
      rw [← eg4] at hP
      rw [hj_upr (dj_1n hd), hc1_up] at hP
      refine lv_goto (tgt := 29) hx hb d_L_rate_18 (by decide) ?_
      refine lv_iconst (v := 0) hx hb d_L_rate_29 (by decide) ?_
      exact g_iret C hP hS (⟨f1, g4, a1, b1, r, rfl, dj_1n hd, hk1, Or.inl ⟨hI9, hN9, rfl, hK9, by rw [eg4]; first | exact (eb_t c_9).symm | exact (eb_f c_9).symm⟩⟩) (Nat.le_of_ble_eq_true rfl) (Nat.le_of_ble_eq_true rfl) d_L_rate_30
set_option maxHeartbeats 4000000 in
set_option maxRecDepth 100000 in
theorem ct_L_pack {l : Launch} {G : hG} {sa : xS} (hl0 : l.stackTraces = false) (f : hm) (x : Nat) (a : AD) (b : BD) (hk : bk G f x a b) (o : Nat) (g : Nat → Int64) (ho : f o = none) (p0 : Int32) (s0 : Int32) : li_ l G sa y_L_pack w_L_pack { frames := 8, cells := 3, slots := 325, locals := 190 } [.ref x, .int p0, .int s0, .ref o] (hj f (hc1 o (aL G 1 g))) (fun k u => ∃ (f1 : hm) (g1 : Nat → Int64) (a1 : AD) (b1 : BD) (r : Int32), u = hj f1 (hc1 o (aL G 1 g1)) ∧ f1 o = none ∧ bk G f1 x a1 b1 ∧ lp (okx p0 (bN b)) (N_pack s0) b b1 k ((K_pack b p0 s0 r b1) ∧ g1 0 = eb r)) := by
  intro sz
  refine l_ofW (cc := c_L_pack) (maxL := 5) (ret := (some .int)) (hh := h_L_pack) (by decide) rfl (Nat.le_of_ble_eq_true rfl) ?_
  intro p e s m below meth c ls C hex hN hZ hNc hsz hP hl
  obtain ⟨hx, hb, hml, hown, -, -, -, -⟩ := id C
  subst hsz
  have hA0 : ∀ q, s.heap.size ≤ q → hA (hj f (hc1 o (aL G 1 g))) s.heap.size q := hA.new
  have hS : va_S (hA (hj f (hc1 o (aL G 1 g))) s.heap.size) s.heap s.heap [] := va_S.rf
  replace hl : lv_has ls 5 [(0, .ref x), (1, .int p0), (2, .int s0), (3, .ref o)] := hl
  have hd := dj_1 (e := aL G 1 g) ho
  refine lv_aload_n hx hb d_L_pack_0 rfl (lv_at hl 3 rfl) ?_
  refine lv_iconst (v := 0) hx hb d_L_pack_1 (by decide) ?_
  refine lv_aload_n hx hb d_L_pack_2 rfl (lv_at hl 0 rfl) ?_
  refine lv_iload_n hx hb d_L_pack_3 rfl (lv_at hl 1 rfl) ?_
  refine lv_iload_n hx hb d_L_pack_4 rfl (lv_at hl 2 rfl) ?_
  refine jx_calli (x_runV C hN hZ hl.1 (ct_B_pack (sa := sa) hl0 f x a b hk p0 s0 _) (cx_V C 2 wd_374 wd_375 wd_376 wd_1 wd_377 rfl rfl (by decide +kernel) ⟨Nat.le_of_ble_eq_true rfl, Nat.le_of_ble_eq_true rfl⟩) hP.left hS hA0 hk.1.1 rfl rfl rfl (Nat.le_of_ble_eq_true rfl) d_L_pack_5 ⟨Nat.le_of_ble_eq_true rfl, Nat.le_of_ble_eq_true rfl⟩) hd hP hS hA0 (fun E ce q9 H locs hE hP hS z1 z2 z3 => ?_) (fun r f1 H locs hq hd hP hS => ?_)
  · rcases hE with ⟨rfl, hI9⟩ | ⟨rfl, hI9, hN9⟩
    · refine l_catch1 C hex (by decide) (by decide) wd_234 hN.2.2.2.2.1 z1 z2 z3 ?_
      refine lv_astore (lv' := [(4, .ref q9), (0, .ref x), (1, .int p0), (2, .int s0), (3, .ref o)]) hx hb d_L_pack_20 hl (by decide) rfl (fun ls hl => ?_)
      refine lv_iconst (v := 1) hx hb d_L_pack_22 (by decide) ?_
      exact g_iret C hP hS (⟨f, g, a, b, 0, rfl, ho, hk, Or.inr (Or.inr ⟨hI9, rfl, rfl⟩)⟩) (Nat.le_of_ble_eq_true rfl) (Nat.le_of_ble_eq_true rfl) d_L_pack_23
    · refine l_catch2 C hex (by decide) wd_234 hNc (by decide) (by decide) wd_69 hN.2.2.2.1 z1 z2 z3 ?_
      refine lv_astore (lv' := [(4, .ref q9), (0, .ref x), (1, .int p0), (2, .int s0), (3, .ref o)]) hx hb d_L_pack_24 hl (by decide) rfl (fun ls hl => ?_)
      refine lv_iconst (v := 2) hx hb d_L_pack_26 (by decide) ?_
      exact g_iret C hP hS (⟨f, g, a, b, 0, rfl, ho, hk, Or.inr (Or.inl ⟨hI9, hN9, rfl, rfl⟩)⟩) (Nat.le_of_ble_eq_true rfl) (Nat.le_of_ble_eq_true rfl) d_L_pack_27
  · obtain ⟨hI9, hN9, a1, b1, hk1, hK9⟩ := hq
    have oo : hj f1 (hc1 o (aL G 1 g)) o = some (aL G 1 g) := (hj_r (dj_1n hd)).trans hc1_s
    refine lv_if_eq (tgt := 15) hx hb d_L_pack_8 (by decide) (fun c_8 => ?_) (fun c_8 => ?_)
    · refine lv_lconst (v := 0) hx hb d_L_pack_15 (by decide) ?_
      refine g_lastN C hP hS oo (j := 0) (by decide) (by decide) d_L_pack_16 (fun H locs hP hS => ?_)
      obtain ⟨g2, eg2⟩ : ∃ z99, z99 = vp_updL g 0 0 := ⟨_, rfl⟩
      rw [← eg2] at hP
      rw [hj_upr (dj_1n hd), hc1_up] at hP
      refine lv_goto (tgt := 28) hx hb d_L_pack_17 (by decide) ?_
      refine lv_iconst (v := 0) hx hb d_L_pack_28 (by decide) ?_
      exact g_iret C hP hS (⟨f1, g2, a1, b1, r, rfl, dj_1n hd, hk1, Or.inl ⟨hI9, hN9, rfl, hK9, by rw [eg2]; first | exact (eb_t c_8).symm | exact (eb_f c_8).symm⟩⟩) (Nat.le_of_ble_eq_true rfl) (Nat.le_of_ble_eq_true rfl) d_L_pack_29
    · refine lv_lconst (v := 1) hx hb d_L_pack_11 (by decide) ?_
      refine lv_goto (tgt := 16) hx hb d_L_pack_12 (by decide) ?_
      refine g_lastN C hP hS oo (j := 0) (by decide) (by decide) d_L_pack_16 (fun H locs hP hS => ?_)
      obtain ⟨g4, eg4⟩ : ∃ z99, z99 = vp_updL g 0 1 := ⟨_, rfl⟩
      rw [← eg4] at hP
      rw [hj_upr (dj_1n hd), hc1_up] at hP
      refine lv_goto (tgt := 28) hx hb d_L_pack_17 (by decide) ?_
      refine lv_iconst (v := 0) hx hb d_L_pack_28 (by decide) ?_
      exact g_iret C hP hS (⟨f1, g4, a1, b1, r, rfl, dj_1n hd, hk1, Or.inl ⟨hI9, hN9, rfl, hK9, by rw [eg4]; first | exact (eb_t c_8).symm | exact (eb_f c_8).symm⟩⟩) (Nat.le_of_ble_eq_true rfl) (Nat.le_of_ble_eq_true rfl) d_L_pack_29
set_option maxHeartbeats 4000000 in
set_option maxRecDepth 100000 in
theorem ct_L_stock {l : Launch} {G : hG} {sa : xS} (hl0 : l.stackTraces = false) (f : hm) (x : Nat) (a : AD) (b : BD) (hk : bk G f x a b) (o : Nat) (g : Nat → Int64) (ho : f o = none) (p0 : Int32) (n0 : Int32) : li_ l G sa y_L_stock w_L_stock { frames := 8, cells := 2, slots := 12, locals := 160 } [.ref x, .int p0, .int n0, .ref o] (hj f (hc1 o (aL G 1 g))) (fun k u => ∃ (f1 : hm) (g1 : Nat → Int64) (a1 : AD) (b1 : BD) (r : Int32), u = hj f1 (hc1 o (aL G 1 g1)) ∧ f1 o = none ∧ bk G f1 x a1 b1 ∧ lp (okx p0 (bN b)) (N_stock n0) b b1 k ((K_stock b p0 n0 r b1) ∧ g1 0 = eb r)) := by
  intro sz
  refine l_ofW (cc := c_L_stock) (maxL := 5) (ret := (some .int)) (hh := h_L_stock) (by decide) rfl (Nat.le_of_ble_eq_true rfl) ?_
  intro p e s m below meth c ls C hex hN hZ hNc hsz hP hl
  obtain ⟨hx, hb, hml, hown, -, -, -, -⟩ := id C
  subst hsz
  have hA0 : ∀ q, s.heap.size ≤ q → hA (hj f (hc1 o (aL G 1 g))) s.heap.size q := hA.new
  have hS : va_S (hA (hj f (hc1 o (aL G 1 g))) s.heap.size) s.heap s.heap [] := va_S.rf
  replace hl : lv_has ls 5 [(0, .ref x), (1, .int p0), (2, .int n0), (3, .ref o)] := hl
  have hd := dj_1 (e := aL G 1 g) ho
  refine lv_aload_n hx hb d_L_stock_0 rfl (lv_at hl 3 rfl) ?_
  refine lv_iconst (v := 0) hx hb d_L_stock_1 (by decide) ?_
  refine lv_aload_n hx hb d_L_stock_2 rfl (lv_at hl 0 rfl) ?_
  refine lv_iload_n hx hb d_L_stock_3 rfl (lv_at hl 1 rfl) ?_
  refine lv_iload_n hx hb d_L_stock_4 rfl (lv_at hl 2 rfl) ?_
  refine jx_calli (x_runV C hN hZ hl.1 (ct_B_stock (sa := sa) hl0 f x a b hk p0 n0 _) (cx_V C 2 wd_395 wd_396 wd_397 wd_1 wd_398 rfl rfl (by decide +kernel) ⟨Nat.le_of_ble_eq_true rfl, Nat.le_of_ble_eq_true rfl⟩) hP.left hS hA0 hk.1.1 rfl rfl rfl (Nat.le_of_ble_eq_true rfl) d_L_stock_5 ⟨Nat.le_of_ble_eq_true rfl, Nat.le_of_ble_eq_true rfl⟩) hd hP hS hA0 (fun E ce q9 H locs hE hP hS z1 z2 z3 => ?_) (fun r f1 H locs hq hd hP hS => ?_)
  · rcases hE with ⟨rfl, hI9⟩ | ⟨rfl, hI9, hN9⟩
    · refine l_catch1 C hex (by decide) (by decide) wd_234 hN.2.2.2.2.1 z1 z2 z3 ?_
      refine lv_astore (lv' := [(4, .ref q9), (0, .ref x), (1, .int p0), (2, .int n0), (3, .ref o)]) hx hb d_L_stock_20 hl (by decide) rfl (fun ls hl => ?_)
      refine lv_iconst (v := 1) hx hb d_L_stock_22 (by decide) ?_
      exact g_iret C hP hS (⟨f, g, a, b, 0, rfl, ho, hk, Or.inr (Or.inr ⟨hI9, rfl, rfl⟩)⟩) (Nat.le_of_ble_eq_true rfl) (Nat.le_of_ble_eq_true rfl) d_L_stock_23
    · refine l_catch2 C hex (by decide) wd_234 hNc (by decide) (by decide) wd_69 hN.2.2.2.1 z1 z2 z3 ?_
      refine lv_astore (lv' := [(4, .ref q9), (0, .ref x), (1, .int p0), (2, .int n0), (3, .ref o)]) hx hb d_L_stock_24 hl (by decide) rfl (fun ls hl => ?_)
      refine lv_iconst (v := 2) hx hb d_L_stock_26 (by decide) ?_
      exact g_iret C hP hS (⟨f, g, a, b, 0, rfl, ho, hk, Or.inr (Or.inl ⟨hI9, hN9, rfl, rfl⟩)⟩) (Nat.le_of_ble_eq_true rfl) (Nat.le_of_ble_eq_true rfl) d_L_stock_27
  · obtain ⟨hI9, hN9, a1, b1, hk1, hK9⟩ := hq
    have oo : hj f1 (hc1 o (aL G 1 g)) o = some (aL G 1 g) := (hj_r (dj_1n hd)).trans hc1_s
    refine lv_if_eq (tgt := 15) hx hb d_L_stock_8 (by decide) (fun c_8 => ?_) (fun c_8 => ?_)
    · refine lv_lconst (v := 0) hx hb d_L_stock_15 (by decide) ?_
      refine g_lastN C hP hS oo (j := 0) (by decide) (by decide) d_L_stock_16 (fun H locs hP hS => ?_)
      obtain ⟨g2, eg2⟩ : ∃ z99, z99 = vp_updL g 0 0 := ⟨_, rfl⟩
      rw [← eg2] at hP
      rw [hj_upr (dj_1n hd), hc1_up] at hP
      refine lv_goto (tgt := 28) hx hb d_L_stock_17 (by decide) ?_
      refine lv_iconst (v := 0) hx hb d_L_stock_28 (by decide) ?_
      exact g_iret C hP hS (⟨f1, g2, a1, b1, r, rfl, dj_1n hd, hk1, Or.inl ⟨hI9, hN9, rfl, hK9, by rw [eg2]; first | exact (eb_t c_8).symm | exact (eb_f c_8).symm⟩⟩) (Nat.le_of_ble_eq_true rfl) (Nat.le_of_ble_eq_true rfl) d_L_stock_29
    · refine lv_lconst (v := 1) hx hb d_L_stock_11 (by decide) ?_
      refine lv_goto (tgt := 16) hx hb d_L_stock_12 (by decide) ?_
      refine g_lastN C hP hS oo (j := 0) (by decide) (by decide) d_L_stock_16 (fun H locs hP hS => ?_)
      obtain ⟨g4, eg4⟩ : ∃ z99, z99 = vp_updL g 0 1 := ⟨_, rfl⟩
      rw [← eg4] at hP
      rw [hj_upr (dj_1n hd), hc1_up] at hP
      refine lv_goto (tgt := 28) hx hb d_L_stock_17 (by decide) ?_
      refine lv_iconst (v := 0) hx hb d_L_stock_28 (by decide) ?_
      exact g_iret C hP hS (⟨f1, g4, a1, b1, r, rfl, dj_1n hd, hk1, Or.inl ⟨hI9, hN9, rfl, hK9, by rw [eg4]; first | exact (eb_t c_8).symm | exact (eb_f c_8).symm⟩⟩) (Nat.le_of_ble_eq_true rfl) (Nat.le_of_ble_eq_true rfl) d_L_stock_29
set_option maxHeartbeats 4000000 in
set_option maxRecDepth 100000 in
theorem ct_L_life {l : Launch} {G : hG} {sa : xS} (hl0 : l.stackTraces = false) (f : hm) (x : Nat) (a : AD) (b : BD) (hk : bk G f x a b) (o : Nat) (g : Nat → Int64) (ho : f o = none) (p0 : Int32) (d0 : Int64) (s0 : Int32) : li_ l G sa y_L_life w_L_life { frames := 8, cells := 2, slots := 12, locals := 160 } [.ref x, .int p0, .long d0, .int s0, .ref o] (hj f (hc1 o (aL G 1 g))) (fun k u => ∃ (f1 : hm) (g1 : Nat → Int64) (a1 : AD) (b1 : BD) (r : Int32), u = hj f1 (hc1 o (aL G 1 g1)) ∧ f1 o = none ∧ bk G f1 x a1 b1 ∧ lp (okx p0 (bN b)) (N_life s0) b b1 k ((K_life b p0 d0 s0 r b1) ∧ g1 0 = eb r)) := by
  intro sz
  refine l_ofW (cc := c_L_life) (maxL := 7) (ret := (some .int)) (hh := h_L_life) (by decide) rfl (Nat.le_of_ble_eq_true rfl) ?_
  intro p e s m below meth c ls C hex hN hZ hNc hsz hP hl
  obtain ⟨hx, hb, hml, hown, -, -, -, -⟩ := id C
  subst hsz
  have hA0 : ∀ q, s.heap.size ≤ q → hA (hj f (hc1 o (aL G 1 g))) s.heap.size q := hA.new
  have hS : va_S (hA (hj f (hc1 o (aL G 1 g))) s.heap.size) s.heap s.heap [] := va_S.rf
  replace hl : lv_has ls 7 [(0, .ref x), (1, .int p0), (2, .long d0), (4, .int s0), (5, .ref o)] := hl
  have hd := dj_1 (e := aL G 1 g) ho
  refine lv_aload hx hb d_L_life_0 (lv_at hl 4 rfl) ?_
  refine lv_iconst (v := 0) hx hb d_L_life_2 (by decide) ?_
  refine lv_aload_n hx hb d_L_life_3 rfl (lv_at hl 0 rfl) ?_
  refine lv_iload_n hx hb d_L_life_4 rfl (lv_at hl 1 rfl) ?_
  refine lv_lload_n hx hb d_L_life_5 rfl (lv_at hl 2 rfl) ?_
  refine lv_iload hx hb d_L_life_6 (lv_at hl 3 rfl) ?_
  refine jx_calli (x_runV C hN hZ hl.1 (ct_B_life (sa := sa) hl0 f x a b hk p0 d0 s0 _) (cx_V C 3 wd_403 wd_404 wd_405 wd_1 wd_406 rfl rfl (by decide +kernel) ⟨Nat.le_of_ble_eq_true rfl, Nat.le_of_ble_eq_true rfl⟩) hP.left hS hA0 hk.1.1 rfl rfl rfl (Nat.le_of_ble_eq_true rfl) d_L_life_8 ⟨Nat.le_of_ble_eq_true rfl, Nat.le_of_ble_eq_true rfl⟩) hd hP hS hA0 (fun E ce q9 H locs hE hP hS z1 z2 z3 => ?_) (fun r f1 H locs hq hd hP hS => ?_)
  · rcases hE with ⟨rfl, hI9⟩ | ⟨rfl, hI9, hN9⟩
    · refine l_catch1 C hex (by decide) (by decide) wd_234 hN.2.2.2.2.1 z1 z2 z3 ?_
      refine lv_astore (lv' := [(6, .ref q9), (0, .ref x), (1, .int p0), (2, .long d0), (4, .int s0), (5, .ref o)]) hx hb d_L_life_23 hl (by decide) rfl (fun ls hl => ?_)
      refine lv_iconst (v := 1) hx hb d_L_life_25 (by decide) ?_
      exact g_iret C hP hS (⟨f, g, a, b, 0, rfl, ho, hk, Or.inr (Or.inr ⟨hI9, rfl, rfl⟩)⟩) (Nat.le_of_ble_eq_true rfl) (Nat.le_of_ble_eq_true rfl) d_L_life_26
    · refine l_catch2 C hex (by decide) wd_234 hNc (by decide) (by decide) wd_69 hN.2.2.2.1 z1 z2 z3 ?_
      refine lv_astore (lv' := [(6, .ref q9), (0, .ref x), (1, .int p0), (2, .long d0), (4, .int s0), (5, .ref o)]) hx hb d_L_life_27 hl (by decide) rfl (fun ls hl => ?_)
      refine lv_iconst (v := 2) hx hb d_L_life_29 (by decide) ?_
      exact g_iret C hP hS (⟨f, g, a, b, 0, rfl, ho, hk, Or.inr (Or.inl ⟨hI9, hN9, rfl, rfl⟩)⟩) (Nat.le_of_ble_eq_true rfl) (Nat.le_of_ble_eq_true rfl) d_L_life_30
  · obtain ⟨hI9, hN9, a1, b1, hk1, hK9⟩ := hq
    have oo : hj f1 (hc1 o (aL G 1 g)) o = some (aL G 1 g) := (hj_r (dj_1n hd)).trans hc1_s
    refine lv_if_eq (tgt := 18) hx hb d_L_life_11 (by decide) (fun c_11 => ?_) (fun c_11 => ?_)
    · refine lv_lconst (v := 0) hx hb d_L_life_18 (by decide) ?_
      refine g_lastN C hP hS oo (j := 0) (by decide) (by decide) d_L_life_19 (fun H locs hP hS => ?_)
      obtain ⟨g2, eg2⟩ : ∃ z99, z99 = vp_updL g 0 0 := ⟨_, rfl⟩
      rw [← eg2] at hP
      rw [hj_upr (dj_1n hd), hc1_up] at hP
      refine lv_goto (tgt := 31) hx hb d_L_life_20 (by decide) ?_
      refine lv_iconst (v := 0) hx hb d_L_life_31 (by decide) ?_
      exact g_iret C hP hS (⟨f1, g2, a1, b1, r, rfl, dj_1n hd, hk1, Or.inl ⟨hI9, hN9, rfl, hK9, by rw [eg2]; first | exact (eb_t c_11).symm | exact (eb_f c_11).symm⟩⟩) (Nat.le_of_ble_eq_true rfl) (Nat.le_of_ble_eq_true rfl) d_L_life_32
    · refine lv_lconst (v := 1) hx hb d_L_life_14 (by decide) ?_
      refine lv_goto (tgt := 19) hx hb d_L_life_15 (by decide) ?_
      refine g_lastN C hP hS oo (j := 0) (by decide) (by decide) d_L_life_19 (fun H locs hP hS => ?_)
      obtain ⟨g4, eg4⟩ : ∃ z99, z99 = vp_updL g 0 1 := ⟨_, rfl⟩
      rw [← eg4] at hP
      rw [hj_upr (dj_1n hd), hc1_up] at hP
      refine lv_goto (tgt := 31) hx hb d_L_life_20 (by decide) ?_
      refine lv_iconst (v := 0) hx hb d_L_life_31 (by decide) ?_
      exact g_iret C hP hS (⟨f1, g4, a1, b1, r, rfl, dj_1n hd, hk1, Or.inl ⟨hI9, hN9, rfl, hK9, by rw [eg4]; first | exact (eb_t c_11).symm | exact (eb_f c_11).symm⟩⟩) (Nat.le_of_ble_eq_true rfl) (Nat.le_of_ble_eq_true rfl) d_L_life_32
set_option maxHeartbeats 4000000 in
set_option maxRecDepth 100000 in
theorem ct_L_state {l : Launch} {G : hG} {sa : xS} (hl0 : l.stackTraces = false) (f : hm) (x : Nat) (a : AD) (b : BD) (hk : bk G f x a b) (o : Nat) (g : Nat → Int64) (ho : f o = none) (p0 : Int32) (d0 : Int64) : li_ l G sa y_L_state w_L_state { frames := 8, cells := 1, slots := 6, locals := 160 } [.ref x, .int p0, .long d0, .ref o] (hj f (hc1 o (aL G 1 g))) (fun k u => ∃ (f1 : hm) (g1 : Nat → Int64) (a1 : AD) (b1 : BD) (r : Int32), u = hj f1 (hc1 o (aL G 1 g1)) ∧ f1 o = none ∧ bk G f1 x a1 b1 ∧ lp (okx p0 (bN b)) (True) b b1 k ((K_state b p0 d0 r ∧ b1 = b) ∧ g1 0 = r.toInt64)) := by
  intro sz
  refine l_ofW (cc := c_L_state) (maxL := 6) (ret := (some .int)) (hh := h_L_state) (by decide) rfl (Nat.le_of_ble_eq_true rfl) ?_
  intro p e s m below meth c ls C hex hN hZ hNc hsz hP hl
  obtain ⟨hx, hb, hml, hown, -, -, -, -⟩ := id C
  subst hsz
  have hA0 : ∀ q, s.heap.size ≤ q → hA (hj f (hc1 o (aL G 1 g))) s.heap.size q := hA.new
  have hS : va_S (hA (hj f (hc1 o (aL G 1 g))) s.heap.size) s.heap s.heap [] := va_S.rf
  replace hl : lv_has ls 6 [(0, .ref x), (1, .int p0), (2, .long d0), (4, .ref o)] := hl
  have hd := dj_1 (e := aL G 1 g) ho
  refine lv_aload hx hb d_L_state_0 (lv_at hl 3 rfl) ?_
  refine lv_iconst (v := 0) hx hb d_L_state_2 (by decide) ?_
  refine lv_aload_n hx hb d_L_state_3 rfl (lv_at hl 0 rfl) ?_
  refine lv_iload_n hx hb d_L_state_4 rfl (lv_at hl 1 rfl) ?_
  refine lv_lload_n hx hb d_L_state_5 rfl (lv_at hl 2 rfl) ?_
  refine jx_calli (x_runV C hN hZ hl.1 (ct_B_state (sa := sa) hl0 f x a b hk p0 d0 _) (cx_V C 2 wd_411 wd_412 wd_413 wd_1 wd_414 rfl rfl (by decide +kernel) ⟨Nat.le_of_ble_eq_true rfl, Nat.le_of_ble_eq_true rfl⟩) hP.left hS hA0 hk.1.1 rfl rfl rfl (Nat.le_of_ble_eq_true rfl) d_L_state_6 ⟨Nat.le_of_ble_eq_true rfl, Nat.le_of_ble_eq_true rfl⟩) hd hP hS hA0 (fun E ce q9 H locs hE hP hS z1 z2 z3 => ?_) (fun r f1 H locs hq hd hP hS => ?_)
  · obtain ⟨rfl, hI9⟩ := hE
    refine l_catch1 C hex (by decide) (by decide) wd_234 hN.2.2.2.2.1 z1 z2 z3 ?_
    refine lv_astore (lv' := [(5, .ref q9), (0, .ref x), (1, .int p0), (2, .long d0), (4, .ref o)]) hx hb d_L_state_14 hl (by decide) rfl (fun ls hl => ?_)
    refine lv_iconst (v := 1) hx hb d_L_state_16 (by decide) ?_
    exact g_iret C hP hS (⟨f, g, a, b, 0, rfl, ho, hk, Or.inr (Or.inr ⟨hI9, rfl, rfl⟩)⟩) (Nat.le_of_ble_eq_true rfl) (Nat.le_of_ble_eq_true rfl) d_L_state_17
  · obtain ⟨hI9, hK9, hu9⟩ := hq
    subst hu9
    have oo : hj f1 (hc1 o (aL G 1 g)) o = some (aL G 1 g) := (hj_r (dj_1n hd)).trans hc1_s
    refine lv_i2l (v := r.toInt64) hx hb d_L_state_9 rfl ?_
    refine g_lastN C hP hS oo (j := 0) (by decide) (by decide) d_L_state_10 (fun H locs hP hS => ?_)
    obtain ⟨g2, eg2⟩ : ∃ z99, z99 = vp_updL g 0 r.toInt64 := ⟨_, rfl⟩
    rw [← eg2] at hP
    rw [hj_upr (dj_1n hd), hc1_up] at hP
    refine lv_goto (tgt := 18) hx hb d_L_state_11 (by decide) ?_
    refine lv_iconst (v := 0) hx hb d_L_state_18 (by decide) ?_
    exact g_iret C hP hS (⟨f1, g2, a, b, r, rfl, dj_1n hd, hk, Or.inl ⟨hI9, trivial, rfl, ⟨hK9, rfl⟩, by rw [eg2]; rfl⟩⟩) (Nat.le_of_ble_eq_true rfl) (Nat.le_of_ble_eq_true rfl) d_L_state_19
set_option maxHeartbeats 4000000 in
set_option maxRecDepth 100000 in
theorem ct_L_cost {l : Launch} {G : hG} {sa : xS} (hl0 : l.stackTraces = false) (f : hm) (x : Nat) (a : AD) (b : BD) (hk : bk G f x a b) (o : Nat) (g : Nat → Int64) (ho : f o = none) (p0 : Int32) (n0 : Int32) : li_ l G sa y_L_cost w_L_cost { frames := 8, cells := 2, slots := 12, locals := 220 } [.ref x, .int p0, .int n0, .ref o] (hj f (hc1 o (aL G 1 g))) (fun k u => ∃ (f1 : hm) (g1 : Nat → Int64) (a1 : AD) (b1 : BD) (r : Int64), u = hj f1 (hc1 o (aL G 1 g1)) ∧ f1 o = none ∧ bk G f1 x a1 b1 ∧ lp (okx p0 (bN b)) (N_q n0) b b1 k ((K_cost b p0 n0 r ∧ b1 = b) ∧ g1 0 = r)) := by
  intro sz
  refine l_ofW (cc := c_L_cost) (maxL := 5) (ret := (some .int)) (hh := h_L_cost) (by decide) rfl (Nat.le_of_ble_eq_true rfl) ?_
  intro p e s m below meth c ls C hex hN hZ hNc hsz hP hl
  obtain ⟨hx, hb, hml, hown, -, -, -, -⟩ := id C
  subst hsz
  have hA0 : ∀ q, s.heap.size ≤ q → hA (hj f (hc1 o (aL G 1 g))) s.heap.size q := hA.new
  have hS : va_S (hA (hj f (hc1 o (aL G 1 g))) s.heap.size) s.heap s.heap [] := va_S.rf
  replace hl : lv_has ls 5 [(0, .ref x), (1, .int p0), (2, .int n0), (3, .ref o)] := hl
  have hd := dj_1 (e := aL G 1 g) ho
  refine lv_aload_n hx hb d_L_cost_0 rfl (lv_at hl 3 rfl) ?_
  refine lv_iconst (v := 0) hx hb d_L_cost_1 (by decide) ?_
  refine lv_aload_n hx hb d_L_cost_2 rfl (lv_at hl 0 rfl) ?_
  refine lv_iload_n hx hb d_L_cost_3 rfl (lv_at hl 1 rfl) ?_
  refine lv_iload_n hx hb d_L_cost_4 rfl (lv_at hl 2 rfl) ?_
  refine jx_calll (x_runV C hN hZ hl.1 (ct_B_cost (sa := sa) hl0 f x a b hk p0 n0 _) (cx_V C 2 wd_423 wd_424 wd_425 wd_1 wd_426 rfl rfl (by decide +kernel) ⟨Nat.le_of_ble_eq_true rfl, Nat.le_of_ble_eq_true rfl⟩) hP.left hS hA0 hk.1.1 rfl rfl rfl (Nat.le_of_ble_eq_true rfl) d_L_cost_5 ⟨Nat.le_of_ble_eq_true rfl, Nat.le_of_ble_eq_true rfl⟩) hd hP hS hA0 (fun E ce q9 H locs hE hP hS z1 z2 z3 => ?_) (fun r f1 H locs hq hd hP hS => ?_)
  · rcases hE with ⟨rfl, hI9⟩ | ⟨rfl, hI9, hN9⟩
    · refine l_catch1 C hex (by decide) (by decide) wd_234 hN.2.2.2.2.1 z1 z2 z3 ?_
      refine lv_astore (lv' := [(4, .ref q9), (0, .ref x), (1, .int p0), (2, .int n0), (3, .ref o)]) hx hb d_L_cost_12 hl (by decide) rfl (fun ls hl => ?_)
      refine lv_iconst (v := 1) hx hb d_L_cost_14 (by decide) ?_
      exact g_iret C hP hS (⟨f, g, a, b, 0, rfl, ho, hk, Or.inr (Or.inr ⟨hI9, rfl, rfl⟩)⟩) (Nat.le_of_ble_eq_true rfl) (Nat.le_of_ble_eq_true rfl) d_L_cost_15
    · refine l_catch2 C hex (by decide) wd_234 hNc (by decide) (by decide) wd_69 hN.2.2.2.1 z1 z2 z3 ?_
      refine lv_astore (lv' := [(4, .ref q9), (0, .ref x), (1, .int p0), (2, .int n0), (3, .ref o)]) hx hb d_L_cost_16 hl (by decide) rfl (fun ls hl => ?_)
      refine lv_iconst (v := 2) hx hb d_L_cost_18 (by decide) ?_
      exact g_iret C hP hS (⟨f, g, a, b, 0, rfl, ho, hk, Or.inr (Or.inl ⟨hI9, hN9, rfl, rfl⟩)⟩) (Nat.le_of_ble_eq_true rfl) (Nat.le_of_ble_eq_true rfl) d_L_cost_19
  · obtain ⟨hI9, hN9, hK9, hu9⟩ := hq
    subst hu9
    have oo : hj f1 (hc1 o (aL G 1 g)) o = some (aL G 1 g) := (hj_r (dj_1n hd)).trans hc1_s
    refine g_lastN C hP hS oo (j := 0) (by decide) (by decide) d_L_cost_8 (fun H locs hP hS => ?_)
    obtain ⟨g2, eg2⟩ : ∃ z99, z99 = vp_updL g 0 r := ⟨_, rfl⟩
    rw [← eg2] at hP
    rw [hj_upr (dj_1n hd), hc1_up] at hP
    refine lv_goto (tgt := 20) hx hb d_L_cost_9 (by decide) ?_
    refine lv_iconst (v := 0) hx hb d_L_cost_20 (by decide) ?_
    exact g_iret C hP hS (⟨f1, g2, a, b, r, rfl, dj_1n hd, hk, Or.inl ⟨hI9, hN9, rfl, ⟨hK9, rfl⟩, by rw [eg2]; rfl⟩⟩) (Nat.le_of_ble_eq_true rfl) (Nat.le_of_ble_eq_true rfl) d_L_cost_21
set_option maxHeartbeats 4000000 in
set_option maxRecDepth 100000 in
theorem ct_L_best {l : Launch} {G : hG} {sa : xS} (hl0 : l.stackTraces = false) (f : hm) (x : Nat) (a : AD) (b : BD) (hk : bk G f x a b) (o : Nat) (g : Nat → Int64) (ho : f o = none) (p0 : Int32) (n0 : Int32) : li_ l G sa y_L_best w_L_best { frames := 8, cells := 2, slots := 12, locals := 220 } [.ref x, .int p0, .int n0, .ref o] (hj f (hc1 o (aL G 1 g))) (fun k u => ∃ (f1 : hm) (g1 : Nat → Int64) (a1 : AD) (b1 : BD) (r : Int32), u = hj f1 (hc1 o (aL G 1 g1)) ∧ f1 o = none ∧ bk G f1 x a1 b1 ∧ lp (okx p0 (bN b)) (N_q n0) b b1 k ((K_best b p0 n0 r ∧ b1 = b) ∧ g1 0 = r.toInt64)) := by
  intro sz
  refine l_ofW (cc := c_L_best) (maxL := 5) (ret := (some .int)) (hh := h_L_best) (by decide) rfl (Nat.le_of_ble_eq_true rfl) ?_
  intro p e s m below meth c ls C hex hN hZ hNc hsz hP hl
  obtain ⟨hx, hb, hml, hown, -, -, -, -⟩ := id C
  subst hsz
  have hA0 : ∀ q, s.heap.size ≤ q → hA (hj f (hc1 o (aL G 1 g))) s.heap.size q := hA.new
  have hS : va_S (hA (hj f (hc1 o (aL G 1 g))) s.heap.size) s.heap s.heap [] := va_S.rf
  replace hl : lv_has ls 5 [(0, .ref x), (1, .int p0), (2, .int n0), (3, .ref o)] := hl
  have hd := dj_1 (e := aL G 1 g) ho
  refine lv_aload_n hx hb d_L_best_0 rfl (lv_at hl 3 rfl) ?_
  refine lv_iconst (v := 0) hx hb d_L_best_1 (by decide) ?_
  refine lv_aload_n hx hb d_L_best_2 rfl (lv_at hl 0 rfl) ?_
  refine lv_iload_n hx hb d_L_best_3 rfl (lv_at hl 1 rfl) ?_
  refine lv_iload_n hx hb d_L_best_4 rfl (lv_at hl 2 rfl) ?_
  refine jx_calli (x_runV C hN hZ hl.1 (ct_B_best (sa := sa) hl0 f x a b hk p0 n0 _) (cx_V C 2 wd_461 wd_462 wd_463 wd_1 wd_464 rfl rfl (by decide +kernel) ⟨Nat.le_of_ble_eq_true rfl, Nat.le_of_ble_eq_true rfl⟩) hP.left hS hA0 hk.1.1 rfl rfl rfl (Nat.le_of_ble_eq_true rfl) d_L_best_5 ⟨Nat.le_of_ble_eq_true rfl, Nat.le_of_ble_eq_true rfl⟩) hd hP hS hA0 (fun E ce q9 H locs hE hP hS z1 z2 z3 => ?_) (fun r f1 H locs hq hd hP hS => ?_)
  · rcases hE with ⟨rfl, hI9⟩ | ⟨rfl, hI9, hN9⟩
    · refine l_catch1 C hex (by decide) (by decide) wd_234 hN.2.2.2.2.1 z1 z2 z3 ?_
      refine lv_astore (lv' := [(4, .ref q9), (0, .ref x), (1, .int p0), (2, .int n0), (3, .ref o)]) hx hb d_L_best_13 hl (by decide) rfl (fun ls hl => ?_)
      refine lv_iconst (v := 1) hx hb d_L_best_15 (by decide) ?_
      exact g_iret C hP hS (⟨f, g, a, b, 0, rfl, ho, hk, Or.inr (Or.inr ⟨hI9, rfl, rfl⟩)⟩) (Nat.le_of_ble_eq_true rfl) (Nat.le_of_ble_eq_true rfl) d_L_best_16
    · refine l_catch2 C hex (by decide) wd_234 hNc (by decide) (by decide) wd_69 hN.2.2.2.1 z1 z2 z3 ?_
      refine lv_astore (lv' := [(4, .ref q9), (0, .ref x), (1, .int p0), (2, .int n0), (3, .ref o)]) hx hb d_L_best_17 hl (by decide) rfl (fun ls hl => ?_)
      refine lv_iconst (v := 2) hx hb d_L_best_19 (by decide) ?_
      exact g_iret C hP hS (⟨f, g, a, b, 0, rfl, ho, hk, Or.inr (Or.inl ⟨hI9, hN9, rfl, rfl⟩)⟩) (Nat.le_of_ble_eq_true rfl) (Nat.le_of_ble_eq_true rfl) d_L_best_20
  · obtain ⟨hI9, hN9, hK9, hu9⟩ := hq
    subst hu9
    have oo : hj f1 (hc1 o (aL G 1 g)) o = some (aL G 1 g) := (hj_r (dj_1n hd)).trans hc1_s
    refine lv_i2l (v := r.toInt64) hx hb d_L_best_8 rfl ?_
    refine g_lastN C hP hS oo (j := 0) (by decide) (by decide) d_L_best_9 (fun H locs hP hS => ?_)
    obtain ⟨g2, eg2⟩ : ∃ z99, z99 = vp_updL g 0 r.toInt64 := ⟨_, rfl⟩
    rw [← eg2] at hP
    rw [hj_upr (dj_1n hd), hc1_up] at hP
    refine lv_goto (tgt := 21) hx hb d_L_best_10 (by decide) ?_
    refine lv_iconst (v := 0) hx hb d_L_best_21 (by decide) ?_
    exact g_iret C hP hS (⟨f1, g2, a, b, r, rfl, dj_1n hd, hk, Or.inl ⟨hI9, hN9, rfl, ⟨hK9, rfl⟩, by rw [eg2]; rfl⟩⟩) (Nat.le_of_ble_eq_true rfl) (Nat.le_of_ble_eq_true rfl) d_L_best_22
set_option maxHeartbeats 4000000 in
set_option maxRecDepth 100000 in
theorem ct_L_choose {l : Launch} {G : hG} {sa : xS} (hl0 : l.stackTraces = false) (f : hm) (x : Nat) (a : AD) (b : BD) (hk : bk G f x a b) (o : Nat) (g : Nat → Int64) (ho : f o = none) (p0 : Int32) (q0 : Int32) (n0 : Int32) (dd : Int64) : li_ l G sa y_L_choose w_L_choose { frames := 9, cells := 3, slots := 18, locals := 320 } [.ref x, .int p0, .int q0, .int n0, .long dd, .ref o] (hj f (hc1 o (aL G 1 g))) (fun k u => ∃ (f1 : hm) (g1 : Nat → Int64) (a1 : AD) (b1 : BD) (r : Int32), u = hj f1 (hc1 o (aL G 1 g1)) ∧ f1 o = none ∧ bk G f1 x a1 b1 ∧ lp (I_alt b p0 q0) (N_q n0) b b1 k ((K_choose b p0 q0 n0 dd r ∧ b1 = b) ∧ g1 0 = r.toInt64)) := by
  intro sz
  refine l_ofW (cc := c_L_choose) (maxL := 8) (ret := (some .int)) (hh := h_L_choose) (by decide) rfl (Nat.le_of_ble_eq_true rfl) ?_
  intro p e s m below meth c ls C hex hN hZ hNc hsz hP hl
  obtain ⟨hx, hb, hml, hown, -, -, -, -⟩ := id C
  subst hsz
  have hA0 : ∀ q, s.heap.size ≤ q → hA (hj f (hc1 o (aL G 1 g))) s.heap.size q := hA.new
  have hS : va_S (hA (hj f (hc1 o (aL G 1 g))) s.heap.size) s.heap s.heap [] := va_S.rf
  replace hl : lv_has ls 8 [(0, .ref x), (1, .int p0), (2, .int q0), (3, .int n0), (4, .long dd), (6, .ref o)] := hl
  have hd := dj_1 (e := aL G 1 g) ho
  refine lv_aload hx hb d_L_choose_0 (lv_at hl 5 rfl) ?_
  refine lv_iconst (v := 0) hx hb d_L_choose_2 (by decide) ?_
  refine lv_aload_n hx hb d_L_choose_3 rfl (lv_at hl 0 rfl) ?_
  refine lv_iload_n hx hb d_L_choose_4 rfl (lv_at hl 1 rfl) ?_
  refine lv_iload_n hx hb d_L_choose_5 rfl (lv_at hl 2 rfl) ?_
  refine lv_iload_n hx hb d_L_choose_6 rfl (lv_at hl 3 rfl) ?_
  refine lv_lload hx hb d_L_choose_7 (lv_at hl 4 rfl) ?_
  refine jx_calli (x_runV C hN hZ hl.1 (ct_B_choose (sa := sa) hl0 f x a b hk p0 q0 n0 dd _) (cx_V C 4 wd_468 wd_469 wd_470 wd_1 wd_471 rfl rfl (by decide +kernel) ⟨Nat.le_of_ble_eq_true rfl, Nat.le_of_ble_eq_true rfl⟩) hP.left hS hA0 hk.1.1 rfl rfl rfl (Nat.le_of_ble_eq_true rfl) d_L_choose_9 ⟨Nat.le_of_ble_eq_true rfl, Nat.le_of_ble_eq_true rfl⟩) hd hP hS hA0 (fun E ce q9 H locs hE hP hS z1 z2 z3 => ?_) (fun r f1 H locs hq hd hP hS => ?_)
  · rcases hE with ⟨rfl, hI9⟩ | ⟨rfl, hI9, hN9⟩
    · refine l_catch1 C hex (by decide) (by decide) wd_234 hN.2.2.2.2.1 z1 z2 z3 ?_
      refine lv_astore (lv' := [(7, .ref q9), (0, .ref x), (1, .int p0), (2, .int q0), (3, .int n0), (4, .long dd), (6, .ref o)]) hx hb d_L_choose_17 hl (by decide) rfl (fun ls hl => ?_)
      refine lv_iconst (v := 1) hx hb d_L_choose_19 (by decide) ?_
      exact g_iret C hP hS (⟨f, g, a, b, 0, rfl, ho, hk, Or.inr (Or.inr ⟨hI9, rfl, rfl⟩)⟩) (Nat.le_of_ble_eq_true rfl) (Nat.le_of_ble_eq_true rfl) d_L_choose_20
    · refine l_catch2 C hex (by decide) wd_234 hNc (by decide) (by decide) wd_69 hN.2.2.2.1 z1 z2 z3 ?_
      refine lv_astore (lv' := [(7, .ref q9), (0, .ref x), (1, .int p0), (2, .int q0), (3, .int n0), (4, .long dd), (6, .ref o)]) hx hb d_L_choose_21 hl (by decide) rfl (fun ls hl => ?_)
      refine lv_iconst (v := 2) hx hb d_L_choose_23 (by decide) ?_
      exact g_iret C hP hS (⟨f, g, a, b, 0, rfl, ho, hk, Or.inr (Or.inl ⟨hI9, hN9, rfl, rfl⟩)⟩) (Nat.le_of_ble_eq_true rfl) (Nat.le_of_ble_eq_true rfl) d_L_choose_24
  · obtain ⟨hI9, hN9, hK9, hu9⟩ := hq
    subst hu9
    have oo : hj f1 (hc1 o (aL G 1 g)) o = some (aL G 1 g) := (hj_r (dj_1n hd)).trans hc1_s
    refine lv_i2l (v := r.toInt64) hx hb d_L_choose_12 rfl ?_
    refine g_lastN C hP hS oo (j := 0) (by decide) (by decide) d_L_choose_13 (fun H locs hP hS => ?_)
    obtain ⟨g2, eg2⟩ : ∃ z99, z99 = vp_updL g 0 r.toInt64 := ⟨_, rfl⟩
    rw [← eg2] at hP
    rw [hj_upr (dj_1n hd), hc1_up] at hP
    refine lv_goto (tgt := 25) hx hb d_L_choose_14 (by decide) ?_
    refine lv_iconst (v := 0) hx hb d_L_choose_25 (by decide) ?_
    exact g_iret C hP hS (⟨f1, g2, a, b, r, rfl, dj_1n hd, hk, Or.inl ⟨hI9, hN9, rfl, ⟨hK9, rfl⟩, by rw [eg2]; rfl⟩⟩) (Nat.le_of_ble_eq_true rfl) (Nat.le_of_ble_eq_true rfl) d_L_choose_26
set_option maxHeartbeats 4000000 in
set_option maxRecDepth 100000 in
theorem ct_L_buy {l : Launch} {G : hG} {sa : xS} (hl0 : l.stackTraces = false) (f : hm) (x : Nat) (a : AD) (b : BD) (hk : bk G f x a b) (o : Nat) (g : Nat → Int64) (ho : f o = none) (p0 : Int32) (q0 : Int32) (n0 : Int32) (dd : Int64) : li_ l G sa y_L_buy w_L_buy { frames := 9, cells := 3, slots := 18, locals := 320 } [.ref x, .int p0, .int q0, .int n0, .long dd, .ref o] (hj f (hc1 o (aL G 1 g))) (fun k u => ∃ (f1 : hm) (g1 : Nat → Int64) (a1 : AD) (b1 : BD) (r : Int32), u = hj f1 (hc1 o (aL G 1 g1)) ∧ f1 o = none ∧ bk G f1 x a1 b1 ∧ lp (I_alt b p0 q0) (N_q n0) b b1 k ((K_buy b p0 q0 n0 dd r b1) ∧ g1 0 = r.toInt64)) := by
  intro sz
  refine l_ofW (cc := c_L_buy) (maxL := 8) (ret := (some .int)) (hh := h_L_buy) (by decide) rfl (Nat.le_of_ble_eq_true rfl) ?_
  intro p e s m below meth c ls C hex hN hZ hNc hsz hP hl
  obtain ⟨hx, hb, hml, hown, -, -, -, -⟩ := id C
  subst hsz
  have hA0 : ∀ q, s.heap.size ≤ q → hA (hj f (hc1 o (aL G 1 g))) s.heap.size q := hA.new
  have hS : va_S (hA (hj f (hc1 o (aL G 1 g))) s.heap.size) s.heap s.heap [] := va_S.rf
  replace hl : lv_has ls 8 [(0, .ref x), (1, .int p0), (2, .int q0), (3, .int n0), (4, .long dd), (6, .ref o)] := hl
  have hd := dj_1 (e := aL G 1 g) ho
  refine lv_aload hx hb d_L_buy_0 (lv_at hl 5 rfl) ?_
  refine lv_iconst (v := 0) hx hb d_L_buy_2 (by decide) ?_
  refine lv_aload_n hx hb d_L_buy_3 rfl (lv_at hl 0 rfl) ?_
  refine lv_iload_n hx hb d_L_buy_4 rfl (lv_at hl 1 rfl) ?_
  refine lv_iload_n hx hb d_L_buy_5 rfl (lv_at hl 2 rfl) ?_
  refine lv_iload_n hx hb d_L_buy_6 rfl (lv_at hl 3 rfl) ?_
  refine lv_lload hx hb d_L_buy_7 (lv_at hl 4 rfl) ?_
  refine jx_calli (x_runV C hN hZ hl.1 (ct_B_buy (sa := sa) hl0 f x a b hk p0 q0 n0 dd _) (cx_V C 4 wd_487 wd_488 wd_489 wd_1 wd_490 rfl rfl (by decide +kernel) ⟨Nat.le_of_ble_eq_true rfl, Nat.le_of_ble_eq_true rfl⟩) hP.left hS hA0 hk.1.1 rfl rfl rfl (Nat.le_of_ble_eq_true rfl) d_L_buy_9 ⟨Nat.le_of_ble_eq_true rfl, Nat.le_of_ble_eq_true rfl⟩) hd hP hS hA0 (fun E ce q9 H locs hE hP hS z1 z2 z3 => ?_) (fun r f1 H locs hq hd hP hS => ?_)
  · rcases hE with ⟨rfl, hI9⟩ | ⟨rfl, hI9, hN9⟩
    · refine l_catch1 C hex (by decide) (by decide) wd_234 hN.2.2.2.2.1 z1 z2 z3 ?_
      refine lv_astore (lv' := [(7, .ref q9), (0, .ref x), (1, .int p0), (2, .int q0), (3, .int n0), (4, .long dd), (6, .ref o)]) hx hb d_L_buy_17 hl (by decide) rfl (fun ls hl => ?_)
      refine lv_iconst (v := 1) hx hb d_L_buy_19 (by decide) ?_
      exact g_iret C hP hS (⟨f, g, a, b, 0, rfl, ho, hk, Or.inr (Or.inr ⟨hI9, rfl, rfl⟩)⟩) (Nat.le_of_ble_eq_true rfl) (Nat.le_of_ble_eq_true rfl) d_L_buy_20
    · refine l_catch2 C hex (by decide) wd_234 hNc (by decide) (by decide) wd_69 hN.2.2.2.1 z1 z2 z3 ?_
      refine lv_astore (lv' := [(7, .ref q9), (0, .ref x), (1, .int p0), (2, .int q0), (3, .int n0), (4, .long dd), (6, .ref o)]) hx hb d_L_buy_21 hl (by decide) rfl (fun ls hl => ?_)
      refine lv_iconst (v := 2) hx hb d_L_buy_23 (by decide) ?_
      exact g_iret C hP hS (⟨f, g, a, b, 0, rfl, ho, hk, Or.inr (Or.inl ⟨hI9, hN9, rfl, rfl⟩)⟩) (Nat.le_of_ble_eq_true rfl) (Nat.le_of_ble_eq_true rfl) d_L_buy_24
  · obtain ⟨hI9, hN9, a1, b1, hk1, hK9⟩ := hq
    have oo : hj f1 (hc1 o (aL G 1 g)) o = some (aL G 1 g) := (hj_r (dj_1n hd)).trans hc1_s
    refine lv_i2l (v := r.toInt64) hx hb d_L_buy_12 rfl ?_
    refine g_lastN C hP hS oo (j := 0) (by decide) (by decide) d_L_buy_13 (fun H locs hP hS => ?_)
    obtain ⟨g2, eg2⟩ : ∃ z99, z99 = vp_updL g 0 r.toInt64 := ⟨_, rfl⟩
    rw [← eg2] at hP
    rw [hj_upr (dj_1n hd), hc1_up] at hP
    refine lv_goto (tgt := 25) hx hb d_L_buy_14 (by decide) ?_
    refine lv_iconst (v := 0) hx hb d_L_buy_25 (by decide) ?_
    exact g_iret C hP hS (⟨f1, g2, a1, b1, r, rfl, dj_1n hd, hk1, Or.inl ⟨hI9, hN9, rfl, hK9, by rw [eg2]; rfl⟩⟩) (Nat.le_of_ble_eq_true rfl) (Nat.le_of_ble_eq_true rfl) d_L_buy_26
set_option maxHeartbeats 4000000 in
set_option maxRecDepth 100000 in
theorem ct_L_derate {l : Launch} {G : hG} {sa : xS} (hl0 : l.stackTraces = false) (f : hm) (x : Nat) (a : AD) (b : BD) (hk : bk G f x a b) (o : Nat) (g : Nat → Int64) (ho : f o = none) (p0 : Int32) (n0 : Int32) (x0 : Int64) (y0 : Int64) (q0 : Int32) : li_ l G sa y_L_derate w_L_derate { frames := 9, cells := 5, slots := 30, locals := 200 } [.ref x, .int p0, .int n0, .long x0, .long y0, .int q0, .ref o] (hj f (hc1 o (aL G 1 g))) (fun k u => ∃ (f1 : hm) (g1 : Nat → Int64) (a1 : AD) (b1 : BD) (r : Int32), u = hj f1 (hc1 o (aL G 1 g1)) ∧ f1 o = none ∧ bk G f1 x a1 b1 ∧ lp (I_pn b p0 n0) (N_derate x0 y0 q0) b b1 k ((K_derate b p0 n0 x0 y0 q0 r ∧ b1 = b) ∧ g1 0 = r.toInt64)) := by
  intro sz
  refine l_ofW (cc := c_L_derate) (maxL := 10) (ret := (some .int)) (hh := h_L_derate) (by decide) rfl (Nat.le_of_ble_eq_true rfl) ?_
  intro p e s m below meth c ls C hex hN hZ hNc hsz hP hl
  obtain ⟨hx, hb, hml, hown, -, -, -, -⟩ := id C
  subst hsz
  have hA0 : ∀ q, s.heap.size ≤ q → hA (hj f (hc1 o (aL G 1 g))) s.heap.size q := hA.new
  have hS : va_S (hA (hj f (hc1 o (aL G 1 g))) s.heap.size) s.heap s.heap [] := va_S.rf
  replace hl : lv_has ls 10 [(0, .ref x), (1, .int p0), (2, .int n0), (3, .long x0), (5, .long y0), (7, .int q0), (8, .ref o)] := hl
  have hd := dj_1 (e := aL G 1 g) ho
  refine lv_aload hx hb d_L_derate_0 (lv_at hl 6 rfl) ?_
  refine lv_iconst (v := 0) hx hb d_L_derate_2 (by decide) ?_
  refine lv_aload_n hx hb d_L_derate_3 rfl (lv_at hl 0 rfl) ?_
  refine lv_iload_n hx hb d_L_derate_4 rfl (lv_at hl 1 rfl) ?_
  refine lv_iload_n hx hb d_L_derate_5 rfl (lv_at hl 2 rfl) ?_
  refine lv_lload_n hx hb d_L_derate_6 rfl (lv_at hl 3 rfl) ?_
  refine lv_lload hx hb d_L_derate_7 (lv_at hl 4 rfl) ?_
  refine lv_iload hx hb d_L_derate_9 (lv_at hl 5 rfl) ?_
  refine jx_calli (x_runV C hN hZ hl.1 (ct_B_derate (sa := sa) hl0 f x a b hk p0 n0 x0 y0 q0 _) (cx_V C 5 wd_494 wd_495 wd_496 wd_1 wd_497 rfl rfl (by decide +kernel) ⟨Nat.le_of_ble_eq_true rfl, Nat.le_of_ble_eq_true rfl⟩) hP.left hS hA0 hk.1.1 rfl rfl rfl (Nat.le_of_ble_eq_true rfl) d_L_derate_11 ⟨Nat.le_of_ble_eq_true rfl, Nat.le_of_ble_eq_true rfl⟩) hd hP hS hA0 (fun E ce q9 H locs hE hP hS z1 z2 z3 => ?_) (fun r f1 H locs hq hd hP hS => ?_)
  · rcases hE with ⟨rfl, hI9⟩ | ⟨rfl, hI9, hN9⟩
    · refine l_catch1 C hex (by decide) (by decide) wd_234 hN.2.2.2.2.1 z1 z2 z3 ?_
      refine lv_astore (lv' := [(9, .ref q9), (0, .ref x), (1, .int p0), (2, .int n0), (3, .long x0), (5, .long y0), (7, .int q0), (8, .ref o)]) hx hb d_L_derate_19 hl (by decide) rfl (fun ls hl => ?_)
      refine lv_iconst (v := 1) hx hb d_L_derate_21 (by decide) ?_
      exact g_iret C hP hS (⟨f, g, a, b, 0, rfl, ho, hk, Or.inr (Or.inr ⟨hI9, rfl, rfl⟩)⟩) (Nat.le_of_ble_eq_true rfl) (Nat.le_of_ble_eq_true rfl) d_L_derate_22
    · refine l_catch2 C hex (by decide) wd_234 hNc (by decide) (by decide) wd_69 hN.2.2.2.1 z1 z2 z3 ?_
      refine lv_astore (lv' := [(9, .ref q9), (0, .ref x), (1, .int p0), (2, .int n0), (3, .long x0), (5, .long y0), (7, .int q0), (8, .ref o)]) hx hb d_L_derate_23 hl (by decide) rfl (fun ls hl => ?_)
      refine lv_iconst (v := 2) hx hb d_L_derate_25 (by decide) ?_
      exact g_iret C hP hS (⟨f, g, a, b, 0, rfl, ho, hk, Or.inr (Or.inl ⟨hI9, hN9, rfl, rfl⟩)⟩) (Nat.le_of_ble_eq_true rfl) (Nat.le_of_ble_eq_true rfl) d_L_derate_26
  · obtain ⟨hI9, hN9, hK9, hu9⟩ := hq
    subst hu9
    have oo : hj f1 (hc1 o (aL G 1 g)) o = some (aL G 1 g) := (hj_r (dj_1n hd)).trans hc1_s
    refine lv_i2l (v := r.toInt64) hx hb d_L_derate_14 rfl ?_
    refine g_lastN C hP hS oo (j := 0) (by decide) (by decide) d_L_derate_15 (fun H locs hP hS => ?_)
    obtain ⟨g2, eg2⟩ : ∃ z99, z99 = vp_updL g 0 r.toInt64 := ⟨_, rfl⟩
    rw [← eg2] at hP
    rw [hj_upr (dj_1n hd), hc1_up] at hP
    refine lv_goto (tgt := 27) hx hb d_L_derate_16 (by decide) ?_
    refine lv_iconst (v := 0) hx hb d_L_derate_27 (by decide) ?_
    exact g_iret C hP hS (⟨f1, g2, a, b, r, rfl, dj_1n hd, hk, Or.inl ⟨hI9, hN9, rfl, ⟨hK9, rfl⟩, by rw [eg2]; rfl⟩⟩) (Nat.le_of_ble_eq_true rfl) (Nat.le_of_ble_eq_true rfl) d_L_derate_28
