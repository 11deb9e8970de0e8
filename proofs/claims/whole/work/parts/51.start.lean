/-! The law from its entry. -/
theorem hj_none {f r : hm} {q : Nat} (h : hj f r q = none) : f q = none ∧ r q = none := by
  cases hf : f q with
  | none => rw [hj_r hf] at h; exact ⟨rfl, h⟩
  | some e => rw [hj_l hf] at h; cases h
set_option maxHeartbeats 4000000 in
set_option maxRecDepth 100000 in
theorem whole_start {p : Program} {e : Env} {s : State} {m : MethodId} {below : List Frame} {meth : Method} {c : Code} (l : Launch) (hl0 : l.stackTraces = false) {b0 L : Nat} {xs : Nat → Int32} (hL : L ≤ 5120) (C0 : lw_At p s m meth c b0 L xs) : W p l e room_1 s m #[Value.ref b0] below meth c s.heap [] 0 0 (lw_Z below #[Value.ref b0] s) (entryFrame m ([Value.ref b0] : List Value).toArray 8) := by
  obtain ⟨hx, hb, hr, hml, hown, hts, hX, hbl, hlocks, hgv⟩ := id C0
  have hfl := flat_of_before _ hgv
  have hw0 : ∀ w ∈ bw, w.before #[Value.ref b0] s = true := fun w h => hts w (bw_in w h)
  obtain ⟨c0, iS0, hKn0⟩ := u_known (C := R_K) (T := T_K) (N := 3) (n := 3) hw0 i_K (hw0 _ wd_175)
  obtain ⟨c1, iS1, hKn1⟩ := u_known (C := R_P) (T := T_P) (N := 8) (n := 8) hw0 i_P (hw0 _ wd_145)
  obtain ⟨c2, iS2, hKn2⟩ := u_known (C := R_S) (T := T_S) (N := 4) (n := 4) hw0 i_S (hw0 _ wd_151)
  obtain ⟨c3, iS3, hKn3⟩ := u_known (C := R_B) (T := T_B) (N := 8) (n := 8) hw0 i_B (hw0 _ wd_15)
  obtain ⟨c4, iS4, hKn4⟩ := u_known (C := R_M) (T := T_M) (N := 24) (n := 24) hw0 i_M (hw0 _ wd_500)
  obtain ⟨cI, kI, compI, aI1, aI2, aI3⟩ := Cond.arrayClass_spec (hw0 _ wd_56)
  obtain ⟨cL, kL, compL, aL1, aL2, aL3⟩ := Cond.arrayClass_spec (hw0 _ wd_57)
  obtain ⟨cZ, kZ, compZ, aZ1, aZ2, aZ3⟩ := Cond.arrayClass_spec (hw0 _ wd_579)
  have hAO : va_AO "PartBook$Part" s := va_AO.of (hts (.arrayOver (.object "PartBook$Part")) (by decide +kernel))
  obtain ⟨compP, cP, kP, aP1, aP2, aP3, aP4, aP5⟩ := Cond.arrayOver_spec hAO
  obtain ⟨G, hK⟩ : ∃ G : hG, hK G s := by
    refine ⟨((fun k => if k = 0 then c0 else if k = 1 then c1 else if k = 2 then c2 else if k = 3 then c3 else c4, fun k => if k = 0 then iS0 else if k = 1 then iS1 else if k = 2 then iS2 else if k = 3 then iS3 else iS4), cI, cL, cZ, cP), ⟨?_, ?_⟩⟩
    · intro k q hq
      match k, hq with
      | 0, hq => cases hq; exact hKn0
      | 1, hq => cases hq; exact hKn1
      | 2, hq => cases hq; exact hKn2
      | 3, hq => cases hq; exact hKn3
      | 4, hq => cases hq; exact hKn4
      | k + 5, hq => simp [cls5] at hq
    · intro k q hq
      match k, hq with
      | 0, hq => cases hq; exact ⟨fun n z => ⟨fun k h => (by cases h), kI, aI2, compI, aI3⟩, aI1⟩
      | 1, hq => cases hq; exact ⟨fun n z => ⟨fun k h => (by cases h), kL, aL2, compL, aL3⟩, aL1⟩
      | 2, hq => cases hq; exact ⟨fun n z => ⟨fun k h => (by cases h), kZ, aZ2, compZ, aZ3⟩, aZ1⟩
      | 3, hq => cases hq; exact ⟨fun n z => ⟨fun k h => (by cases h), kP, aP3, compP, aP4⟩, kP, compP, aP3, aP4, aP1, aP5⟩
      | k + 4, hq => simp [tyl] at hq
  obtain ⟨sa, hN⟩ : ∃ sa : xS, xN sa s := by
    obtain ⟨a1, _, _, _, e1, -⟩ := Cond.exactly_spec (hfl (.exactly (.string "PartBook" 177) "java/lang/String") (by decide +kernel))
    obtain ⟨a2, _, _, _, e2, -⟩ := Cond.exactly_spec (hfl (.exactly (.string "PartBook" 168) "java/lang/String") (by decide +kernel))
    obtain ⟨a3, _, _, _, e3, -⟩ := Cond.exactly_spec (hfl (.exactly (.string "PartBook" 173) "java/lang/String") (by decide +kernel))
    exact ⟨(a1, a2, a3), va_Nw.of rfl (hts (.declares mRE) (by decide +kernel)), va_Nw.of rfl (hts (.declares mEX) (by decide +kernel)), va_Nw.of rfl (hts (.declares mTH) (by decide +kernel)), va_Nw.of rfl (hts (.castable eA eA) (by decide +kernel)), va_Nw.of rfl (hts (.castable eI eI) (by decide +kernel)), vk_R.of (hts (.stringRef R_B 177 "a number is out of its range") (by decide +kernel)) e1, vk_R.of (hts (.stringRef R_B 168 "no such part") (by decide +kernel)) e2, vk_R.of (hts (.stringRef R_B 173 "no such rule, name, currency or what") (by decide +kernel)) e3⟩
  have hZ : xZ (lA s) s s.heap := ⟨vx_Zqof (hts (.laysStatic Bundle.tN "UNASSIGNED_STACK" Bundle.steD) (by decide +kernel)) (hts (.initialized Bundle.tN) (by decide +kernel)) (hfl (.isRef (.static Bundle.tN "UNASSIGNED_STACK" Bundle.steD)) (by decide +kernel)) (fun a h z => absurd z (Nat.not_le.mpr h)), vx_Zqof (hts (.laysStatic Bundle.tN "SUPPRESSED_SENTINEL" Bundle.listD) (by decide +kernel)) (hts (.initialized Bundle.tN) (by decide +kernel)) (hfl (.isRef (.static Bundle.tN "SUPPRESSED_SENTINEL" Bundle.listD)) (by decide +kernel)) (fun a h z => absurd z (Nat.not_le.mpr h))⟩
  have hNc : va_Nc eA eI s := va_Nc.of (hfl (.not (.castable eA eI)) (by decide +kernel))
  have C : hC G R_L (Cond.initialized R_L :: bw) code 8 ret p s m #[Value.ref b0] meth c := ⟨hx, hb, hml, hown, fun w h => (List.mem_cons.mp h).elim (fun z => by rw [z]; exact hw0 _ wd_0) (hw0 w), hr, hlocks, hK⟩
  have hbA : ¬ lA s b0 := Nat.not_le.mpr hbl
  have hA0 : ∀ q, s.heap.size ≤ q → lA s q := fun _ h => h
  have hS : va_S (lA s) s.heap s.heap [] := va_S.rf
  have hP : hH G (lA s) (fun _ => none) s.heap := hp_iff.mpr ⟨⟨[], List.nodup_nil, fun a => by simp⟩, fun a e h => by cases h⟩
  have hl := lv_entry ([.ref b0]) (n := 8) (Nat.le_of_ble_eq_true rfl)
  rw [lg_entry_eq]
  generalize (lg_sl ([.ref b0]) ++ List.replicate (8 - (lg_sl ([.ref b0])).length) Slot.unset).toArray = ls at hl ⊢
  have hl : lv_has ls 8 [(0, .ref b0)] := hl
  refine g_new C i_B t_B t_B_ok wd_14 wd_15 wd_1 hP hS hA0 (ci := 3) (fs := [.null, .int 0, .null, .null, .int 0, .null, .null, .int 0]) rfl (by decide) (Nat.le_of_ble_eq_true rfl) (Nat.le_of_ble_eq_true rfl) d_L_law_0 (fun x H hnx hP hS => ?_)
  refine lv_dup hx hb d_L_law_3 rfl ?_
  refine g_callv (a_runI C hAO hl.1 (ct_B_init (va_up (fun _ => none) x (some (ob 3 [.null, .int 0, .null, .null, .int 0, .null, .null, .int 0]))) x (va_up_self _ _ _) _) (cx_I C 0 wd_16 wd_17 wd_1 wd_18 rfl rfl rfl (by decide +kernel) ⟨Nat.le_of_ble_eq_true rfl, Nat.le_of_ble_eq_true rfl⟩) hP rfl rfl (Nat.le_of_ble_eq_true rfl) d_L_law_4 ⟨Nat.le_of_ble_eq_true rfl, Nat.le_of_ble_eq_true rfl⟩) hP hS hA0 (fun fx H locs hq hP hS => ?_)
  obtain ⟨a, hk⟩ := hq
  refine lv_astore_n (lv' := [(1, .ref x), (0, .ref b0)]) hx hb d_L_law_7 rfl hl (by decide) rfl (fun ls hl => ?_)
  refine g_new C i_M t_M t_M_ok wd_499 wd_500 wd_3 hP hS hA0 (ci := 4) (fs := [.int 0, .int 0, .null, .null, .null, .null, .int 0, .null, .int 0, .null, .null, .null, .null, .null, .null, .null, .null, .null, .null, .null, .null, .null, .long 0, .int 0]) rfl (by decide) (Nat.le_of_ble_eq_true rfl) (Nat.le_of_ble_eq_true rfl) d_L_law_8 (fun y H hny hP hS => ?_)
  rw [hj_1] at hP
  have hd : dj (hc1 y (ob 4 [.int 0, .int 0, .null, .null, .null, .null, .int 0, .null, .int 0, .null, .null, .null, .null, .null, .null, .null, .null, .null, .null, .null, .null, .null, .long 0, .int 0])) fx := (dj_1 hny).symm
  refine lv_dup hx hb d_L_law_11 rfl ?_
  refine j_callv (g_runI C hl.1 (ct_M_init (hc1 y (ob 4 [.int 0, .int 0, .null, .null, .null, .null, .int 0, .null, .int 0, .null, .null, .null, .null, .null, .null, .null, .null, .null, .null, .null, .null, .null, .long 0, .int 0])) y hc1_s _) (cx_I C 0 wd_501 wd_502 wd_3 wd_503 rfl rfl rfl (by decide +kernel) ⟨Nat.le_of_ble_eq_true rfl, Nat.le_of_ble_eq_true rfl⟩) hP.left rfl rfl (Nat.le_of_ble_eq_true rfl) d_L_law_12 ⟨Nat.le_of_ble_eq_true rfl, Nat.le_of_ble_eq_true rfl⟩) hd hP hS hA0 (fun fm H locs hq hd hP hS => ?_)
  obtain ⟨ca, hm⟩ := hq
  refine lv_astore_n (lv' := [(2, .ref y), (1, .ref x), (0, .ref b0)]) hx hb d_L_law_15 rfl hl (by decide) rfl (fun ls hl => ?_)
  refine lv_iconst (v := 1) hx hb d_L_law_16 (by decide) ?_
  refine g_newL C wd_57 hP hS hA0 1 (by decide) (by decide) (by decide) (Nat.le_of_ble_eq_true rfl) (Nat.le_of_ble_eq_true rfl) d_L_law_17 (fun o H hno hP hS => ?_)
  obtain ⟨hmo, hxo⟩ := hj_none hno
  refine lv_astore_n (lv' := [(3, .ref o), (2, .ref y), (1, .ref x), (0, .ref b0)]) hx hb d_L_law_19 rfl hl (by decide) rfl (fun ls hl => ?_)
  refine lv_iconst (v := 0) hx hb d_L_law_20 (by decide) ?_
  refine lv_istore (lv' := [(4, .int 0), (3, .ref o), (2, .ref y), (1, .ref x), (0, .ref b0)]) hx hb d_L_law_21 hl (by decide) rfl (fun ls hl => ?_)
  rw [hj_1, hj_comm hd, ← hj_assoc, hj_comm (dj_1 hxo).symm] at hP
  have hd3 : dj (hj fx (hc1 o (aL G 1 (fun _ => 0)))) fm := dj_jl hd.symm (dj_1 hmo).symm
  refine W.widen (k := 60 + 15 * 0) (n := 30000 + 400 * 0) (Nat.le_of_ble_eq_true rfl) (Nat.le_of_ble_eq_true rfl) ?_
  exact law_loop hl0 C hN hZ hNc hX hbl hL 513 0 H locs ls (by omega) (by omega) ⟨fx, fm, _, a, b_0, 0, 0, 0, hk, hm, hxo, hd3, hP⟩ hS (lv_sub hl [0, 4, 3, 2, 1] rfl)
