/-! The law's loop. -/
set_option maxHeartbeats 4000000 in
set_option maxRecDepth 100000 in
theorem law_loop {G : hG} {sa : xS} {hw : Cond} {p : Program} {l : Launch} {e : Env} {s : State} {m : MethodId} {below : List Frame} {meth : Method} {c : Code} {b0 L : Nat} {xs : Nat → Int32} (hl0 : l.stackTraces = false) (C : hC G R_L (hw :: bw) code 8 ret p s m #[Value.ref b0] meth c) (hN : xN sa s) (hZ : xZ (lA s) s s.heap) (hNc : va_Nc eA eI s) (hX : va_X b0 L xs s s.heap) (hbl : b0 < s.heap.size) (hL : L ≤ 5120) {x y o : Nat} {ca : Nat → Nat} :
    ∀ (d k : Nat) (H : Heap) (locs : List Loc) (ls : Array Slot), 513 ≤ k + d → 10 * k ≤ 5120 → LI G (lA s) x y o ca H → va_S (lA s) s.heap H locs → lv_has ls 8 [(4, .int (nI (10 * k))), (0, .ref b0), (1, .ref x), (2, .ref y), (3, .ref o)] → W p l e room_1 s m #[Value.ref b0] below meth c H locs (60 + 15 * k) (30000 + 400 * k) (lw_Z below #[Value.ref b0] s) (F0 m 23 ls []) := by
  obtain ⟨hx, hb, hml, hown, -, hr, hlocks, -⟩ := id C
  have hbA : ¬ lA s b0 := Nat.not_le.mpr hbl
  intro d
  induction d with
  | zero => intro k H locs ls h1 h2; exact absurd h1 (by omega)
  | succ d ih =>
    intro k H locs ls h1 h2 hI hS hl
    have tail : 10 * k + 10 ≤ L → ∀ (H1 : Heap) (locs1 : List Loc) (ls1 : Array Slot), LI G (lA s) x y o ca H1 → va_S (lA s) s.heap H1 locs1 → lv_has ls1 8 [(4, .int (nI (10 * k))), (0, .ref b0), (1, .ref x), (2, .ref y), (3, .ref o)] → W p l e room_1 s m #[Value.ref b0] below meth c H1 locs1 (60 + 15 * k + 15) (30000 + 400 * k + 400) (lw_Z below #[Value.ref b0] s) (F0 m 2120 ls1 []) := by
      intro hi H1 locs1 ls1 hI1 hS1 hl1
      refine lv_iinc (v := nI (10 * (k + 1))) (lv' := [(4, .int (nI (10 * (k + 1)))), (0, .ref b0), (1, .ref x), (2, .ref y), (3, .ref o)]) hx hb d_L_law_2120 hl1 (k := 0) rfl (by rw [show 10 * (k + 1) = 10 * k + 10 by omega]; exact nI_add (10 * k) 10) (by decide) rfl (fun ls hl => ?_)
      refine lv_goto (tgt := 23) hx hb d_L_law_2123 (by decide) ?_
      refine W.widen (k := 60 + 15 * (k + 1)) (n := 30000 + 400 * (k + 1)) (by omega) (by omega) ?_
      exact ih (k + 1) H1 locs1 ls (by omega) (by omega) hI1 hS1 hl
    refine lv_iload hx hb d_L_law_23 (lv_at hl 0 rfl) ?_
    refine lv_aload_n hx hb d_L_law_25 rfl (lv_at hl 1 rfl) ?_
    refine va_slen hx hb hX hbl hbA hS d_L_law_26 ?_
    refine lv_bipush (v := 10) hx hb d_L_law_27 (by decide) ?_
    refine lv_isub hx hb d_L_law_29 ?_
    refine lv_icmp_gt (tgt := 2126) hx hb d_L_law_30 (by decide) (fun c_30 => ?_) (fun c_30 => ?_)
    · refine lv_iconst (v := 1) hx hb d_L_law_2126 (by decide) ?_
      refine va_forget (fun q hq => hS.2.2 q hq) ?_
      refine W.widen (k := 601024) (n := 7293033) (by omega) (by omega) ?_
      exact lw_ret hx hb hr hlocks d_L_law_2127
    · have hi : 10 * k + 10 ≤ L := Nat.le_of_not_lt (fun z => c_30 ((s_gt (by omega) (by omega)).mpr z))
      refine lv_aload_n hx hb d_L_law_33 rfl (lv_at hl 1 rfl) ?_
      refine lv_iload hx hb d_L_law_34 (lv_at hl 0 rfl) ?_
      refine s_ld C hX hbl hbA hS (j := 10 * k) (by omega) (by omega) d_L_law_36 ?_
      refine lv_bipush (v := 31) hx hb d_L_law_37 (by decide) ?_
      refine lv_iand hx hb d_L_law_39 ?_
      obtain ⟨v, ev⟩ : ∃ z : Int32, z = xs (10 * k) &&& 31 := ⟨_, rfl⟩
      refine g_eqi (y := v) ev.symm ?_
      by_cases hout : v.toInt < 0 ∨ 19 < v.toInt
      · refine lv_tableOut hx hb d_L_law_40 hout (tgt := 2120) (by decide) ?_
        refine W.widen (k := 60 + 15 * k + 15) (n := 30000 + 400 * k + 400) (by omega) (by omega) ?_
        exact tail hi _ _ _ hI hS hl
      · rcases (show v.toInt = 0 ∨ v.toInt = 1 ∨ v.toInt = 2 ∨ v.toInt = 3 ∨ v.toInt = 4 ∨ v.toInt = 5 ∨ v.toInt = 6 ∨ v.toInt = 7 ∨ v.toInt = 8 ∨ v.toInt = 9 ∨ v.toInt = 10 ∨ v.toInt = 11 ∨ v.toInt = 12 ∨ v.toInt = 13 ∨ v.toInt = 14 ∨ v.toInt = 15 ∨ v.toInt = 16 ∨ v.toInt = 17 ∨ v.toInt = 18 ∨ v.toInt = 19 by omega) with hv9 | hv9 | hv9 | hv9 | hv9 | hv9 | hv9 | hv9 | hv9 | hv9 | hv9 | hv9 | hv9 | hv9 | hv9 | hv9 | hv9 | hv9 | hv9 | hv9
        · refine lv_tableIn hx hb d_L_law_40 (by omega) (by omega) (off := 96) (by rw [hv9]; rfl) (tgt := 136) (by decide) ?_
          exact law_part hl0 C hN hZ hNc hX hbl hL hi (by omega) (by omega) hI hS hl (tail hi)
        · refine lv_tableIn hx hb d_L_law_40 (by omega) (by omega) (off := 152) (by rw [hv9]; rfl) (tgt := 192) (by decide) ?_
          exact law_maker hl0 C hN hZ hNc hX hbl hL hi (by omega) (by omega) hI hS hl (tail hi)
        · refine lv_tableIn hx hb d_L_law_40 (by omega) (by omega) (off := 227) (by rw [hv9]; rfl) (tgt := 267) (by decide) ?_
          exact law_value hl0 C hN hZ hNc hX hbl hL hi (by omega) (by omega) hI hS hl (tail hi)
        · refine lv_tableIn hx hb d_L_law_40 (by omega) (by omega) (off := 406) (by rw [hv9]; rfl) (tgt := 446) (by decide) ?_
          exact law_told hl0 C hN hZ hNc hX hbl hL hi (by omega) (by omega) hI hS hl (tail hi)
        · refine lv_tableIn hx hb d_L_law_40 (by omega) (by omega) (off := 485) (by rw [hv9]; rfl) (tgt := 525) (by decide) ?_
          exact law_rule hl0 C hN hZ hNc hX hbl hL hi (by omega) (by omega) hI hS hl (tail hi)
        · refine lv_tableIn hx hb d_L_law_40 (by omega) (by omega) (off := 498) (by rw [hv9]; rfl) (tgt := 538) (by decide) ?_
          exact law_ask hl0 C hN hZ hNc hX hbl hL hi (by omega) (by omega) hI hS hl (tail hi)
        · refine lv_tableIn hx hb d_L_law_40 (by omega) (by omega) (off := 585) (by rw [hv9]; rfl) (tgt := 625) (by decide) ?_
          exact law_alternates hl0 C hN hZ hNc hX hbl hL hi (by omega) (by omega) hI hS hl (tail hi)
        · refine lv_tableIn hx hb d_L_law_40 (by omega) (by omega) (off := 653) (by rw [hv9]; rfl) (tgt := 693) (by decide) ?_
          exact law_search hl0 C hN hZ hNc hX hbl hL hi (by omega) (by omega) hI hS hl (tail hi)
        · refine lv_tableIn hx hb d_L_law_40 (by omega) (by omega) (off := 893) (by rw [hv9]; rfl) (tgt := 933) (by decide) ?_
          exact law_found hl0 C hN hZ hNc hX hbl hL hi (by omega) (by omega) hI hS hl (tail hi)
        · refine lv_tableIn hx hb d_L_law_40 (by omega) (by omega) (off := 918) (by rw [hv9]; rfl) (tgt := 958) (by decide) ?_
          exact law_price hl0 C hN hZ hNc hX hbl hL hi (by omega) (by omega) hI hS hl (tail hi)
        · refine lv_tableIn hx hb d_L_law_40 (by omega) (by omega) (off := 1049) (by rw [hv9]; rfl) (tgt := 1089) (by decide) ?_
          exact law_rate hl0 C hN hZ hNc hX hbl hL hi (by omega) (by omega) hI hS hl (tail hi)
        · refine lv_tableIn hx hb d_L_law_40 (by omega) (by omega) (off := 1156) (by rw [hv9]; rfl) (tgt := 1196) (by decide) ?_
          exact law_pack hl0 C hN hZ hNc hX hbl hL hi (by omega) (by omega) hI hS hl (tail hi)
        · refine lv_tableIn hx hb d_L_law_40 (by omega) (by omega) (off := 1231) (by rw [hv9]; rfl) (tgt := 1271) (by decide) ?_
          exact law_stock hl0 C hN hZ hNc hX hbl hL hi (by omega) (by omega) hI hS hl (tail hi)
        · refine lv_tableIn hx hb d_L_law_40 (by omega) (by omega) (off := 1306) (by rw [hv9]; rfl) (tgt := 1346) (by decide) ?_
          exact law_life hl0 C hN hZ hNc hX hbl hL hi (by omega) (by omega) hI hS hl (tail hi)
        · refine lv_tableIn hx hb d_L_law_40 (by omega) (by omega) (off := 1425) (by rw [hv9]; rfl) (tgt := 1465) (by decide) ?_
          exact law_state hl0 C hN hZ hNc hX hbl hL hi (by omega) (by omega) hI hS hl (tail hi)
        · refine lv_tableIn hx hb d_L_law_40 (by omega) (by omega) (off := 1525) (by rw [hv9]; rfl) (tgt := 1565) (by decide) ?_
          exact law_cost hl0 C hN hZ hNc hX hbl hL hi (by omega) (by omega) hI hS hl (tail hi)
        · refine lv_tableIn hx hb d_L_law_40 (by omega) (by omega) (off := 1592) (by rw [hv9]; rfl) (tgt := 1632) (by decide) ?_
          exact law_best hl0 C hN hZ hNc hX hbl hL hi (by omega) (by omega) hI hS hl (tail hi)
        · refine lv_tableIn hx hb d_L_law_40 (by omega) (by omega) (off := 1660) (by rw [hv9]; rfl) (tgt := 1700) (by decide) ?_
          exact law_choose hl0 C hN hZ hNc hX hbl hL hi (by omega) (by omega) hI hS hl (tail hi)
        · refine lv_tableIn hx hb d_L_law_40 (by omega) (by omega) (off := 1784) (by rw [hv9]; rfl) (tgt := 1824) (by decide) ?_
          exact law_buy hl0 C hN hZ hNc hX hbl hL hi (by omega) (by omega) hI hS hl (tail hi)
        · refine lv_tableIn hx hb d_L_law_40 (by omega) (by omega) (off := 1908) (by rw [hv9]; rfl) (tgt := 1948) (by decide) ?_
          exact law_derate hl0 C hN hZ hNc hX hbl hL hi (by omega) (by omega) hI hS hl (tail hi)
