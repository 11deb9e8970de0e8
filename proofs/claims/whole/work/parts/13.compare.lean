/-! The comparison of two fractions by Euclid's steps, the class's and the reference's; the reference's common divisor. -/
def cq_i (x : Int) : Int32 := if x < 0 then -1 else if 0 < x then 1 else 0
/-- the sign and the crossed product that go with one another -/
def cq_S (sg : Int32) (X X0 : Int) : Prop := (sg = 1 ∧ X = X0) ∨ (sg = -1 ∧ X = -X0)
theorem cq_pos {sg : Int32} {X X0 : Int} (h : cq_S sg X X0) (hX : 0 < X) : sg = cq_i X0 := by
  rcases h with ⟨rfl, rfl⟩ | ⟨rfl, h⟩
  · unfold cq_i; rw [if_neg (by omega), if_pos hX]
  · unfold cq_i; rw [if_pos (by omega)]
theorem cq_neg {sg : Int32} {X X0 : Int} (h : cq_S sg X X0) (hX : X < 0) : -sg = cq_i X0 := by
  rcases h with ⟨rfl, rfl⟩ | ⟨rfl, h⟩
  · unfold cq_i; rw [if_pos hX]
  · unfold cq_i; rw [if_neg (by omega), if_pos (by omega)]; rfl
theorem cq_zero {sg : Int32} {X X0 : Int} (h : cq_S sg X X0) (hX : X = 0) : (0 : Int32) = cq_i X0 := by
  have : X0 = 0 := by rcases h with ⟨_, h⟩ | ⟨_, h⟩ <;> omega
  rw [this]; rfl
theorem cq_flip {sg : Int32} {X X' X0 : Int} (h : cq_S sg X X0) (hX : X' = -X) : cq_S (-sg) X' X0 := by
  rcases h with ⟨rfl, rfl⟩ | ⟨rfl, rfl⟩
  · exact Or.inr ⟨rfl, hX⟩
  · exact Or.inl ⟨rfl, by omega⟩
theorem cq_0s (sg : Int32) : 0 - sg = -sg := by
  rw [Int32.sub_eq_add_neg, Int32.zero_add]
theorem cq_mp {a b : Nat} (ha : 0 < a) (hb : 0 < b) : 0 < (a : Int) * b := Int.mul_pos (by omega) (by omega)
set_option maxHeartbeats 4000000 in
set_option maxRecDepth 100000 in
theorem ct_F_compare {l : Launch} {G : hG} (f : hm) (a b c0 d : Nat) (ha : a < 2 ^ 63) (hb0 : 0 < b) (hb2 : b < 2 ^ 50) (hc : c0 < 2 ^ 63) (hd0 : 0 < d) (hd : d < 2 ^ 63) : ci_ l G y_F_compare w_F_compare { frames := 0, cells := 0, slots := 0, locals := 0 } [.long (lN a), .long (lN b), .long (lN c0), .long (lN d)] f (fun r u => r = cq_i ((a : Int) * d - (c0 : Int) * b) ∧ u = f) := by
  intro sz
  refine h_ofW (cc := c_F_compare) (maxL := 18) (ret := (some .int)) (by decide) rfl (Nat.le_of_ble_eq_true rfl) ?_
  intro p e s m below meth c ls C hin hsz hP hl
  obtain ⟨hx, hb, hml, hown, -, -, -, -⟩ := id C
  subst hsz
  have hA0 : ∀ q, s.heap.size ≤ q → hA f s.heap.size q := hA.new
  have hS : va_S (hA f s.heap.size) s.heap s.heap [] := va_S.rf
  replace hl : lv_has ls 18 [(0, .long (lN a)), (2, .long (lN b)), (4, .long (lN c0)), (6, .long (lN d))] := hl
  have tail : ∀ (x y z t : Nat) (sg : Int32) (ls : Array Slot), (y = 0 ∨ t = 0) → cq_S sg ((x : Int) * t - (z : Int) * y) ((a : Int) * d - (c0 : Int) * b) → (0 < x ∧ 0 < z) → x < 2 ^ 63 → y < 2 ^ 63 → z < 2 ^ 63 → t < 2 ^ 63 → lv_has ls 18 [(8, .int sg), (0, .long (lN x)), (2, .long (lN y)), (4, .long (lN z)), (6, .long (lN t))] → W p l e { frames := 0, cells := 0, slots := 0, locals := 0 } s m #[.long (lN a), .long (lN b), .long (lN c0), .long (lN d)] below meth c s.heap [] 0 0 (MQ below (va_Qi (fun r u => r = cq_i ((a : Int) * d - (c0 : Int) * b) ∧ u = f) (hB G (hA f s.heap.size)) (hA f s.heap.size)) #[.long (lN a), .long (lN b), .long (lN c0), .long (lN d)] s 0 0 (hA f s.heap.size)) (F0 m 99 ls []) := by
    intro x y z t sg ls h0 hg hp hx0 hy hz ht hl
    refine lv_lload_n hx hb d_F_compare_99 rfl (lv_at hl 2 rfl) ?_
    refine lv_lconst (v := 0) hx hb d_F_compare_100 (by decide) ?_
    refine W.lcmp hx hb d_F_compare_101 ?_
    refine lv_if_ne (tgt := 114) hx hb d_F_compare_102 (by decide) (fun c_102 => ?_) (fun c_102 => ?_)
    · have c_102 := fun z => c_102 ((lg_cmp_eq _ _).mpr z)
      have q_102 : ¬ y = 0 := fun z9 => c_102 ((pk_lEQ (b := 0) hy (by omega)).mpr z9)
      refine lv_lload_n hx hb d_F_compare_114 rfl (lv_at hl 2 rfl) ?_
      refine lv_lconst (v := 0) hx hb d_F_compare_115 (by decide) ?_
      refine W.lcmp hx hb d_F_compare_116 ?_
      refine lv_if_ne (tgt := 125) hx hb d_F_compare_117 (by decide) (fun c_117 => ?_) (fun c_117 => ?_)
      · have c_117 := fun z => c_117 ((lg_cmp_eq _ _).mpr z)
        have q_117 : ¬ y = 0 := fun z9 => c_117 ((pk_lEQ (b := 0) hy (by omega)).mpr z9)
        refine lv_iload hx hb d_F_compare_125 (lv_at hl 0 rfl) ?_
        refine lv_ineg hx hb d_F_compare_127 ?_
        exact g_iret C hP hS (⟨cq_neg hg (by have h9 : t = 0 := (by omega); rw [h9]; have := cq_mp (a := z) (b := y) (by omega) (by omega); simpa using this), rfl⟩) (Nat.le_of_ble_eq_true rfl) (Nat.le_of_ble_eq_true rfl) d_F_compare_128
      · have c_117 := (lg_cmp_eq _ _).mp c_117
        have q_117 : y = 0 := (pk_lEQ (b := 0) hy (by omega)).mp c_117
        refine lv_iload hx hb d_F_compare_120 (lv_at hl 0 rfl) ?_
        refine lv_goto (tgt := 128) hx hb d_F_compare_122 (by decide) ?_
        exact g_iret C hP hS (⟨cq_pos hg (by rw [q_117]; have := cq_mp (a := x) (b := t) (by omega) (by omega); simpa using this), rfl⟩) (Nat.le_of_ble_eq_true rfl) (Nat.le_of_ble_eq_true rfl) d_F_compare_128
    · have c_102 := (lg_cmp_eq _ _).mp c_102
      have q_102 : y = 0 := (pk_lEQ (b := 0) hy (by omega)).mp c_102
      refine lv_lload hx hb d_F_compare_105 (lv_at hl 4 rfl) ?_
      refine lv_lconst (v := 0) hx hb d_F_compare_107 (by decide) ?_
      refine W.lcmp hx hb d_F_compare_108 ?_
      refine lv_if_ne (tgt := 114) hx hb d_F_compare_109 (by decide) (fun c_109 => ?_) (fun c_109 => ?_)
      · have c_109 := fun z => c_109 ((lg_cmp_eq _ _).mpr z)
        have q_109 : ¬ t = 0 := fun z9 => c_109 ((pk_lEQ (b := 0) ht (by omega)).mpr z9)
        refine lv_lload_n hx hb d_F_compare_114 rfl (lv_at hl 2 rfl) ?_
        refine lv_lconst (v := 0) hx hb d_F_compare_115 (by decide) ?_
        refine W.lcmp hx hb d_F_compare_116 ?_
        refine lv_if_ne (tgt := 125) hx hb d_F_compare_117 (by decide) (fun c_117 => ?_) (fun c_117 => ?_)
        · have c_117 := fun z => c_117 ((lg_cmp_eq _ _).mpr z)
          have q_117 : ¬ y = 0 := fun z9 => c_117 ((pk_lEQ (b := 0) hy (by omega)).mpr z9)
          refine lv_iload hx hb d_F_compare_125 (lv_at hl 0 rfl) ?_
          refine lv_ineg hx hb d_F_compare_127 ?_
          exact g_iret C hP hS (⟨cq_neg hg (by have h9 : t = 0 := (by omega); rw [h9]; have := cq_mp (a := z) (b := y) (by omega) (by omega); simpa using this), rfl⟩) (Nat.le_of_ble_eq_true rfl) (Nat.le_of_ble_eq_true rfl) d_F_compare_128
        · have c_117 := (lg_cmp_eq _ _).mp c_117
          have q_117 : y = 0 := (pk_lEQ (b := 0) hy (by omega)).mp c_117
          refine lv_iload hx hb d_F_compare_120 (lv_at hl 0 rfl) ?_
          refine lv_goto (tgt := 128) hx hb d_F_compare_122 (by decide) ?_
          exact g_iret C hP hS (⟨cq_pos hg (by rw [q_117]; have := cq_mp (a := x) (b := t) (by omega) (by omega); simpa using this), rfl⟩) (Nat.le_of_ble_eq_true rfl) (Nat.le_of_ble_eq_true rfl) d_F_compare_128
      · have c_109 := (lg_cmp_eq _ _).mp c_109
        have q_109 : t = 0 := (pk_lEQ (b := 0) ht (by omega)).mp c_109
        refine lv_iconst (v := 0) hx hb d_F_compare_112 (by decide) ?_
        exact g_iret C hP hS (⟨cq_zero hg (by rw [q_102, q_109]; simp), rfl⟩) (Nat.le_of_ble_eq_true rfl) (Nat.le_of_ble_eq_true rfl) d_F_compare_113
  have loop : ∀ (k i x y z t : Nat) (sg : Int32) (ls : Array Slot), 100 < i + k → i ≤ 100 → eu_J b i x y → cq_S sg ((x : Int) * t - (z : Int) * y) ((a : Int) * d - (c0 : Int) * b) → ((0 < x ∧ 0 < z) ∨ (0 < y ∧ 0 < t)) → x < 2 ^ 63 → y < 2 ^ 63 → z < 2 ^ 63 → t < 2 ^ 63 → lv_has ls 18 [(9, .int (nI i)), (8, .int sg), (0, .long (lN x)), (2, .long (lN y)), (4, .long (lN z)), (6, .long (lN t))] → W p l e { frames := 0, cells := 0, slots := 0, locals := 0 } s m #[.long (lN a), .long (lN b), .long (lN c0), .long (lN d)] below meth c s.heap [] 0 0 (MQ below (va_Qi (fun r u => r = cq_i ((a : Int) * d - (c0 : Int) * b) ∧ u = f) (hB G (hA f s.heap.size)) (hA f s.heap.size)) #[.long (lN a), .long (lN b), .long (lN c0), .long (lN d)] s 0 0 (hA f s.heap.size)) (F0 m 6 ls []) := by
    intro k
    induction k with
    | zero => intro i x y z t sg ls h1 h2; exact absurd h1 (by omega)
    | succ k ih =>
      intro i x y z t sg ls h1 h2 hJ hg hp hx0 hy hz ht hl
      refine lv_iload hx hb d_F_compare_6 (lv_at hl 0 rfl) ?_
      refine lv_bipush (v := 100) hx hb d_F_compare_8 (by decide) ?_
      refine lv_icmp_ge (tgt := 99) hx hb d_F_compare_10 (by decide) (fun c_10 => ?_) (fun c_10 => ?_)
      · have q_10 : 100 ≤ i := (nI_leI (a := 100) (by omega) (by omega)).mp c_10
        have qz : y = 0 := by have h9 : i = 100 := (by omega); subst h9; exact eu_end (B := b) hb2 hJ
        exact tail x y z t sg ls (by omega) hg (by omega) hx0 hy hz ht (lv_sub hl [1, 2, 3, 4, 5] rfl)
      · have q_10 : ¬ 100 ≤ i := fun z9 => c_10 ((nI_leI (a := 100) (by omega) (by omega)).mpr z9)
        refine lv_lload_n hx hb d_F_compare_13 rfl (lv_at hl 3 rfl) ?_
        refine lv_lconst (v := 0) hx hb d_F_compare_14 (by decide) ?_
        refine W.lcmp hx hb d_F_compare_15 ?_
        refine lv_if_eq (tgt := 99) hx hb d_F_compare_16 (by decide) (fun c_16 => ?_) (fun c_16 => ?_)
        · have c_16 := (lg_cmp_eq _ _).mp c_16
          have q_16 : y = 0 := (pk_lEQ (b := 0) hy (by omega)).mp c_16
          exact tail x y z t sg ls (by omega) hg (by omega) hx0 hy hz ht (lv_sub hl [1, 2, 3, 4, 5] rfl)
        · have c_16 := fun z => c_16 ((lg_cmp_eq _ _).mpr z)
          have q_16 : ¬ y = 0 := fun z9 => c_16 ((pk_lEQ (b := 0) hy (by omega)).mpr z9)
          refine lv_lload hx hb d_F_compare_19 (lv_at hl 5 rfl) ?_
          refine lv_lconst (v := 0) hx hb d_F_compare_21 (by decide) ?_
          refine W.lcmp hx hb d_F_compare_22 ?_
          refine lv_if_eq (tgt := 99) hx hb d_F_compare_23 (by decide) (fun c_23 => ?_) (fun c_23 => ?_)
          · have c_23 := (lg_cmp_eq _ _).mp c_23
            have q_23 : t = 0 := (pk_lEQ (b := 0) ht (by omega)).mp c_23
            exact tail x y z t sg ls (by omega) hg (by omega) hx0 hy hz ht (lv_sub hl [1, 2, 3, 4, 5] rfl)
          · have c_23 := fun z => c_23 ((lg_cmp_eq _ _).mpr z)
            have q_23 : ¬ t = 0 := fun z9 => c_23 ((pk_lEQ (b := 0) ht (by omega)).mpr z9)
            refine lv_lload_n hx hb d_F_compare_26 rfl (lv_at hl 2 rfl) ?_
            refine lv_lload_n hx hb d_F_compare_27 rfl (lv_at hl 3 rfl) ?_
            refine lv_ldiv hx hb d_F_compare_28 (fun z9 => q_16 ((pk_lEQ (b := 0) hy (by omega)).mp z9)) ?_
            refine g_eql (y := lN (x / y)) (pk_lDiv hx0 (by omega) hy) ?_
            refine lv_lstore (lv' := [(10, .long (lN (x / y))), (9, .int (nI i)), (8, .int sg), (0, .long (lN x)), (2, .long (lN y)), (4, .long (lN z)), (6, .long (lN t))]) hx hb d_F_compare_29 hl (by decide) rfl (fun ls hl => ?_)
            refine lv_lload hx hb d_F_compare_31 (lv_at hl 5 rfl) ?_
            refine lv_lload hx hb d_F_compare_33 (lv_at hl 6 rfl) ?_
            refine lv_ldiv hx hb d_F_compare_35 (fun z9 => q_23 ((pk_lEQ (b := 0) ht (by omega)).mp z9)) ?_
            refine g_eql (y := lN (z / t)) (pk_lDiv hz (by omega) ht) ?_
            refine lv_lstore (lv' := [(12, .long (lN (z / t))), (10, .long (lN (x / y))), (9, .int (nI i)), (8, .int sg), (0, .long (lN x)), (2, .long (lN y)), (4, .long (lN z)), (6, .long (lN t))]) hx hb d_F_compare_36 hl (by decide) rfl (fun ls hl => ?_)
            refine lv_lload hx hb d_F_compare_38 (lv_at hl 1 rfl) ?_
            refine lv_lload hx hb d_F_compare_40 (lv_at hl 0 rfl) ?_
            refine W.lcmp hx hb d_F_compare_42 ?_
            refine lv_if_eq (tgt := 63) hx hb d_F_compare_43 (by decide) (fun c_43 => ?_) (fun c_43 => ?_)
            · have c_43 := (lg_cmp_eq _ _).mp c_43
              have q_43 : x / y = z / t := (pk_lEQ (Nat.lt_of_le_of_lt (Nat.div_le_self _ _) hx0) (Nat.lt_of_le_of_lt (Nat.div_le_self _ _) hz)).mp c_43
              refine lv_lload_n hx hb d_F_compare_63 rfl (lv_at hl 4 rfl) ?_
              refine lv_lload_n hx hb d_F_compare_64 rfl (lv_at hl 5 rfl) ?_
              refine lv_lrem hx hb d_F_compare_65 (fun z9 => q_16 ((pk_lEQ (b := 0) hy (by omega)).mp z9)) ?_
              refine g_eql (y := lN (x % y)) (pk_lRem hx0 (by omega) hy) ?_
              refine lv_lstore (lv' := [(14, .long (lN (x % y))), (12, .long (lN (z / t))), (10, .long (lN (x / y))), (9, .int (nI i)), (8, .int sg), (0, .long (lN x)), (2, .long (lN y)), (4, .long (lN z)), (6, .long (lN t))]) hx hb d_F_compare_66 hl (by decide) rfl (fun ls hl => ?_)
              refine lv_lload hx hb d_F_compare_68 (lv_at hl 7 rfl) ?_
              refine lv_lload hx hb d_F_compare_70 (lv_at hl 8 rfl) ?_
              refine lv_lrem hx hb d_F_compare_72 (fun z9 => q_23 ((pk_lEQ (b := 0) ht (by omega)).mp z9)) ?_
              refine g_eql (y := lN (z % t)) (pk_lRem hz (by omega) ht) ?_
              refine lv_lstore (lv' := [(16, .long (lN (z % t))), (14, .long (lN (x % y))), (12, .long (lN (z / t))), (10, .long (lN (x / y))), (9, .int (nI i)), (8, .int sg), (0, .long (lN x)), (2, .long (lN y)), (4, .long (lN z)), (6, .long (lN t))]) hx hb d_F_compare_73 hl (by decide) rfl (fun ls hl => ?_)
              refine lv_lload_n hx hb d_F_compare_75 rfl (lv_at hl 7 rfl) ?_
              refine lv_lstore_n (lv' := [(0, .long (lN y)), (16, .long (lN (z % t))), (14, .long (lN (x % y))), (12, .long (lN (z / t))), (10, .long (lN (x / y))), (9, .int (nI i)), (8, .int sg), (2, .long (lN y)), (4, .long (lN z)), (6, .long (lN t))]) hx hb d_F_compare_76 rfl hl (by decide) rfl (fun ls hl => ?_)
              refine lv_lload hx hb d_F_compare_77 (lv_at hl 2 rfl) ?_
              refine lv_lstore_n (lv' := [(2, .long (lN (x % y))), (0, .long (lN y)), (16, .long (lN (z % t))), (14, .long (lN (x % y))), (12, .long (lN (z / t))), (10, .long (lN (x / y))), (9, .int (nI i)), (8, .int sg), (4, .long (lN z)), (6, .long (lN t))]) hx hb d_F_compare_79 rfl hl (by decide) rfl (fun ls hl => ?_)
              refine lv_lload hx hb d_F_compare_80 (lv_at hl 9 rfl) ?_
              refine lv_lstore (lv' := [(4, .long (lN t)), (2, .long (lN (x % y))), (0, .long (lN y)), (16, .long (lN (z % t))), (14, .long (lN (x % y))), (12, .long (lN (z / t))), (10, .long (lN (x / y))), (9, .int (nI i)), (8, .int sg), (6, .long (lN t))]) hx hb d_F_compare_82 hl (by decide) rfl (fun ls hl => ?_)
              refine lv_lload hx hb d_F_compare_84 (lv_at hl 3 rfl) ?_
              refine lv_lstore (lv' := [(6, .long (lN (z % t))), (4, .long (lN t)), (2, .long (lN (x % y))), (0, .long (lN y)), (16, .long (lN (z % t))), (14, .long (lN (x % y))), (12, .long (lN (z / t))), (10, .long (lN (x / y))), (9, .int (nI i)), (8, .int sg)]) hx hb d_F_compare_86 hl (by decide) rfl (fun ls hl => ?_)
              refine lv_iload hx hb d_F_compare_88 (lv_at hl 9 rfl) ?_
              refine lv_ineg hx hb d_F_compare_90 ?_
              refine lv_istore (lv' := [(8, .int (-sg)), (6, .long (lN (z % t))), (4, .long (lN t)), (2, .long (lN (x % y))), (0, .long (lN y)), (16, .long (lN (z % t))), (14, .long (lN (x % y))), (12, .long (lN (z / t))), (10, .long (lN (x / y))), (9, .int (nI i))]) hx hb d_F_compare_91 hl (by decide) rfl (fun ls hl => ?_)
              refine lv_iinc (v := nI (i + 1)) (lv' := [(9, .int (nI (i + 1))), (8, .int (-sg)), (6, .long (lN (z % t))), (4, .long (lN t)), (2, .long (lN (x % y))), (0, .long (lN y)), (16, .long (lN (z % t))), (14, .long (lN (x % y))), (12, .long (lN (z / t))), (10, .long (lN (x / y)))]) hx hb d_F_compare_93 hl (k := 9) rfl (nI_1 i) (by decide) rfl (fun ls hl => ?_)
              refine lv_goto (tgt := 6) hx hb d_F_compare_96 (by decide) ?_
              exact ih (i + 1) y (x % y) t (z % t) (-sg) ls (by omega) (by omega) (eu_step (by omega) hJ) (cq_flip hg (cq_step q_43)) (Or.inl ⟨by omega, by omega⟩) (by omega) (Nat.lt_trans (Nat.mod_lt _ (by omega)) hy) (by omega) (Nat.lt_trans (Nat.mod_lt _ (by omega)) ht) (lv_sub hl [0, 1, 5, 4, 3, 2] rfl)
            · have c_43 := fun z => c_43 ((lg_cmp_eq _ _).mpr z)
              have q_43 : ¬ x / y = z / t := fun z9 => c_43 ((pk_lEQ (Nat.lt_of_le_of_lt (Nat.div_le_self _ _) hx0) (Nat.lt_of_le_of_lt (Nat.div_le_self _ _) hz)).mpr z9)
              refine lv_lload hx hb d_F_compare_46 (lv_at hl 1 rfl) ?_
              refine lv_lload hx hb d_F_compare_48 (lv_at hl 0 rfl) ?_
              refine W.lcmp hx hb d_F_compare_50 ?_
              refine lv_if_ge (tgt := 60) hx hb d_F_compare_51 (by decide) (fun c_51 => ?_) (fun c_51 => ?_)
              · have c_51 := (lg_cmp_ge _ _).mp c_51
                have q_51 : z / t ≤ x / y := (pk_lLE (Nat.lt_of_le_of_lt (Nat.div_le_self _ _) hz) (Nat.lt_of_le_of_lt (Nat.div_le_self _ _) hx0)).mp c_51
                refine lv_iload hx hb d_F_compare_60 (lv_at hl 3 rfl) ?_
                exact g_iret C hP hS (⟨cq_pos hg (by have := cq_lt (a := z) (b := t) (c := x) (d := y) (by omega) (by omega) (by omega); omega), rfl⟩) (Nat.le_of_ble_eq_true rfl) (Nat.le_of_ble_eq_true rfl) d_F_compare_62
              · have c_51 := fun z => c_51 ((lg_cmp_ge _ _).mpr z)
                have q_51 : ¬ z / t ≤ x / y := fun z9 => c_51 ((pk_lLE (Nat.lt_of_le_of_lt (Nat.div_le_self _ _) hz) (Nat.lt_of_le_of_lt (Nat.div_le_self _ _) hx0)).mpr z9)
                refine lv_iload hx hb d_F_compare_54 (lv_at hl 3 rfl) ?_
                refine lv_ineg hx hb d_F_compare_56 ?_
                refine lv_goto (tgt := 62) hx hb d_F_compare_57 (by decide) ?_
                exact g_iret C hP hS (⟨cq_neg hg (cq_lt (by omega) (by omega) (by omega)), rfl⟩) (Nat.le_of_ble_eq_true rfl) (Nat.le_of_ble_eq_true rfl) d_F_compare_62
  refine lv_iconst (v := 1) hx hb d_F_compare_0 (by decide) ?_
  refine lv_istore (lv' := [(8, .int 1), (0, .long (lN a)), (2, .long (lN b)), (4, .long (lN c0)), (6, .long (lN d))]) hx hb d_F_compare_1 hl (by decide) rfl (fun ls hl => ?_)
  refine lv_iconst (v := 0) hx hb d_F_compare_3 (by decide) ?_
  refine lv_istore (lv' := [(9, .int 0), (8, .int 1), (0, .long (lN a)), (2, .long (lN b)), (4, .long (lN c0)), (6, .long (lN d))]) hx hb d_F_compare_4 hl (by decide) rfl (fun ls hl => ?_)
  exact loop 101 0 a b c0 d 1 ls (by omega) (by omega) (eu_start (Nat.le_refl b)) (Or.inl ⟨rfl, rfl⟩) (Or.inr ⟨hb0, hd0⟩) ha (by omega) hc hd (lv_sub hl [0, 1, 2, 3, 4, 5] rfl)
set_option maxHeartbeats 4000000 in
set_option maxRecDepth 100000 in
theorem ct_M_common {l : Launch} {G : hG} (f : hm) (a b : Nat) (ha : a < 2 ^ 63) (hb2 : b < 2 ^ 63) : cl_ l G y_M_common w_M_common { frames := 0, cells := 0, slots := 0, locals := 0 } [.long (lN a), .long (lN b)] f (fun r u => r = lN (Nat.gcd a b) ∧ u = f) := by
  intro sz
  refine h_ofW (cc := c_M_common) (maxL := 10) (ret := (some .long)) (by decide) rfl (Nat.le_of_ble_eq_true rfl) ?_
  intro p e s m below meth c ls C hin hsz hP hl
  obtain ⟨hx, hb, hml, hown, -, -, -, -⟩ := id C
  subst hsz
  have hA0 : ∀ q, s.heap.size ≤ q → hA f s.heap.size q := hA.new
  have hS : va_S (hA f s.heap.size) s.heap s.heap [] := va_S.rf
  replace hl : lv_has ls 10 [(0, .long (lN a)), (2, .long (lN b))] := hl
  have loop : ∀ (k x y : Nat) (ls : Array Slot), y < k → Nat.gcd x y = Nat.gcd a b → x < 2 ^ 63 → y < 2 ^ 63 → lv_has ls 10 [(6, .long (lN y)), (4, .long (lN x))] → W p l e { frames := 0, cells := 0, slots := 0, locals := 0 } s m #[.long (lN a), .long (lN b)] below meth c s.heap [] 0 0 (MQ below (va_Ql (fun r u => r = lN (Nat.gcd a b) ∧ u = f) (hB G (hA f s.heap.size)) (hA f s.heap.size)) #[.long (lN a), .long (lN b)] s 0 0 (hA f s.heap.size)) (F0 m 6 ls []) := by
    intro k
    induction k with
    | zero => intro x y ls h1; exact absurd h1 (by omega)
    | succ k ih =>
      intro x y ls h1 hg hx0 hy hl
      refine lv_lload hx hb d_M_common_6 (lv_at hl 0 rfl) ?_
      refine lv_lconst (v := 0) hx hb d_M_common_8 (by decide) ?_
      refine W.lcmp hx hb d_M_common_9 ?_
      refine lv_if_eq (tgt := 31) hx hb d_M_common_10 (by decide) (fun c_10 => ?_) (fun c_10 => ?_)
      · have c_10 := (lg_cmp_eq _ _).mp c_10
        have q_10 : y = 0 := (pk_lEQ (b := 0) hy (by omega)).mp c_10
        refine lv_lload hx hb d_M_common_31 (lv_at hl 1 rfl) ?_
        exact g_lret C hP hS (⟨by rw [← hg, q_10, Nat.gcd_zero_right], rfl⟩) (Nat.le_of_ble_eq_true rfl) (Nat.le_of_ble_eq_true rfl) d_M_common_33
      · have c_10 := fun z => c_10 ((lg_cmp_eq _ _).mpr z)
        have q_10 : ¬ y = 0 := fun z9 => c_10 ((pk_lEQ (b := 0) hy (by omega)).mpr z9)
        refine lv_lload hx hb d_M_common_13 (lv_at hl 1 rfl) ?_
        refine lv_lload hx hb d_M_common_15 (lv_at hl 0 rfl) ?_
        refine lv_lrem hx hb d_M_common_17 (fun z9 => q_10 ((pk_lEQ (b := 0) hy (by omega)).mp z9)) ?_
        refine g_eql (y := lN (x % y)) (pk_lRem hx0 (by omega) hy) ?_
        refine lv_lstore (lv' := [(8, .long (lN (x % y))), (6, .long (lN y)), (4, .long (lN x))]) hx hb d_M_common_18 hl (by decide) rfl (fun ls hl => ?_)
        refine lv_lload hx hb d_M_common_20 (lv_at hl 1 rfl) ?_
        refine lv_lstore (lv' := [(4, .long (lN y)), (8, .long (lN (x % y))), (6, .long (lN y))]) hx hb d_M_common_22 hl (by decide) rfl (fun ls hl => ?_)
        refine lv_lload hx hb d_M_common_24 (lv_at hl 1 rfl) ?_
        refine lv_lstore (lv' := [(6, .long (lN (x % y))), (4, .long (lN y)), (8, .long (lN (x % y)))]) hx hb d_M_common_26 hl (by decide) rfl (fun ls hl => ?_)
        refine lv_goto (tgt := 6) hx hb d_M_common_28 (by decide) ?_
        exact ih y (x % y) ls (by have := Nat.mod_lt x (y := y) (by omega); omega) (by rw [← hg, Nat.gcd_comm x y, Nat.gcd_rec y x, Nat.gcd_comm]) (by omega) (Nat.lt_trans (Nat.mod_lt _ (by omega)) hy) (lv_sub hl [0, 1] rfl)
  refine lv_lload_n hx hb d_M_common_0 rfl (lv_at hl 0 rfl) ?_
  refine lv_lstore (lv' := [(4, .long (lN a)), (0, .long (lN a)), (2, .long (lN b))]) hx hb d_M_common_1 hl (by decide) rfl (fun ls hl => ?_)
  refine lv_lload_n hx hb d_M_common_3 rfl (lv_at hl 2 rfl) ?_
  refine lv_lstore (lv' := [(6, .long (lN b)), (4, .long (lN a)), (0, .long (lN a)), (2, .long (lN b))]) hx hb d_M_common_4 hl (by decide) rfl (fun ls hl => ?_)
  exact loop (b + 1) a b ls (by omega) rfl ha hb2 (lv_sub hl [0, 1] rfl)
set_option maxHeartbeats 4000000 in
set_option maxRecDepth 100000 in
theorem ct_M_compare {l : Launch} {G : hG} (f : hm) (a b c0 d : Nat) (ha : a < 2 ^ 63) (hb0 : 0 < b) (hb2 : b < 2 ^ 63) (hc : c0 < 2 ^ 63) (hd0 : 0 < d) (hd : d < 2 ^ 63) : ci_ l G y_M_compare w_M_compare { frames := 0, cells := 0, slots := 0, locals := 0 } [.long (lN a), .long (lN b), .long (lN c0), .long (lN d)] f (fun r u => r = cq_i ((a : Int) * d - (c0 : Int) * b) ∧ u = f) := by
  intro sz
  refine h_ofW (cc := c_M_compare) (maxL := 25) (ret := (some .int)) (by decide) rfl (Nat.le_of_ble_eq_true rfl) ?_
  intro p e s m below meth c ls C hin hsz hP hl
  obtain ⟨hx, hb, hml, hown, -, -, -, -⟩ := id C
  subst hsz
  have hA0 : ∀ q, s.heap.size ≤ q → hA f s.heap.size q := hA.new
  have hS : va_S (hA f s.heap.size) s.heap s.heap [] := va_S.rf
  replace hl : lv_has ls 25 [(0, .long (lN a)), (2, .long (lN b)), (4, .long (lN c0)), (6, .long (lN d))] := hl
  have loop : ∀ (k x y z t : Nat) (sg : Int32) (ls : Array Slot), y < k → cq_S sg ((x : Int) * t - (z : Int) * y) ((a : Int) * d - (c0 : Int) * b) → x < 2 ^ 63 → 0 < y → y < 2 ^ 63 → z < 2 ^ 63 → 0 < t → t < 2 ^ 63 → lv_has ls 25 [(16, .int sg), (8, .long (lN x)), (10, .long (lN y)), (12, .long (lN z)), (14, .long (lN t))] → W p l e { frames := 0, cells := 0, slots := 0, locals := 0 } s m #[.long (lN a), .long (lN b), .long (lN c0), .long (lN d)] below meth c s.heap [] 0 0 (MQ below (va_Qi (fun r u => r = cq_i ((a : Int) * d - (c0 : Int) * b) ∧ u = f) (hB G (hA f s.heap.size)) (hA f s.heap.size)) #[.long (lN a), .long (lN b), .long (lN c0), .long (lN d)] s 0 0 (hA f s.heap.size)) (F0 m 17 ls []) := by
    intro k
    induction k with
    | zero => intro x y z t sg ls h1; exact absurd h1 (by omega)
    | succ k ih =>
      intro x y z t sg ls h1 hg hx0 hy0 hy hz ht0 ht hl
      refine lv_lload hx hb d_M_compare_17 (lv_at hl 1 rfl) ?_
      refine lv_lload hx hb d_M_compare_19 (lv_at hl 2 rfl) ?_
      refine lv_ldiv hx hb d_M_compare_21 (fun z9 => absurd ((pk_lEQ (b := 0) hy (by omega)).mp z9) (by omega)) ?_
      refine g_eql (y := lN (x / y)) (pk_lDiv hx0 (by omega) hy) ?_
      refine lv_lstore (lv' := [(17, .long (lN (x / y))), (16, .int sg), (8, .long (lN x)), (10, .long (lN y)), (12, .long (lN z)), (14, .long (lN t))]) hx hb d_M_compare_22 hl (by decide) rfl (fun ls hl => ?_)
      refine lv_lload hx hb d_M_compare_24 (lv_at hl 4 rfl) ?_
      refine lv_lload hx hb d_M_compare_26 (lv_at hl 5 rfl) ?_
      refine lv_ldiv hx hb d_M_compare_28 (fun z9 => absurd ((pk_lEQ (b := 0) ht (by omega)).mp z9) (by omega)) ?_
      refine g_eql (y := lN (z / t)) (pk_lDiv hz (by omega) ht) ?_
      refine lv_lstore (lv' := [(19, .long (lN (z / t))), (17, .long (lN (x / y))), (16, .int sg), (8, .long (lN x)), (10, .long (lN y)), (12, .long (lN z)), (14, .long (lN t))]) hx hb d_M_compare_29 hl (by decide) rfl (fun ls hl => ?_)
      refine lv_lload hx hb d_M_compare_31 (lv_at hl 1 rfl) ?_
      refine lv_lload hx hb d_M_compare_33 (lv_at hl 0 rfl) ?_
      refine W.lcmp hx hb d_M_compare_35 ?_
      refine lv_if_eq (tgt := 57) hx hb d_M_compare_36 (by decide) (fun c_36 => ?_) (fun c_36 => ?_)
      · have c_36 := (lg_cmp_eq _ _).mp c_36
        have q_36 : x / y = z / t := (pk_lEQ (Nat.lt_of_le_of_lt (Nat.div_le_self _ _) hx0) (Nat.lt_of_le_of_lt (Nat.div_le_self _ _) hz)).mp c_36
        have qX := cq_step q_36
        refine lv_lload hx hb d_M_compare_57 (lv_at hl 3 rfl) ?_
        refine lv_lload hx hb d_M_compare_59 (lv_at hl 4 rfl) ?_
        refine lv_lrem hx hb d_M_compare_61 (fun z9 => absurd ((pk_lEQ (b := 0) hy (by omega)).mp z9) (by omega)) ?_
        refine g_eql (y := lN (x % y)) (pk_lRem hx0 (by omega) hy) ?_
        refine lv_lstore (lv' := [(21, .long (lN (x % y))), (19, .long (lN (z / t))), (17, .long (lN (x / y))), (16, .int sg), (8, .long (lN x)), (10, .long (lN y)), (12, .long (lN z)), (14, .long (lN t))]) hx hb d_M_compare_62 hl (by decide) rfl (fun ls hl => ?_)
        refine lv_lload hx hb d_M_compare_64 (lv_at hl 6 rfl) ?_
        refine lv_lload hx hb d_M_compare_66 (lv_at hl 7 rfl) ?_
        refine lv_lrem hx hb d_M_compare_68 (fun z9 => absurd ((pk_lEQ (b := 0) ht (by omega)).mp z9) (by omega)) ?_
        refine g_eql (y := lN (z % t)) (pk_lRem hz (by omega) ht) ?_
        refine lv_lstore (lv' := [(23, .long (lN (z % t))), (21, .long (lN (x % y))), (19, .long (lN (z / t))), (17, .long (lN (x / y))), (16, .int sg), (8, .long (lN x)), (10, .long (lN y)), (12, .long (lN z)), (14, .long (lN t))]) hx hb d_M_compare_69 hl (by decide) rfl (fun ls hl => ?_)
        refine lv_lload hx hb d_M_compare_71 (lv_at hl 1 rfl) ?_
        refine lv_lconst (v := 0) hx hb d_M_compare_73 (by decide) ?_
        refine W.lcmp hx hb d_M_compare_74 ?_
        refine lv_if_eq (tgt := 85) hx hb d_M_compare_75 (by decide) (fun c_75 => ?_) (fun c_75 => ?_)
        · have c_75 := (lg_cmp_eq _ _).mp c_75
          have q_75 : x % y = 0 := (pk_lEQ (b := 0) (Nat.lt_trans (Nat.mod_lt _ (by omega)) hy) (by omega)).mp c_75
          refine lv_lload hx hb d_M_compare_85 (lv_at hl 1 rfl) ?_
          refine lv_lload hx hb d_M_compare_87 (lv_at hl 0 rfl) ?_
          refine W.lcmp hx hb d_M_compare_89 ?_
          refine lv_if_ne (tgt := 97) hx hb d_M_compare_90 (by decide) (fun c_90 => ?_) (fun c_90 => ?_)
          · have c_90 := fun z => c_90 ((lg_cmp_eq _ _).mpr z)
            have q_90 : ¬ x % y = z % t := fun z9 => c_90 ((pk_lEQ (Nat.lt_trans (Nat.mod_lt _ (by omega)) hy) (Nat.lt_trans (Nat.mod_lt _ (by omega)) ht)).mpr z9)
            refine lv_lload hx hb d_M_compare_97 (lv_at hl 1 rfl) ?_
            refine lv_lconst (v := 0) hx hb d_M_compare_99 (by decide) ?_
            refine W.lcmp hx hb d_M_compare_100 ?_
            refine lv_if_ne (tgt := 111) hx hb d_M_compare_101 (by decide) (fun c_101 => ?_) (fun c_101 => ?_)
            · have c_101 := fun z => c_101 ((lg_cmp_eq _ _).mpr z)
              have q_101 : ¬ x % y = 0 := fun z9 => c_101 ((pk_lEQ (b := 0) (Nat.lt_trans (Nat.mod_lt _ (by omega)) hy) (by omega)).mpr z9)
              refine lv_iload hx hb d_M_compare_111 (lv_at hl 4 rfl) ?_
              exact g_iret C hP hS (⟨cq_pos hg (by have h9 : z % t = 0 := (by omega); rw [h9] at qX; have := cq_mp (a := t) (b := x % y) (by omega) (by omega); rw [show ((0 : Nat) : Int) = 0 from rfl, Int.mul_zero] at qX; omega), rfl⟩) (Nat.le_of_ble_eq_true rfl) (Nat.le_of_ble_eq_true rfl) d_M_compare_113
            · have c_101 := (lg_cmp_eq _ _).mp c_101
              have q_101 : x % y = 0 := (pk_lEQ (b := 0) (Nat.lt_trans (Nat.mod_lt _ (by omega)) hy) (by omega)).mp c_101
              refine lv_iconst (v := 0) hx hb d_M_compare_104 (by decide) ?_
              refine lv_iload hx hb d_M_compare_105 (lv_at hl 4 rfl) ?_
              refine lv_isub hx hb d_M_compare_107 ?_
              refine g_eqi (y := -sg) (cq_0s sg) ?_
              refine lv_goto (tgt := 113) hx hb d_M_compare_108 (by decide) ?_
              exact g_iret C hP hS (⟨cq_neg hg (by have h9 : x % y = 0 := (by omega); rw [h9] at qX; have := cq_mp (a := y) (b := z % t) (by omega) (by omega); rw [show ((0 : Nat) : Int) = 0 from rfl, Int.mul_zero] at qX; omega), rfl⟩) (Nat.le_of_ble_eq_true rfl) (Nat.le_of_ble_eq_true rfl) d_M_compare_113
          · have c_90 := (lg_cmp_eq _ _).mp c_90
            have q_90 : x % y = z % t := (pk_lEQ (Nat.lt_trans (Nat.mod_lt _ (by omega)) hy) (Nat.lt_trans (Nat.mod_lt _ (by omega)) ht)).mp c_90
            refine lv_iconst (v := 0) hx hb d_M_compare_93 (by decide) ?_
            refine lv_goto (tgt := 113) hx hb d_M_compare_94 (by decide) ?_
            exact g_iret C hP hS (⟨cq_zero hg (by have h8 : x % y = 0 := (by omega); have h9 : z % t = 0 := (by omega); rw [h8, h9] at qX; simp at qX; omega), rfl⟩) (Nat.le_of_ble_eq_true rfl) (Nat.le_of_ble_eq_true rfl) d_M_compare_113
        · have c_75 := fun z => c_75 ((lg_cmp_eq _ _).mpr z)
          have q_75 : ¬ x % y = 0 := fun z9 => c_75 ((pk_lEQ (b := 0) (Nat.lt_trans (Nat.mod_lt _ (by omega)) hy) (by omega)).mpr z9)
          refine lv_lload hx hb d_M_compare_78 (lv_at hl 0 rfl) ?_
          refine lv_lconst (v := 0) hx hb d_M_compare_80 (by decide) ?_
          refine W.lcmp hx hb d_M_compare_81 ?_
          refine lv_if_ne (tgt := 114) hx hb d_M_compare_82 (by decide) (fun c_82 => ?_) (fun c_82 => ?_)
          · have c_82 := fun z => c_82 ((lg_cmp_eq _ _).mpr z)
            have q_82 : ¬ z % t = 0 := fun z9 => c_82 ((pk_lEQ (b := 0) (Nat.lt_trans (Nat.mod_lt _ (by omega)) ht) (by omega)).mpr z9)
            refine lv_lload hx hb d_M_compare_114 (lv_at hl 6 rfl) ?_
            refine lv_lstore (lv' := [(8, .long (lN y)), (23, .long (lN (z % t))), (21, .long (lN (x % y))), (19, .long (lN (z / t))), (17, .long (lN (x / y))), (16, .int sg), (10, .long (lN y)), (12, .long (lN z)), (14, .long (lN t))]) hx hb d_M_compare_116 hl (by decide) rfl (fun ls hl => ?_)
            refine lv_lload hx hb d_M_compare_118 (lv_at hl 2 rfl) ?_
            refine lv_lstore (lv' := [(10, .long (lN (x % y))), (8, .long (lN y)), (23, .long (lN (z % t))), (21, .long (lN (x % y))), (19, .long (lN (z / t))), (17, .long (lN (x / y))), (16, .int sg), (12, .long (lN z)), (14, .long (lN t))]) hx hb d_M_compare_120 hl (by decide) rfl (fun ls hl => ?_)
            refine lv_lload hx hb d_M_compare_122 (lv_at hl 8 rfl) ?_
            refine lv_lstore (lv' := [(12, .long (lN t)), (10, .long (lN (x % y))), (8, .long (lN y)), (23, .long (lN (z % t))), (21, .long (lN (x % y))), (19, .long (lN (z / t))), (17, .long (lN (x / y))), (16, .int sg), (14, .long (lN t))]) hx hb d_M_compare_124 hl (by decide) rfl (fun ls hl => ?_)
            refine lv_lload hx hb d_M_compare_126 (lv_at hl 3 rfl) ?_
            refine lv_lstore (lv' := [(14, .long (lN (z % t))), (12, .long (lN t)), (10, .long (lN (x % y))), (8, .long (lN y)), (23, .long (lN (z % t))), (21, .long (lN (x % y))), (19, .long (lN (z / t))), (17, .long (lN (x / y))), (16, .int sg)]) hx hb d_M_compare_128 hl (by decide) rfl (fun ls hl => ?_)
            refine lv_iconst (v := 0) hx hb d_M_compare_130 (by decide) ?_
            refine lv_iload hx hb d_M_compare_131 (lv_at hl 8 rfl) ?_
            refine lv_isub hx hb d_M_compare_133 ?_
            refine g_eqi (y := -sg) (cq_0s sg) ?_
            refine lv_istore (lv' := [(16, .int (-sg)), (14, .long (lN (z % t))), (12, .long (lN t)), (10, .long (lN (x % y))), (8, .long (lN y)), (23, .long (lN (z % t))), (21, .long (lN (x % y))), (19, .long (lN (z / t))), (17, .long (lN (x / y)))]) hx hb d_M_compare_134 hl (by decide) rfl (fun ls hl => ?_)
            refine lv_goto (tgt := 17) hx hb d_M_compare_136 (by decide) ?_
            exact ih y (x % y) t (z % t) (-sg) ls (by have := Nat.mod_lt x (y := y) (by omega); omega) (cq_flip hg (cq_step q_36)) (by omega) (by omega) (Nat.lt_trans (Nat.mod_lt _ (by omega)) hy) (by omega) (by omega) (Nat.lt_trans (Nat.mod_lt _ (by omega)) ht) (lv_sub hl [0, 4, 3, 2, 1] rfl)
          · have c_82 := (lg_cmp_eq _ _).mp c_82
            have q_82 : z % t = 0 := (pk_lEQ (b := 0) (Nat.lt_trans (Nat.mod_lt _ (by omega)) ht) (by omega)).mp c_82
            refine lv_lload hx hb d_M_compare_85 (lv_at hl 1 rfl) ?_
            refine lv_lload hx hb d_M_compare_87 (lv_at hl 0 rfl) ?_
            refine W.lcmp hx hb d_M_compare_89 ?_
            refine lv_if_ne (tgt := 97) hx hb d_M_compare_90 (by decide) (fun c_90 => ?_) (fun c_90 => ?_)
            · have c_90 := fun z => c_90 ((lg_cmp_eq _ _).mpr z)
              have q_90 : ¬ x % y = z % t := fun z9 => c_90 ((pk_lEQ (Nat.lt_trans (Nat.mod_lt _ (by omega)) hy) (Nat.lt_trans (Nat.mod_lt _ (by omega)) ht)).mpr z9)
              refine lv_lload hx hb d_M_compare_97 (lv_at hl 1 rfl) ?_
              refine lv_lconst (v := 0) hx hb d_M_compare_99 (by decide) ?_
              refine W.lcmp hx hb d_M_compare_100 ?_
              refine lv_if_ne (tgt := 111) hx hb d_M_compare_101 (by decide) (fun c_101 => ?_) (fun c_101 => ?_)
              · have c_101 := fun z => c_101 ((lg_cmp_eq _ _).mpr z)
                have q_101 : ¬ x % y = 0 := fun z9 => c_101 ((pk_lEQ (b := 0) (Nat.lt_trans (Nat.mod_lt _ (by omega)) hy) (by omega)).mpr z9)
                refine lv_iload hx hb d_M_compare_111 (lv_at hl 4 rfl) ?_
                exact g_iret C hP hS (⟨cq_pos hg (by have h9 : z % t = 0 := (by omega); rw [h9] at qX; have := cq_mp (a := t) (b := x % y) (by omega) (by omega); rw [show ((0 : Nat) : Int) = 0 from rfl, Int.mul_zero] at qX; omega), rfl⟩) (Nat.le_of_ble_eq_true rfl) (Nat.le_of_ble_eq_true rfl) d_M_compare_113
              · have c_101 := (lg_cmp_eq _ _).mp c_101
                have q_101 : x % y = 0 := (pk_lEQ (b := 0) (Nat.lt_trans (Nat.mod_lt _ (by omega)) hy) (by omega)).mp c_101
                refine lv_iconst (v := 0) hx hb d_M_compare_104 (by decide) ?_
                refine lv_iload hx hb d_M_compare_105 (lv_at hl 4 rfl) ?_
                refine lv_isub hx hb d_M_compare_107 ?_
                refine g_eqi (y := -sg) (cq_0s sg) ?_
                refine lv_goto (tgt := 113) hx hb d_M_compare_108 (by decide) ?_
                exact g_iret C hP hS (⟨cq_neg hg (by have h9 : x % y = 0 := (by omega); rw [h9] at qX; have := cq_mp (a := y) (b := z % t) (by omega) (by omega); rw [show ((0 : Nat) : Int) = 0 from rfl, Int.mul_zero] at qX; omega), rfl⟩) (Nat.le_of_ble_eq_true rfl) (Nat.le_of_ble_eq_true rfl) d_M_compare_113
            · have c_90 := (lg_cmp_eq _ _).mp c_90
              have q_90 : x % y = z % t := (pk_lEQ (Nat.lt_trans (Nat.mod_lt _ (by omega)) hy) (Nat.lt_trans (Nat.mod_lt _ (by omega)) ht)).mp c_90
              refine lv_iconst (v := 0) hx hb d_M_compare_93 (by decide) ?_
              refine lv_goto (tgt := 113) hx hb d_M_compare_94 (by decide) ?_
              exact g_iret C hP hS (⟨cq_zero hg (by have h8 : x % y = 0 := (by omega); have h9 : z % t = 0 := (by omega); rw [h8, h9] at qX; simp at qX; omega), rfl⟩) (Nat.le_of_ble_eq_true rfl) (Nat.le_of_ble_eq_true rfl) d_M_compare_113
      · have c_36 := fun z => c_36 ((lg_cmp_eq _ _).mpr z)
        have q_36 : ¬ x / y = z / t := fun z9 => c_36 ((pk_lEQ (Nat.lt_of_le_of_lt (Nat.div_le_self _ _) hx0) (Nat.lt_of_le_of_lt (Nat.div_le_self _ _) hz)).mpr z9)
        refine lv_lload hx hb d_M_compare_39 (lv_at hl 1 rfl) ?_
        refine lv_lload hx hb d_M_compare_41 (lv_at hl 0 rfl) ?_
        refine W.lcmp hx hb d_M_compare_43 ?_
        refine lv_if_ge (tgt := 54) hx hb d_M_compare_44 (by decide) (fun c_44 => ?_) (fun c_44 => ?_)
        · have c_44 := (lg_cmp_ge _ _).mp c_44
          have q_44 : z / t ≤ x / y := (pk_lLE (Nat.lt_of_le_of_lt (Nat.div_le_self _ _) hz) (Nat.lt_of_le_of_lt (Nat.div_le_self _ _) hx0)).mp c_44
          refine lv_iload hx hb d_M_compare_54 (lv_at hl 2 rfl) ?_
          exact g_iret C hP hS (⟨cq_pos hg (by have := cq_lt (a := z) (b := t) (c := x) (d := y) (by omega) (by omega) (by omega); omega), rfl⟩) (Nat.le_of_ble_eq_true rfl) (Nat.le_of_ble_eq_true rfl) d_M_compare_56
        · have c_44 := fun z => c_44 ((lg_cmp_ge _ _).mpr z)
          have q_44 : ¬ z / t ≤ x / y := fun z9 => c_44 ((pk_lLE (Nat.lt_of_le_of_lt (Nat.div_le_self _ _) hz) (Nat.lt_of_le_of_lt (Nat.div_le_self _ _) hx0)).mpr z9)
          refine lv_iconst (v := 0) hx hb d_M_compare_47 (by decide) ?_
          refine lv_iload hx hb d_M_compare_48 (lv_at hl 2 rfl) ?_
          refine lv_isub hx hb d_M_compare_50 ?_
          refine g_eqi (y := -sg) (cq_0s sg) ?_
          refine lv_goto (tgt := 56) hx hb d_M_compare_51 (by decide) ?_
          exact g_iret C hP hS (⟨cq_neg hg (cq_lt (by omega) (by omega) (by omega)), rfl⟩) (Nat.le_of_ble_eq_true rfl) (Nat.le_of_ble_eq_true rfl) d_M_compare_56
  refine lv_lload_n hx hb d_M_compare_0 rfl (lv_at hl 0 rfl) ?_
  refine lv_lstore (lv' := [(8, .long (lN a)), (0, .long (lN a)), (2, .long (lN b)), (4, .long (lN c0)), (6, .long (lN d))]) hx hb d_M_compare_1 hl (by decide) rfl (fun ls hl => ?_)
  refine lv_lload_n hx hb d_M_compare_3 rfl (lv_at hl 2 rfl) ?_
  refine lv_lstore (lv' := [(10, .long (lN b)), (8, .long (lN a)), (0, .long (lN a)), (2, .long (lN b)), (4, .long (lN c0)), (6, .long (lN d))]) hx hb d_M_compare_4 hl (by decide) rfl (fun ls hl => ?_)
  refine lv_lload hx hb d_M_compare_6 (lv_at hl 4 rfl) ?_
  refine lv_lstore (lv' := [(12, .long (lN c0)), (10, .long (lN b)), (8, .long (lN a)), (0, .long (lN a)), (2, .long (lN b)), (4, .long (lN c0)), (6, .long (lN d))]) hx hb d_M_compare_8 hl (by decide) rfl (fun ls hl => ?_)
  refine lv_lload hx hb d_M_compare_10 (lv_at hl 6 rfl) ?_
  refine lv_lstore (lv' := [(14, .long (lN d)), (12, .long (lN c0)), (10, .long (lN b)), (8, .long (lN a)), (0, .long (lN a)), (2, .long (lN b)), (4, .long (lN c0)), (6, .long (lN d))]) hx hb d_M_compare_12 hl (by decide) rfl (fun ls hl => ?_)
  refine lv_iconst (v := 1) hx hb d_M_compare_14 (by decide) ?_
  refine lv_istore (lv' := [(16, .int 1), (14, .long (lN d)), (12, .long (lN c0)), (10, .long (lN b)), (8, .long (lN a)), (0, .long (lN a)), (2, .long (lN b)), (4, .long (lN c0)), (6, .long (lN d))]) hx hb d_M_compare_15 hl (by decide) rfl (fun ls hl => ?_)
  exact loop (b + 1) a b c0 d 1 ls (by omega) (Or.inl ⟨rfl, rfl⟩) ha hb0 hb2 hc hd0 hd (lv_sub hl [0, 4, 3, 2, 1] rfl)
