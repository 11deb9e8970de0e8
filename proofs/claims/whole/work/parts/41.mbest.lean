/-! The reference: sums of packs, prices, the best total, the chosen part. -/
theorem PS_0 {pk : Nat → Nat} : ∀ n, PS n pk 0
  | 0 => rfl
  | n + 1 => ⟨0, by omega, by simpa using PS_0 (pk := pk) n⟩
theorem PS_add {pk : Nat → Nat} : ∀ {n k t : Nat}, k < n → PS n pk t → PS n pk (t + pk k)
  | 0, k, t, hk, _ => absurd hk (Nat.not_lt_zero _)
  | n + 1, k, t, hk, ⟨j, h1, h2⟩ => by
    by_cases e : k = n
    · subst e
      refine ⟨j + 1, by rw [Nat.add_mul, Nat.one_mul]; omega, ?_⟩
      rw [show t + pk k - (j + 1) * pk k = t - j * pk k by rw [Nat.add_mul, Nat.one_mul]; omega]
      exact h2
    · refine ⟨j, by omega, ?_⟩
      rw [show t + pk k - j * pk n = t - j * pk n + pk k by omega]
      exact PS_add (by omega) h2
theorem PS_dec {pk : Nat → Nat} : ∀ {n t : Nat}, 0 < t → PS n pk t → ∃ k, k < n ∧ pk k ≤ t ∧ PS n pk (t - pk k)
  | 0, t, ht, h => absurd h (by show ¬ t = 0; omega)
  | n + 1, t, ht, ⟨j, h1, h2⟩ => by
    rcases j with _ | j
    · obtain ⟨k, a1, a2, a3⟩ := PS_dec ht (by simpa using h2)
      exact ⟨k, by omega, a2, 0, by omega, by simpa using a3⟩
    · rw [Nat.add_mul, Nat.one_mul] at h1 h2
      refine ⟨n, by omega, by omega, j, by omega, ?_⟩
      rw [show t - pk n - j * pk n = t - (j * pk n + pk n) by omega]
      exact h2
theorem fs_0 {D : PD} : fs D 0 := Or.inr (PS_0 _)
theorem fs_st {D : PD} (hn : pNp D ≠ 0) {t : Nat} (ht : 0 < t) : fs D t ↔ ∃ k, k < pNp D ∧ pPk D k ≤ t ∧ fs D (t - pPk D k) := by
  constructor
  · intro h
    obtain ⟨k, a1, a2, a3⟩ := PS_dec ht (h.resolve_left hn)
    exact ⟨k, a1, a2, Or.inr a3⟩
  · rintro ⟨k, a1, a2, a3⟩
    have := PS_add a1 (a3.resolve_left hn)
    rw [Nat.sub_add_cancel a2] at this
    exact Or.inr this
def prT (ra : Nat → Nat) (D : PD) (T pr : Nat) : Prop := (∃ k, stp D T k ∧ pr = pC1 D k * ra (pK1 D k)) ∨ ((∀ k, ¬ stp D T k) ∧ pr = 0)
theorem pr_row {ra : Nat → Nat} {D : PD} (hD : pOK D) {T : Nat} {B' C' K' : Nat → Nat} (h : row (pN1 D) (pB1 D) (fun j => (pC1 D j, pK1 D j)) B' (fun j => (C' j, K' j))) : ((∀ j, j < pN1 D → ¬ B' j ≤ T) → prT ra D T 0) ∧ (∀ jb, jb < pN1 D → B' jb ≤ T → (∀ j, j < pN1 D → B' j ≤ T → B' j ≤ B' jb) → prT ra D T (C' jb * ra (K' jb))) := by
  have hs := hD.2.2.2.1
  refine ⟨fun hno => Or.inr ⟨fun k hk => ?_, rfl⟩, fun jb hjb hle hmx => ?_⟩
  · obtain ⟨j, h1, h2, -⟩ := h.2.1 k hk.1
    exact hno j h1 (by rw [h2]; exact hk.2.1)
  · obtain ⟨k, h1, h2, h3⟩ := h.1 jb hjb
    have e1 : C' jb = pC1 D k := congrArg Prod.fst h3
    have e2 : K' jb = pK1 D k := congrArg Prod.snd h3
    refine Or.inl ⟨k, ⟨h1, by omega, fun hk => Nat.lt_of_not_le fun hle2 => ?_⟩, by rw [e1, e2]⟩
    obtain ⟨j, g1, g2, -⟩ := h.2.1 (k + 1) hk
    have g3 := hmx j g1 (by omega)
    have := hs k (k + 1) (by omega) hk
    omega
theorem stp_uni {D : PD} (hD : pOK D) {T k k' : Nat} (h1 : stp D T k) (h2 : stp D T k') : k = k' := by
  have hs := hD.2.2.2.1
  have key : ∀ a b, stp D T a → stp D T b → ¬ a < b := fun a b ha hb z => by
    have h3 := ha.2.2 (by have := hb.1; omega)
    have h4 := hb.2.1
    rcases Nat.lt_or_ge (a + 1) b with y | y
    · have := hs (a + 1) b y hb.1; omega
    · rw [show a + 1 = b by omega] at h3; omega
  exact Nat.le_antisymm (Nat.le_of_not_lt (key k' k h2 h1)) (Nat.le_of_not_lt (key k k' h1 h2))
def BTt (ra : Nat → Nat) (D : PD) (q m : Nat) : Option (Nat × Nat) → Prop
  | none => ∀ T k, T < m → ¬ cand D q T k
  | some o => ∃ k, o.1 < m ∧ cand D q o.1 k ∧ o.2 = cst ra D o.1 k ∧ ∀ T' k', T' < m → cand D q T' k' → o.2 < cst ra D T' k' ∨ (o.2 = cst ra D T' k' ∧ o.1 ≤ T')
theorem BTt_skip {ra : Nat → Nat} {D : PD} {q t : Nat} {o : Option (Nat × Nat)} (h : BTt ra D q t o) (hn : ∀ k, ¬ cand D q t k) : BTt ra D q (t + 1) o := by
  rcases o with _ | o
  · intro T k hT hc
    rcases Nat.lt_succ_iff_lt_or_eq.mp hT with z | z
    · exact h T k z hc
    · rw [z] at hc; exact hn k hc
  · obtain ⟨k0, h1, h2, h3, h4⟩ := h
    refine ⟨k0, Nat.lt_succ_of_lt h1, h2, h3, fun T' k' hT hc => ?_⟩
    rcases Nat.lt_succ_iff_lt_or_eq.mp hT with z | z
    · exact h4 T' k' z hc
    · rw [z] at hc; exact absurd hc (hn k')
theorem BTt_take {ra : Nat → Nat} {D : PD} (hD : pOK D) {q t k : Nat} {o : Option (Nat × Nat)} (h : BTt ra D q t o) (hT : cand D q t k) (hlt : ∀ p, o = some p → cst ra D t k < p.2) : BTt ra D q (t + 1) (some (t, cst ra D t k)) := by
  refine ⟨k, Nat.lt_succ_self t, hT, rfl, fun T' k' hT' hc => ?_⟩
  rcases Nat.lt_succ_iff_lt_or_eq.mp hT' with z | z
  · rcases o with _ | o
    · exact absurd hc (h T' k' z)
    · obtain ⟨k0, h1, h2, h3, h4⟩ := h
      have h5 := hlt o rfl
      have h6 := h4 T' k' z hc
      left
      show cst ra D t k < cst ra D T' k'
      omega
  · subst z
    rw [stp_uni hD hc.2.2.2 hT.2.2.2]
    exact Or.inr ⟨rfl, Nat.le_refl _⟩
theorem BTt_keep {ra : Nat → Nat} {D : PD} (hD : pOK D) {q t k : Nat} {o : Nat × Nat} (h : BTt ra D q t (some o)) (hT : cand D q t k) (hge : o.2 ≤ cst ra D t k) : BTt ra D q (t + 1) (some o) := by
  obtain ⟨k0, h1, h2, h3, h4⟩ := h
  refine ⟨k0, Nat.lt_succ_of_lt h1, h2, h3, fun T' k' hT' hc => ?_⟩
  rcases Nat.lt_succ_iff_lt_or_eq.mp hT' with z | z
  · exact h4 T' k' z hc
  · subst z
    rw [stp_uni hD hc.2.2.2 hT.2.2.2]
    rcases Nat.lt_or_ge o.2 (cst ra D T' k) with y | y
    · exact Or.inl y
    · exact Or.inr ⟨by omega, by omega⟩
theorem BTt_end {ra : Nat → Nat} {D : PD} {q t : Nat} {o : Option (Nat × Nat)} (h : BTt ra D q t o) (ht : pPc D < t) : BT ra D q o := by
  rcases o with _ | o
  · intro T k hk hc
    exact h T k (by have := hc.2.1; omega) hc
  · obtain ⟨k0, h1, h2, h3, h4⟩ := h
    exact ⟨k0, h2.2.2.2.1, h2, h3, fun T' k' _ hc => h4 T' k' (by have := hc.2.1; omega) hc⟩
set_option maxHeartbeats 4000000 in
set_option maxRecDepth 100000 in
theorem ct_M_findSums {l : Launch} {G : hG} (f : hm) (y : Nat) (ca : Nat → Nat) (b : BD) (hok : bOK b) (th : Int32) (bc : Int64) (cp : Int32) (MK : Nat → Int32) (PL : Nat → Int32) (AB : Nat → Int64) (BE : Nat → Int64) (AS : Nat → Int32) (FP : Nat → Int32) (PC : Nat → Int32) (PF : Nat → Int32) (PT : Nat → Int64) (PU : Nat → Int32) (RA : Nat → Int64) (KC : Nat → Int32) (PK : Nat → Int32) (ST : Nat → Int32) (DC : Nat → Int32) (DY : Nat → Int64) (DS : Nat → Int32) (SU : Nat → Int32) (hv : mv G f y ca th (nI (bN b)) (nI (bRc b)) (nI (bHc b)) bc cp MK PL AB BE AS FP PC PF PT PU RA KC PK ST DC DY DS SU) (hR : mR b MK PL AB BE AS FP PC PF PT PU RA KC PK ST DC DY DS) (i : Nat) (hi : i < bN b) : cv_ l G y_M_findSums w_M_findSums { frames := 0, cells := 0, slots := 0, locals := 0 } [.ref y, .int (nI i)] f (fun u => ∃ S9, mv G u y ca th (nI (bN b)) (nI (bRc b)) (nI (bHc b)) bc cp MK PL AB BE AS FP PC PF PT PU RA KC PK ST DC DY DS S9 ∧ ∀ t, t ≤ pPc (bD b i) → bz (fs (bD b i) t) (S9 t)) := by
  intro sz
  refine h_ofW (cc := c_M_findSums) (maxL := 5) (ret := none) (by decide) rfl (Nat.le_of_ble_eq_true rfl) ?_
  intro p e s m below meth c ls C hin hsz hP hl
  obtain ⟨hx, hb, hml, hown, -, -, -, -⟩ := id C
  subst hsz
  have hA0 : ∀ q, s.heap.size ≤ q → hA f s.heap.size q := hA.new
  have hS : va_S (hA f s.heap.size) s.heap s.heap [] := va_S.rf
  replace hl : lv_has ls 5 [(0, .ref y), (1, .int (nI i))] := hl
  have hNN : bN b ≤ 40 := hok.1.1
  have hRC : bRc b ≤ 10 := hok.1.2.1
  have hHC : bHc b ≤ 40 := hok.1.2.2
  have hDi := hok.2.1 i hi
  have hkc := hR.2.2.2.2.1 i (by omega)
  have hst := hR.2.2.1 i (by omega)
  have hp2 := hDi.1.2.1
  have hk6 := hDi.1.2.2.2.2
  have loop : ∀ (d t : Nat) (fi : hm) (S1 : Nat → Int32) (ls : Array Slot) (H : Heap) (locs : List Loc), 20001 < t + d → 0 < t → t ≤ 20001 → mv G fi y ca th (nI (bN b)) (nI (bRc b)) (nI (bHc b)) bc cp MK PL AB BE AS FP PC PF PT PU RA KC PK ST DC DY DS S1 → (∀ t2, t2 < t → bz (fs (bD b i) t2) (S1 t2)) → hH G (hA f s.heap.size) fi H → va_S (hA f s.heap.size) s.heap H locs → lv_has ls 5 [(2, .int (nI t)), (0, .ref y), (1, .int (nI i))] → W p l e { frames := 0, cells := 0, slots := 0, locals := 0 } s m #[.ref y, .int (nI i)] below meth c H locs 0 0 (MQ below (va_Qv (fun u => ∃ S9, mv G u y ca th (nI (bN b)) (nI (bRc b)) (nI (bHc b)) bc cp MK PL AB BE AS FP PC PF PT PU RA KC PK ST DC DY DS S9 ∧ ∀ t, t ≤ pPc (bD b i) → bz (fs (bD b i) t) (S9 t)) (hB G (hA f s.heap.size)) (hA f s.heap.size)) #[.ref y, .int (nI i)] s 0 0 (hA f s.heap.size)) (F0 m 9 ls []) := by
    intro d
    induction d with
    | zero => intro t fi S1 ls H locs h1 h2 h3; exact absurd h1 (by omega)
    | succ d ih =>
        intro t fi S1 ls H locs hd1 ht1 ht2 hvi hS1 hP hS hl
        have loop2 : t ≤ pPc (bD b i) → ∀ (d2 j : Nat) (v9 : Int32) (ls : Array Slot), pNp (bD b i) < j + d2 → j ≤ pNp (bD b i) → ((v9 = 1 ∧ fs (bD b i) t) ∨ (v9 = 0 ∧ pNp (bD b i) ≠ 0 ∧ ∀ k, k < j → ¬ (pPk (bD b i) k ≤ t ∧ fs (bD b i) (t - pPk (bD b i) k)))) → lv_has ls 5 [(4, .int (nI (6 * i + j))), (3, .int v9), (2, .int (nI t)), (0, .ref y), (1, .int (nI i))] → W p l e { frames := 0, cells := 0, slots := 0, locals := 0 } s m #[.ref y, .int (nI i)] below meth c H locs 0 0 (MQ below (va_Qv (fun u => ∃ S9, mv G u y ca th (nI (bN b)) (nI (bRc b)) (nI (bHc b)) bc cp MK PL AB BE AS FP PC PF PT PU RA KC PK ST DC DY DS S9 ∧ ∀ t, t ≤ pPc (bD b i) → bz (fs (bD b i) t) (S9 t)) (hB G (hA f s.heap.size)) (hA f s.heap.size)) #[.ref y, .int (nI i)] s 0 0 (hA f s.heap.size)) (F0 m 40 ls []) := by
          intro q_16 d2
          induction d2 with
          | zero => intro j v9 ls h1 h2; exact absurd h1 (by omega)
          | succ d2 ih2 =>
            intro j v9 ls h1 h2 hin hl
            refine lv_iload hx hb d_M_findSums_40 (lv_at hl 0 rfl) ?_
            refine lv_bipush (v := 6) hx hb d_M_findSums_42 (by decide) ?_
            refine lv_iload_n hx hb d_M_findSums_44 rfl (lv_at hl 4 rfl) ?_
            refine lv_imul hx hb d_M_findSums_45 ?_
            refine g_eqi (y := nI (6 * i)) (pk_mul _ _) ?_
            refine lv_aload_n hx hb d_M_findSums_46 rfl (lv_at hl 3 rfl) ?_
            refine g_get C i_M hP hvi.1 rfl 15 (by decide) wd_521 rfl rfl d_M_findSums_47 ?_
            refine lv_iload_n hx hb d_M_findSums_50 rfl (lv_at hl 4 rfl) ?_
            refine g_ialdN C hP hvi.2.2.2.2.2.2.2.2.2.2.2.2.1 (j := i) (by omega) (by decide) d_M_findSums_51 ?_
            refine g_eqi (y := nI (pNp (bD b i))) (hkc.1) ?_
            refine lv_iadd hx hb d_M_findSums_52 ?_
            refine g_eqi (y := nI (6 * i + pNp (bD b i))) (nI_add _ _) ?_
            refine lv_icmp_ge (tgt := 100) hx hb d_M_findSums_53 (by decide) (fun c_53 => ?_) (fun c_53 => ?_)
            · have hbz : bz (fs (bD b i) t) v9 := by rcases hin with z | ⟨z1, z2, z3⟩; exact Or.inl ⟨z.2, z.1⟩; (refine Or.inr ⟨fun z8 => ?_, z1⟩; obtain ⟨k, g1, g2, g3⟩ := (fs_st z2 ht1).mp z8; have hjn := (nI_leI (by omega) (by omega)).mp c_53; exact z3 k (by omega) ⟨g2, g3⟩)
              refine lv_aload_n hx hb d_M_findSums_100 rfl (lv_at hl 3 rfl) ?_
              refine g_get C i_M hP hvi.1 rfl 21 (by decide) wd_527 rfl rfl d_M_findSums_101 ?_
              refine lv_iload_n hx hb d_M_findSums_104 rfl (lv_at hl 2 rfl) ?_
              refine lv_iload_n hx hb d_M_findSums_105 rfl (lv_at hl 1 rfl) ?_
              refine g_zastN C hP hS hvi.2.2.2.2.2.2.2.2.2.2.2.2.2.2.2.2.2.2.1 (j := t) (by omega) (by decide) (by rcases hin with z | z; exact Or.inr z.1; exact Or.inl z.1) d_M_findSums_106 (fun H locs hP hS => ?_)
              obtain ⟨g2, eg2⟩ : ∃ z99, z99 = upd S1 t v9 := ⟨_, rfl⟩
              rw [← eg2] at hP
              obtain ⟨f1, ef1⟩ : ∃ z99, z99 = va_up fi (ca 17) (some (aZ G 20001 g2)) := ⟨_, rfl⟩
              replace hP : hH G (hA f s.heap.size) f1 H := by rw [ef1]; exact hP
              have hv_f1 : mv G f1 y ca th (nI (bN b)) (nI (bRc b)) (nI (bHc b)) bc cp MK PL AB BE AS FP PC PF PT PU RA KC PK ST DC DY DS g2 := by rw [ef1]; exact mv_17 hvi _
              refine lv_iinc (v := nI (t + 1)) (lv' := [(2, .int (nI (t + 1))), (4, .int (nI (6 * i + j))), (3, .int v9), (0, .ref y), (1, .int (nI i))]) hx hb d_M_findSums_107 hl (k := 2) rfl (nI_1 t) (by decide) rfl (fun ls hl => ?_)
              refine lv_goto (tgt := 9) hx hb d_M_findSums_110 (by decide) ?_
              exact ih (t + 1) f1 g2 ls H locs (by omega) (by omega) (by omega) hv_f1 (fun t2 ht2 => by rw [eg2]; by_cases e9 : t2 = t; rw [e9, pk_us]; exact hbz; rw [pk_un e9]; exact hS1 t2 (by omega)) hP hS (lv_sub hl [0, 3, 4] rfl)
            · have hjn : j < pNp (bD b i) := Nat.lt_of_not_le (fun z9 => c_53 ((nI_leI (by omega) (by omega)).mpr (by omega)))
              refine lv_iload_n hx hb d_M_findSums_56 rfl (lv_at hl 1 rfl) ?_
              refine lv_if_ne (tgt := 100) hx hb d_M_findSums_57 (by decide) (fun c_57 => ?_) (fun c_57 => ?_)
              · have hbz : bz (fs (bD b i) t) v9 := by rcases hin with z | z; exact Or.inl ⟨z.2, z.1⟩; exact absurd z.1 c_57
                refine lv_aload_n hx hb d_M_findSums_100 rfl (lv_at hl 3 rfl) ?_
                refine g_get C i_M hP hvi.1 rfl 21 (by decide) wd_527 rfl rfl d_M_findSums_101 ?_
                refine lv_iload_n hx hb d_M_findSums_104 rfl (lv_at hl 2 rfl) ?_
                refine lv_iload_n hx hb d_M_findSums_105 rfl (lv_at hl 1 rfl) ?_
                refine g_zastN C hP hS hvi.2.2.2.2.2.2.2.2.2.2.2.2.2.2.2.2.2.2.1 (j := t) (by omega) (by decide) (by rcases hin with z | z; exact Or.inr z.1; exact Or.inl z.1) d_M_findSums_106 (fun H locs hP hS => ?_)
                obtain ⟨g4, eg4⟩ : ∃ z99, z99 = upd S1 t v9 := ⟨_, rfl⟩
                rw [← eg4] at hP
                obtain ⟨f3, ef3⟩ : ∃ z99, z99 = va_up fi (ca 17) (some (aZ G 20001 g4)) := ⟨_, rfl⟩
                replace hP : hH G (hA f s.heap.size) f3 H := by rw [ef3]; exact hP
                have hv_f3 : mv G f3 y ca th (nI (bN b)) (nI (bRc b)) (nI (bHc b)) bc cp MK PL AB BE AS FP PC PF PT PU RA KC PK ST DC DY DS g4 := by rw [ef3]; exact mv_17 hvi _
                refine lv_iinc (v := nI (t + 1)) (lv' := [(2, .int (nI (t + 1))), (4, .int (nI (6 * i + j))), (3, .int v9), (0, .ref y), (1, .int (nI i))]) hx hb d_M_findSums_107 hl (k := 2) rfl (nI_1 t) (by decide) rfl (fun ls hl => ?_)
                refine lv_goto (tgt := 9) hx hb d_M_findSums_110 (by decide) ?_
                exact ih (t + 1) f3 g4 ls H locs (by omega) (by omega) (by omega) hv_f3 (fun t2 ht2 => by rw [eg4]; by_cases e9 : t2 = t; rw [e9, pk_us]; exact hbz; rw [pk_un e9]; exact hS1 t2 (by omega)) hP hS (lv_sub hl [0, 3, 4] rfl)
              · obtain ⟨-, hn0, hall⟩ := hin.resolve_left (fun z9 => absurd (z9.1.symm.trans c_57) (by decide))
                have hpk := hDi.2.2.2.2.2.2.1 j hjn
                refine lv_aload_n hx hb d_M_findSums_60 rfl (lv_at hl 3 rfl) ?_
                refine g_get C i_M hP hvi.1 rfl 16 (by decide) wd_522 rfl rfl d_M_findSums_61 ?_
                refine lv_iload hx hb d_M_findSums_64 (lv_at hl 0 rfl) ?_
                refine g_ialdN C hP hvi.2.2.2.2.2.2.2.2.2.2.2.2.2.1 (j := (6 * i + j)) (by omega) (by decide) d_M_findSums_66 ?_
                refine g_eqi (y := nI (pPk (bD b i) j)) (hkc.2 j hjn) ?_
                refine lv_iload_n hx hb d_M_findSums_67 rfl (lv_at hl 2 rfl) ?_
                refine lv_icmp_gt (tgt := 92) hx hb d_M_findSums_68 (by decide) (fun c_68 => ?_) (fun c_68 => ?_)
                · have q_68 : ¬ pPk (bD b i) j ≤ t := fun z9 => by have := (nI_ltI (by omega) (by omega)).mp c_68; omega
                  have hnx : ¬ (pPk (bD b i) j ≤ t ∧ fs (bD b i) (t - pPk (bD b i) j)) := fun z9 => q_68 z9.1
                  refine lv_iconst (v := 0) hx hb d_M_findSums_92 (by decide) ?_
                  refine lv_istore_n (lv' := [(3, .int 0), (4, .int (nI (6 * i + j))), (2, .int (nI t)), (0, .ref y), (1, .int (nI i))]) hx hb d_M_findSums_93 rfl hl (by decide) rfl (fun ls hl => ?_)
                  refine lv_iinc (v := nI (6 * i + (j + 1))) (lv' := [(4, .int (nI (6 * i + (j + 1)))), (3, .int 0), (2, .int (nI t)), (0, .ref y), (1, .int (nI i))]) hx hb d_M_findSums_94 hl (k := 1) rfl (nI_1 _) (by decide) rfl (fun ls hl => ?_)
                  refine lv_goto (tgt := 40) hx hb d_M_findSums_97 (by decide) ?_
                  exact ih2 (j + 1) 0 ls (by omega) (by omega) (Or.inr ⟨rfl, hn0, fun k hk9 => by rcases Nat.lt_succ_iff_lt_or_eq.mp hk9 with z9 | z9; exact hall k z9; rw [z9]; exact hnx⟩) (lv_sub hl [0, 1, 2, 3, 4] rfl)
                · have q_68 : pPk (bD b i) j ≤ t := Nat.le_of_not_lt (fun z9 => c_68 ((nI_ltI (by omega) (by omega)).mpr z9))
                  refine lv_aload_n hx hb d_M_findSums_71 rfl (lv_at hl 3 rfl) ?_
                  refine g_get C i_M hP hvi.1 rfl 21 (by decide) wd_527 rfl rfl d_M_findSums_72 ?_
                  refine lv_iload_n hx hb d_M_findSums_75 rfl (lv_at hl 2 rfl) ?_
                  refine lv_aload_n hx hb d_M_findSums_76 rfl (lv_at hl 3 rfl) ?_
                  refine g_get C i_M hP hvi.1 rfl 16 (by decide) wd_522 rfl rfl d_M_findSums_77 ?_
                  refine lv_iload hx hb d_M_findSums_80 (lv_at hl 0 rfl) ?_
                  refine g_ialdN C hP hvi.2.2.2.2.2.2.2.2.2.2.2.2.2.1 (j := (6 * i + j)) (by omega) (by decide) d_M_findSums_82 ?_
                  refine g_eqi (y := nI (pPk (bD b i) j)) (hkc.2 j hjn) ?_
                  refine lv_isub hx hb d_M_findSums_83 ?_
                  refine g_eqi (y := nI (t - pPk (bD b i) j)) (pk_sub q_68) ?_
                  refine g_zaldN C hP hvi.2.2.2.2.2.2.2.2.2.2.2.2.2.2.2.2.2.2.1 (j := (t - pPk (bD b i) j)) (by omega) (by decide) d_M_findSums_84 ?_
                  refine lv_if_eq (tgt := 92) hx hb d_M_findSums_85 (by decide) (fun c_85 => ?_) (fun c_85 => ?_)
                  · have hnx : ¬ (pPk (bD b i) j ≤ t ∧ fs (bD b i) (t - pPk (bD b i) j)) := fun z9 => bz_f (hS1 (t - pPk (bD b i) j) (by omega)) c_85 z9.2
                    refine lv_iconst (v := 0) hx hb d_M_findSums_92 (by decide) ?_
                    refine lv_istore_n (lv' := [(3, .int 0), (4, .int (nI (6 * i + j))), (2, .int (nI t)), (0, .ref y), (1, .int (nI i))]) hx hb d_M_findSums_93 rfl hl (by decide) rfl (fun ls hl => ?_)
                    refine lv_iinc (v := nI (6 * i + (j + 1))) (lv' := [(4, .int (nI (6 * i + (j + 1)))), (3, .int 0), (2, .int (nI t)), (0, .ref y), (1, .int (nI i))]) hx hb d_M_findSums_94 hl (k := 1) rfl (nI_1 _) (by decide) rfl (fun ls hl => ?_)
                    refine lv_goto (tgt := 40) hx hb d_M_findSums_97 (by decide) ?_
                    exact ih2 (j + 1) 0 ls (by omega) (by omega) (Or.inr ⟨rfl, hn0, fun k hk9 => by rcases Nat.lt_succ_iff_lt_or_eq.mp hk9 with z9 | z9; exact hall k z9; rw [z9]; exact hnx⟩) (lv_sub hl [0, 1, 2, 3, 4] rfl)
                  · have hyx : fs (bD b i) t := (fs_st hn0 ht1).mpr ⟨j, hjn, q_68, bz_t (hS1 (t - pPk (bD b i) j) (by omega)) c_85⟩
                    refine lv_iconst (v := 1) hx hb d_M_findSums_88 (by decide) ?_
                    refine lv_goto (tgt := 93) hx hb d_M_findSums_89 (by decide) ?_
                    refine lv_istore_n (lv' := [(3, .int 1), (4, .int (nI (6 * i + j))), (2, .int (nI t)), (0, .ref y), (1, .int (nI i))]) hx hb d_M_findSums_93 rfl hl (by decide) rfl (fun ls hl => ?_)
                    refine lv_iinc (v := nI (6 * i + (j + 1))) (lv' := [(4, .int (nI (6 * i + (j + 1)))), (3, .int 1), (2, .int (nI t)), (0, .ref y), (1, .int (nI i))]) hx hb d_M_findSums_94 hl (k := 1) rfl (nI_1 _) (by decide) rfl (fun ls hl => ?_)
                    refine lv_goto (tgt := 40) hx hb d_M_findSums_97 (by decide) ?_
                    exact ih2 (j + 1) 1 ls (by omega) (by omega) (Or.inl ⟨rfl, hyx⟩) (lv_sub hl [0, 1, 2, 3, 4] rfl)
        refine lv_iload_n hx hb d_M_findSums_9 rfl (lv_at hl 0 rfl) ?_
        refine lv_aload_n hx hb d_M_findSums_10 rfl (lv_at hl 1 rfl) ?_
        refine g_get C i_M hP hvi.1 rfl 17 (by decide) wd_523 rfl rfl d_M_findSums_11 ?_
        refine lv_iload_n hx hb d_M_findSums_14 rfl (lv_at hl 2 rfl) ?_
        refine g_ialdN C hP hvi.2.2.2.2.2.2.2.2.2.2.2.2.2.2.1 (j := i) (by omega) (by decide) d_M_findSums_15 ?_
        refine g_eqi (y := nI (pPc (bD b i))) (hst) ?_
        refine lv_icmp_gt (tgt := 113) hx hb d_M_findSums_16 (by decide) (fun c_16 => ?_) (fun c_16 => ?_)
        · have q_16 : pPc (bD b i) < t := (nI_ltI (by omega) (by omega)).mp c_16
          exact g_vret C hP hS (⟨S1, hvi, fun t2 ht2 => hS1 t2 (by omega)⟩) (Nat.le_of_ble_eq_true rfl) (Nat.le_of_ble_eq_true rfl) d_M_findSums_113
        · have q_16 : t ≤ pPc (bD b i) := Nat.le_of_not_lt (fun z9 => c_16 ((nI_ltI (by omega) (by omega)).mpr z9))
          refine lv_aload_n hx hb d_M_findSums_19 rfl (lv_at hl 1 rfl) ?_
          refine g_get C i_M hP hvi.1 rfl 15 (by decide) wd_521 rfl rfl d_M_findSums_20 ?_
          refine lv_iload_n hx hb d_M_findSums_23 rfl (lv_at hl 2 rfl) ?_
          refine g_ialdN C hP hvi.2.2.2.2.2.2.2.2.2.2.2.2.1 (j := i) (by omega) (by decide) d_M_findSums_24 ?_
          refine g_eqi (y := nI (pNp (bD b i))) (hkc.1) ?_
          refine lv_if_ne (tgt := 32) hx hb d_M_findSums_25 (by decide) (fun c_25 => ?_) (fun c_25 => ?_)
          · have hin0 : ∀ v9 : Int32, v9 = 0 → ((v9 = 1 ∧ fs (bD b i) t) ∨ (v9 = 0 ∧ pNp (bD b i) ≠ 0 ∧ ∀ k, k < 0 → ¬ (pPk (bD b i) k ≤ t ∧ fs (bD b i) (t - pPk (bD b i) k)))) := fun v9 e9 => Or.inr ⟨e9, fun z9 => c_25 (by rw [z9]; rfl), fun k z9 => absurd z9 (Nat.not_lt_zero _)⟩
            refine lv_iconst (v := 0) hx hb d_M_findSums_32 (by decide) ?_
            refine lv_istore_n (lv' := [(3, .int 0), (2, .int (nI t)), (0, .ref y), (1, .int (nI i))]) hx hb d_M_findSums_33 rfl hl (by decide) rfl (fun ls hl => ?_)
            refine lv_bipush (v := 6) hx hb d_M_findSums_34 (by decide) ?_
            refine lv_iload_n hx hb d_M_findSums_36 rfl (lv_at hl 3 rfl) ?_
            refine lv_imul hx hb d_M_findSums_37 ?_
            refine g_eqi (y := nI (6 * i + 0)) (pk_mul _ _) ?_
            refine lv_istore (lv' := [(4, .int (nI (6 * i + 0))), (3, .int 0), (2, .int (nI t)), (0, .ref y), (1, .int (nI i))]) hx hb d_M_findSums_38 hl (by decide) rfl (fun ls hl => ?_)
            exact loop2 q_16 7 0 0 ls (by omega) (by omega) (hin0 _ rfl) (lv_sub hl [0, 1, 2, 3, 4] rfl)
          · have hin0 : ∀ v9 : Int32, v9 = 1 → ((v9 = 1 ∧ fs (bD b i) t) ∨ (v9 = 0 ∧ pNp (bD b i) ≠ 0 ∧ ∀ k, k < 0 → ¬ (pPk (bD b i) k ≤ t ∧ fs (bD b i) (t - pPk (bD b i) k)))) := fun v9 e9 => Or.inl ⟨e9, Or.inl ((nI_eq (b := 0) (by omega) (by omega)).mp c_25)⟩
            refine lv_iconst (v := 1) hx hb d_M_findSums_28 (by decide) ?_
            refine lv_goto (tgt := 33) hx hb d_M_findSums_29 (by decide) ?_
            refine lv_istore_n (lv' := [(3, .int 1), (2, .int (nI t)), (0, .ref y), (1, .int (nI i))]) hx hb d_M_findSums_33 rfl hl (by decide) rfl (fun ls hl => ?_)
            refine lv_bipush (v := 6) hx hb d_M_findSums_34 (by decide) ?_
            refine lv_iload_n hx hb d_M_findSums_36 rfl (lv_at hl 3 rfl) ?_
            refine lv_imul hx hb d_M_findSums_37 ?_
            refine g_eqi (y := nI (6 * i + 0)) (pk_mul _ _) ?_
            refine lv_istore (lv' := [(4, .int (nI (6 * i + 0))), (3, .int 1), (2, .int (nI t)), (0, .ref y), (1, .int (nI i))]) hx hb d_M_findSums_38 hl (by decide) rfl (fun ls hl => ?_)
            exact loop2 q_16 7 0 1 ls (by omega) (by omega) (hin0 _ rfl) (lv_sub hl [0, 1, 2, 3, 4] rfl)
  refine lv_aload_n hx hb d_M_findSums_0 rfl (lv_at hl 0 rfl) ?_
  refine g_get C i_M hP hv.1 rfl 21 (by decide) wd_527 rfl rfl d_M_findSums_1 ?_
  refine lv_iconst (v := 0) hx hb d_M_findSums_4 (by decide) ?_
  refine lv_iconst (v := 1) hx hb d_M_findSums_5 (by decide) ?_
  refine g_zastN C hP hS hv.2.2.2.2.2.2.2.2.2.2.2.2.2.2.2.2.2.2.1 (j := 0) (by decide) (by decide) (Or.inr rfl) d_M_findSums_6 (fun H locs hP hS => ?_)
  obtain ⟨g2, eg2⟩ : ∃ z99, z99 = upd SU 0 1 := ⟨_, rfl⟩
  rw [← eg2] at hP
  obtain ⟨f1, ef1⟩ : ∃ z99, z99 = va_up f (ca 17) (some (aZ G 20001 g2)) := ⟨_, rfl⟩
  replace hP : hH G (hA f s.heap.size) f1 H := by rw [ef1]; exact hP
  have hv_f1 : mv G f1 y ca th (nI (bN b)) (nI (bRc b)) (nI (bHc b)) bc cp MK PL AB BE AS FP PC PF PT PU RA KC PK ST DC DY DS g2 := by rw [ef1]; exact mv_17 hv _
  refine lv_iconst (v := 1) hx hb d_M_findSums_7 (by decide) ?_
  refine lv_istore_n (lv' := [(2, .int 1), (0, .ref y), (1, .int (nI i))]) hx hb d_M_findSums_8 rfl hl (by decide) rfl (fun ls hl => ?_)
  exact loop 20002 1 f1 g2 ls H locs (by omega) (by omega) (by omega) hv_f1 (fun t ht => by rw [show t = 0 by omega, eg2, pk_us]; exact Or.inl ⟨fs_0, rfl⟩) hP hS (lv_sub hl [0, 1, 2] rfl)
set_option maxHeartbeats 4000000 in
set_option maxRecDepth 100000 in
theorem ct_M_priceOf {l : Launch} {G : hG} (f : hm) (y : Nat) (ca : Nat → Nat) (b : BD) (hok : bOK b) (th : Int32) (bc : Int64) (cp : Int32) (MK : Nat → Int32) (PL : Nat → Int32) (AB : Nat → Int64) (BE : Nat → Int64) (AS : Nat → Int32) (FP : Nat → Int32) (PC : Nat → Int32) (PF : Nat → Int32) (PT : Nat → Int64) (PU : Nat → Int32) (RA : Nat → Int64) (KC : Nat → Int32) (PK : Nat → Int32) (ST : Nat → Int32) (DC : Nat → Int32) (DY : Nat → Int64) (DS : Nat → Int32) (SU : Nat → Int32) (hv : mv G f y ca th (nI (bN b)) (nI (bRc b)) (nI (bHc b)) bc cp MK PL AB BE AS FP PC PF PT PU RA KC PK ST DC DY DS SU) (hR : mR b MK PL AB BE AS FP PC PF PT PU RA KC PK ST DC DY DS) (i : Nat) (hi : i < bN b) (T : Nat) (hT : T ≤ 20000) : cl_ l G y_M_priceOf w_M_priceOf { frames := 0, cells := 0, slots := 0, locals := 0 } [.ref y, .int (nI i), .int (nI T)] f (fun r u => (∃ pr, prT (bRa b) (bD b i) T pr ∧ r = lN pr) ∧ u = f) := by
  intro sz
  refine h_ofW (cc := c_M_priceOf) (maxL := 7) (ret := (some .long)) (by decide) rfl (Nat.le_of_ble_eq_true rfl) ?_
  intro p e s m below meth c ls C hin hsz hP hl
  obtain ⟨hx, hb, hml, hown, -, -, -, -⟩ := id C
  subst hsz
  have hA0 : ∀ q, s.heap.size ≤ q → hA f s.heap.size q := hA.new
  have hS : va_S (hA f s.heap.size) s.heap s.heap [] := va_S.rf
  replace hl : lv_has ls 7 [(0, .ref y), (1, .int (nI i)), (2, .int (nI T))] := hl
  have hNN : bN b ≤ 40 := hok.1.1
  have hRC : bRc b ≤ 10 := hok.1.2.1
  have hHC : bHc b ≤ 40 := hok.1.2.2
  have hDi := hok.2.1 i hi
  obtain ⟨hpc, B2, C2, K2, hrow, hcel⟩ := hR.2.2.2.1 i (by omega)
  have h8 := hDi.1.2.2.1
  have loop : ∀ (d j : Nat) (o : Option Nat) (fm pr : Nat) (ls : Array Slot), pN1 (bD b i) < j + d → j ≤ pN1 (bD b i) → (∀ jb, o = some jb → jb < j ∧ B2 jb ≤ T ∧ fm = B2 jb ∧ pr = C2 jb * bRa b (K2 jb)) → (o = none → fm = 0 ∧ pr = 0) → (∀ j2, j2 < j → B2 j2 ≤ T → B2 j2 ≤ fm) → lv_has ls 7 [(6, .int (nI (8 * i + j))), (3, .int (nI fm)), (4, .long (lN pr)), (0, .ref y), (1, .int (nI i)), (2, .int (nI T))] → W p l e { frames := 0, cells := 0, slots := 0, locals := 0 } s m #[.ref y, .int (nI i), .int (nI T)] below meth c s.heap [] 0 0 (MQ below (va_Ql (fun r u => (∃ pr, prT (bRa b) (bD b i) T pr ∧ r = lN pr) ∧ u = f) (hB G (hA f s.heap.size)) (hA f s.heap.size)) #[.ref y, .int (nI i), .int (nI T)] s 0 0 (hA f s.heap.size)) (F0 m 11 ls []) := by
    intro d
    induction d with
    | zero => intro j o fm pr ls h1 h2; exact absurd h1 (by omega)
    | succ d ih =>
      intro j o fm pr ls h1 h2 h3 h5 h4 hl
      have hfm : fm ≤ 20000 := by
        rcases o with _ | jb
        · rw [(h5 rfl).1]; omega
        · have := h3 jb rfl; omega
      refine lv_iload hx hb d_M_priceOf_11 (lv_at hl 0 rfl) ?_
      refine lv_bipush (v := 8) hx hb d_M_priceOf_13 (by decide) ?_
      refine lv_iload_n hx hb d_M_priceOf_15 rfl (lv_at hl 4 rfl) ?_
      refine lv_imul hx hb d_M_priceOf_16 ?_
      refine g_eqi (y := nI (8 * i)) (pk_mul _ _) ?_
      refine lv_aload_n hx hb d_M_priceOf_17 rfl (lv_at hl 3 rfl) ?_
      refine g_get C i_M hP hv.1 rfl 10 (by decide) wd_516 rfl rfl d_M_priceOf_18 ?_
      refine lv_iload_n hx hb d_M_priceOf_21 rfl (lv_at hl 4 rfl) ?_
      refine g_ialdN C hP hv.2.2.2.2.2.2.2.1 (j := i) (by omega) (by decide) d_M_priceOf_22 ?_
      refine g_eqi (y := nI (pN1 (bD b i))) (hpc) ?_
      refine lv_iadd hx hb d_M_priceOf_23 ?_
      refine g_eqi (y := nI (8 * i + pN1 (bD b i))) (nI_add _ _) ?_
      refine lv_icmp_ge (tgt := 88) hx hb d_M_priceOf_24 (by decide) (fun c_24 => ?_) (fun c_24 => ?_)
      · have hjn : j = pN1 (bD b i) := by have := (nI_leI (by omega) (by omega)).mp c_24; omega
        subst hjn
        refine lv_lload hx hb d_M_priceOf_88 (lv_at hl 2 rfl) ?_
        exact g_lret C hP hS (by refine ⟨⟨pr, ?_, rfl⟩, rfl⟩; rcases o with _ | jb; (rw [(h5 rfl).2]; exact (pr_row hDi hrow).1 (fun j2 g1 g2 => by obtain ⟨k, a1, a2, -⟩ := hrow.1 j2 g1; have := (hDi.2.2.1 k a1).1; have := h4 j2 g1 g2; have := (h5 rfl).1; omega)); (obtain ⟨g1, g2, g3, g4⟩ := h3 jb rfl; rw [g4]; exact (pr_row hDi hrow).2 jb g1 g2 (fun j2 a1 a2 => by have := h4 j2 a1 a2; omega))) (Nat.le_of_ble_eq_true rfl) (Nat.le_of_ble_eq_true rfl) d_M_priceOf_90
      · have hjn : j < pN1 (bD b i) := Nat.lt_of_not_le (fun z9 => c_24 ((nI_leI (by omega) (by omega)).mpr (by omega)))
        have hbd : B2 j ≤ 10000 ∧ K2 j < 4 := by
          obtain ⟨k, g1, g2, g3⟩ := hrow.1 j hjn
          have e2 : K2 j = pK1 (bD b i) k := congrArg Prod.snd g3
          have := hDi.2.2.1 k g1
          omega
        refine lv_aload_n hx hb d_M_priceOf_27 rfl (lv_at hl 3 rfl) ?_
        refine g_get C i_M hP hv.1 rfl 11 (by decide) wd_517 rfl rfl d_M_priceOf_28 ?_
        refine lv_iload hx hb d_M_priceOf_31 (lv_at hl 0 rfl) ?_
        refine g_ialdN C hP hv.2.2.2.2.2.2.2.2.1 (j := (8 * i + j)) (by omega) (by decide) d_M_priceOf_33 ?_
        refine g_eqi (y := nI (B2 j)) ((hcel j hjn).1) ?_
        refine lv_iload_n hx hb d_M_priceOf_34 rfl (lv_at hl 5 rfl) ?_
        refine lv_icmp_gt (tgt := 82) hx hb d_M_priceOf_35 (by decide) (fun c_35 => ?_) (fun c_35 => ?_)
        · have hkeep : B2 j ≤ T → B2 j ≤ fm := fun z9 => by have := (nI_ltI (by omega) (by omega)).mp c_35; omega
          refine lv_iinc (v := nI (8 * i + (j + 1))) (lv' := [(6, .int (nI (8 * i + (j + 1)))), (3, .int (nI fm)), (4, .long (lN pr)), (0, .ref y), (1, .int (nI i)), (2, .int (nI T))]) hx hb d_M_priceOf_82 hl (k := 0) rfl (nI_1 _) (by decide) rfl (fun ls hl => ?_)
          refine lv_goto (tgt := 11) hx hb d_M_priceOf_85 (by decide) ?_
          exact ih (j + 1) o fm pr ls (by omega) (by omega) (fun jb h9 => ⟨by have := (h3 jb h9).1; omega, (h3 jb h9).2⟩) h5 (fun j2 h9 h7 => by rcases Nat.lt_succ_iff_lt_or_eq.mp h9 with z9 | z9; exact h4 j2 z9 h7; rw [z9] at h7 ⊢; exact hkeep h7) (lv_sub hl [0, 1, 2, 3, 4, 5] rfl)
        · have q_35 : B2 j ≤ T := Nat.le_of_not_lt (fun z9 => c_35 ((nI_ltI (by omega) (by omega)).mpr z9))
          refine lv_aload_n hx hb d_M_priceOf_38 rfl (lv_at hl 3 rfl) ?_
          refine g_get C i_M hP hv.1 rfl 11 (by decide) wd_517 rfl rfl d_M_priceOf_39 ?_
          refine lv_iload hx hb d_M_priceOf_42 (lv_at hl 0 rfl) ?_
          refine g_ialdN C hP hv.2.2.2.2.2.2.2.2.1 (j := (8 * i + j)) (by omega) (by decide) d_M_priceOf_44 ?_
          refine g_eqi (y := nI (B2 j)) ((hcel j hjn).1) ?_
          refine lv_iload_n hx hb d_M_priceOf_45 rfl (lv_at hl 1 rfl) ?_
          refine lv_icmp_ge (tgt := 52) hx hb d_M_priceOf_46 (by decide) (fun c_46 => ?_) (fun c_46 => ?_)
          · have q_46 : fm ≤ B2 j := (nI_leI (by omega) (by omega)).mp c_46
            refine lv_aload_n hx hb d_M_priceOf_52 rfl (lv_at hl 3 rfl) ?_
            refine g_get C i_M hP hv.1 rfl 11 (by decide) wd_517 rfl rfl d_M_priceOf_53 ?_
            refine lv_iload hx hb d_M_priceOf_56 (lv_at hl 0 rfl) ?_
            refine g_ialdN C hP hv.2.2.2.2.2.2.2.2.1 (j := (8 * i + j)) (by omega) (by decide) d_M_priceOf_58 ?_
            refine g_eqi (y := nI (B2 j)) ((hcel j hjn).1) ?_
            refine lv_istore_n (lv' := [(3, .int (nI (B2 j))), (6, .int (nI (8 * i + j))), (4, .long (lN pr)), (0, .ref y), (1, .int (nI i)), (2, .int (nI T))]) hx hb d_M_priceOf_59 rfl hl (by decide) rfl (fun ls hl => ?_)
            refine lv_aload_n hx hb d_M_priceOf_60 rfl (lv_at hl 3 rfl) ?_
            refine g_get C i_M hP hv.1 rfl 12 (by decide) wd_518 rfl rfl d_M_priceOf_61 ?_
            refine lv_iload hx hb d_M_priceOf_64 (lv_at hl 1 rfl) ?_
            refine g_laldN C hP hv.2.2.2.2.2.2.2.2.2.1 (j := (8 * i + j)) (by omega) (by decide) d_M_priceOf_66 ?_
            refine g_eql (y := lN (C2 j)) ((hcel j hjn).2.1) ?_
            refine lv_aload_n hx hb d_M_priceOf_67 rfl (lv_at hl 3 rfl) ?_
            refine g_get C i_M hP hv.1 rfl 14 (by decide) wd_520 rfl rfl d_M_priceOf_68 ?_
            refine lv_aload_n hx hb d_M_priceOf_71 rfl (lv_at hl 3 rfl) ?_
            refine g_get C i_M hP hv.1 rfl 13 (by decide) wd_519 rfl rfl d_M_priceOf_72 ?_
            refine lv_iload hx hb d_M_priceOf_75 (lv_at hl 1 rfl) ?_
            refine g_ialdN C hP hv.2.2.2.2.2.2.2.2.2.2.1 (j := (8 * i + j)) (by omega) (by decide) d_M_priceOf_77 ?_
            refine g_eqi (y := nI (K2 j)) ((hcel j hjn).2.2) ?_
            refine g_laldN C hP hv.2.2.2.2.2.2.2.2.2.2.2.1 (j := (K2 j)) (hbd.2) (by decide) d_M_priceOf_78 ?_
            refine g_eql (y := lN (bRa b (K2 j))) (by rw [hR.1.2.2.1]) ?_
            refine lv_lmul hx hb d_M_priceOf_79 ?_
            refine g_eql (y := lN (C2 j * bRa b (K2 j))) (lN_mul _ _) ?_
            refine lv_lstore (lv' := [(4, .long (lN (C2 j * bRa b (K2 j)))), (3, .int (nI (B2 j))), (6, .int (nI (8 * i + j))), (0, .ref y), (1, .int (nI i)), (2, .int (nI T))]) hx hb d_M_priceOf_80 hl (by decide) rfl (fun ls hl => ?_)
            refine lv_iinc (v := nI (8 * i + (j + 1))) (lv' := [(6, .int (nI (8 * i + (j + 1)))), (4, .long (lN (C2 j * bRa b (K2 j)))), (3, .int (nI (B2 j))), (0, .ref y), (1, .int (nI i)), (2, .int (nI T))]) hx hb d_M_priceOf_82 hl (k := 2) rfl (nI_1 _) (by decide) rfl (fun ls hl => ?_)
            refine lv_goto (tgt := 11) hx hb d_M_priceOf_85 (by decide) ?_
            exact ih (j + 1) (some j) (B2 j) (C2 j * bRa b (K2 j)) ls (by omega) (by omega) (fun jb h9 => by cases h9; exact ⟨by omega, q_35, rfl, rfl⟩) (fun h9 => by cases h9) (fun j2 h9 h7 => by rcases Nat.lt_succ_iff_lt_or_eq.mp h9 with z9 | z9; exact Nat.le_trans (h4 j2 z9 h7) q_46; rw [z9]; exact Nat.le_refl _) (lv_sub hl [0, 2, 1, 3, 4, 5] rfl)
          · have hkeep : B2 j ≤ T → B2 j ≤ fm := fun _ => by have : ¬ fm ≤ B2 j := fun z9 => c_46 ((nI_leI (by omega) (by omega)).mpr z9); omega
            refine lv_goto (tgt := 82) hx hb d_M_priceOf_49 (by decide) ?_
            refine lv_iinc (v := nI (8 * i + (j + 1))) (lv' := [(6, .int (nI (8 * i + (j + 1)))), (3, .int (nI fm)), (4, .long (lN pr)), (0, .ref y), (1, .int (nI i)), (2, .int (nI T))]) hx hb d_M_priceOf_82 hl (k := 0) rfl (nI_1 _) (by decide) rfl (fun ls hl => ?_)
            refine lv_goto (tgt := 11) hx hb d_M_priceOf_85 (by decide) ?_
            exact ih (j + 1) o fm pr ls (by omega) (by omega) (fun jb h9 => ⟨by have := (h3 jb h9).1; omega, (h3 jb h9).2⟩) h5 (fun j2 h9 h7 => by rcases Nat.lt_succ_iff_lt_or_eq.mp h9 with z9 | z9; exact h4 j2 z9 h7; rw [z9] at h7 ⊢; exact hkeep h7) (lv_sub hl [0, 1, 2, 3, 4, 5] rfl)
  refine lv_iconst (v := 0) hx hb d_M_priceOf_0 (by decide) ?_
  refine g_eqi (y := nI 0) (rfl) ?_
  refine lv_istore_n (lv' := [(3, .int (nI 0)), (0, .ref y), (1, .int (nI i)), (2, .int (nI T))]) hx hb d_M_priceOf_1 rfl hl (by decide) rfl (fun ls hl => ?_)
  refine lv_lconst (v := 0) hx hb d_M_priceOf_2 (by decide) ?_
  refine g_eql (y := lN 0) (rfl) ?_
  refine lv_lstore (lv' := [(4, .long (lN 0)), (3, .int (nI 0)), (0, .ref y), (1, .int (nI i)), (2, .int (nI T))]) hx hb d_M_priceOf_3 hl (by decide) rfl (fun ls hl => ?_)
  refine lv_bipush (v := 8) hx hb d_M_priceOf_5 (by decide) ?_
  refine lv_iload_n hx hb d_M_priceOf_7 rfl (lv_at hl 3 rfl) ?_
  refine lv_imul hx hb d_M_priceOf_8 ?_
  refine g_eqi (y := nI (8 * i + 0)) (pk_mul _ _) ?_
  refine lv_istore (lv' := [(6, .int (nI (8 * i + 0))), (4, .long (lN 0)), (3, .int (nI 0)), (0, .ref y), (1, .int (nI i)), (2, .int (nI T))]) hx hb d_M_priceOf_9 hl (by decide) rfl (fun ls hl => ?_)
  exact loop 9 0 none 0 0 ls (by omega) (by omega) (fun jb h9 => by cases h9) (fun _ => ⟨rfl, rfl⟩) (fun j2 h9 => absurd h9 (by omega)) (lv_sub hl [0, 2, 1, 3, 4, 5] rfl)
set_option maxHeartbeats 4000000 in
set_option maxRecDepth 100000 in
theorem ct_M_bestOf {l : Launch} {G : hG} (f : hm) (y : Nat) (ca : Nat → Nat) (b : BD) (hok : bOK b) (th : Int32) (bc : Int64) (cp : Int32) (hm : mS G f y ca b th bc cp) (i : Nat) (hi : i < bN b) (q : Nat) (hq1 : 1 ≤ q) (hq2 : q ≤ 10000) : ci_ l G y_M_bestOf w_M_bestOf { frames := 1, cells := 0, slots := 0, locals := 40 } [.ref y, .int (nI i), .int (nI q)] f (fun r u => ∃ o bc2, BT (bRa b) (bD b i) q o ∧ r = oT o ∧ (∀ p, o = some p → bc2 = lN p.2) ∧ mS G u y ca b th bc2 cp) := by
  intro sz
  refine h_ofW (cc := c_M_bestOf) (maxL := 9) (ret := (some .int)) (by decide) rfl (Nat.le_of_ble_eq_true rfl) ?_
  intro p e s m below meth c ls C hin hsz hP hl
  obtain ⟨hx, hb, hml, hown, -, -, -, -⟩ := id C
  subst hsz
  have hA0 : ∀ q, s.heap.size ≤ q → hA f s.heap.size q := hA.new
  have hS : va_S (hA f s.heap.size) s.heap s.heap [] := va_S.rf
  replace hl : lv_has ls 9 [(0, .ref y), (1, .int (nI i)), (2, .int (nI q))] := hl
  obtain ⟨MK, PL, AB, BE, AS, FP, PC, PF, PT, PU, RA, KC, PK, ST, DC, DY, DS, SU, hv, hR⟩ := hm
  have hNN : bN b ≤ 40 := hok.1.1
  have hRC : bRc b ≤ 10 := hok.1.2.1
  have hHC : bHc b ≤ 40 := hok.1.2.2
  have hDi := hok.2.1 i hi
  have hst := hR.2.2.1 i (by omega)
  have hp2 := hDi.1.2.1
  have loop : ∀ (d t : Nat) (o : Option (Nat × Nat)) (bcx : Int64) (S9 : Nat → Int32) (fi : hm) (ls : Array Slot) (H : Heap) (locs : List Loc), 20001 < t + d → q ≤ t → t ≤ 20001 → mv G fi y ca th (nI (bN b)) (nI (bRc b)) (nI (bHc b)) bcx cp MK PL AB BE AS FP PC PF PT PU RA KC PK ST DC DY DS S9 → (∀ t2, t2 ≤ pPc (bD b i) → bz (fs (bD b i) t2) (S9 t2)) → BTt (bRa b) (bD b i) q t o → (∀ p, o = some p → bcx = lN p.2 ∧ p.2 < 2 ^ 63 ∧ p.1 < 2 ^ 31) → hH G (hA f s.heap.size) fi H → va_S (hA f s.heap.size) s.heap H locs → lv_has ls 9 [(4, .int (nI t)), (3, .int (oT o)), (0, .ref y), (1, .int (nI i)), (2, .int (nI q))] → W p l e { frames := 1, cells := 0, slots := 0, locals := 40 } s m #[.ref y, .int (nI i), .int (nI q)] below meth c H locs 0 0 (MQ below (va_Qi (fun r u => ∃ o bc2, BT (bRa b) (bD b i) q o ∧ r = oT o ∧ (∀ p, o = some p → bc2 = lN p.2) ∧ mS G u y ca b th bc2 cp) (hB G (hA f s.heap.size)) (hA f s.heap.size)) #[.ref y, .int (nI i), .int (nI q)] s 0 0 (hA f s.heap.size)) (F0 m 17 ls []) := by
    intro d
    induction d with
    | zero => intro t o bcx S9 fi ls H locs h1 h2 h3; exact absurd h1 (by omega)
    | succ d ih =>
      intro t o bcx S9 fi ls H locs h1 h2 h3 hvi hS9 hBT hL hP hS hl
      refine lv_iload hx hb d_M_bestOf_17 (lv_at hl 0 rfl) ?_
      refine lv_aload_n hx hb d_M_bestOf_19 rfl (lv_at hl 2 rfl) ?_
      refine g_get C i_M hP hvi.1 rfl 17 (by decide) wd_523 rfl rfl d_M_bestOf_20 ?_
      refine lv_iload_n hx hb d_M_bestOf_23 rfl (lv_at hl 3 rfl) ?_
      refine g_ialdN C hP hvi.2.2.2.2.2.2.2.2.2.2.2.2.2.2.1 (j := i) (by omega) (by decide) d_M_bestOf_24 ?_
      refine g_eqi (y := nI (pPc (bD b i))) (hst) ?_
      refine lv_icmp_gt (tgt := 99) hx hb d_M_bestOf_25 (by decide) (fun c_25 => ?_) (fun c_25 => ?_)
      · have q_25 : pPc (bD b i) < t := (nI_ltI (by omega) (by omega)).mp c_25
        refine lv_iload_n hx hb d_M_bestOf_99 rfl (lv_at hl 1 rfl) ?_
        exact g_iret C hP hS (⟨o, bcx, BTt_end hBT q_25, rfl, fun p hp => (hL p hp).1, ⟨MK, PL, AB, BE, AS, FP, PC, PF, PT, PU, RA, KC, PK, ST, DC, DY, DS, S9, hvi, hR⟩⟩) (Nat.le_of_ble_eq_true rfl) (Nat.le_of_ble_eq_true rfl) d_M_bestOf_100
      · have q_25 : t ≤ pPc (bD b i) := Nat.le_of_not_lt (fun z9 => c_25 ((nI_ltI (by omega) (by omega)).mpr z9))
        refine lv_aload_n hx hb d_M_bestOf_28 rfl (lv_at hl 2 rfl) ?_
        refine g_get C i_M hP hvi.1 rfl 21 (by decide) wd_527 rfl rfl d_M_bestOf_29 ?_
        refine lv_iload hx hb d_M_bestOf_32 (lv_at hl 0 rfl) ?_
        refine g_zaldN C hP hvi.2.2.2.2.2.2.2.2.2.2.2.2.2.2.2.2.2.2.1 (j := t) (by omega) (by decide) d_M_bestOf_34 ?_
        refine lv_if_eq (tgt := 48) hx hb d_M_bestOf_35 (by decide) (fun c_35 => ?_) (fun c_35 => ?_)
        · have hnf : ¬ fs (bD b i) t := bz_f (hS9 t q_25) c_35
          have hno : ∀ k, ¬ cand (bD b i) q t k := fun k z9 => hnf z9.2.2.1
          refine lv_lconst (v := 0) hx hb d_M_bestOf_48 (by decide) ?_
          refine lv_lstore (lv' := [(5, .long 0), (4, .int (nI t)), (3, .int (oT o)), (0, .ref y), (1, .int (nI i)), (2, .int (nI q))]) hx hb d_M_bestOf_49 hl (by decide) rfl (fun ls hl => ?_)
          refine lv_lload hx hb d_M_bestOf_51 (lv_at hl 0 rfl) ?_
          refine lv_lconst (v := 0) hx hb d_M_bestOf_53 (by decide) ?_
          refine W.lcmp hx hb d_M_bestOf_54 ?_
          refine lv_if_ne (tgt := 61) hx hb d_M_bestOf_55 (by decide) (fun c_55 => ?_) (fun c_55 => ?_)
          · have c_55 := fun z => c_55 ((lg_cmp_eq _ _).mpr z)
            exact absurd rfl c_55
          · have c_55 := (lg_cmp_eq _ _).mp c_55
            refine lv_goto (tgt := 93) hx hb d_M_bestOf_58 (by decide) ?_
            refine lv_iinc (v := nI (t + 1)) (lv' := [(4, .int (nI (t + 1))), (5, .long 0), (3, .int (oT o)), (0, .ref y), (1, .int (nI i)), (2, .int (nI q))]) hx hb d_M_bestOf_93 hl (k := 1) rfl (nI_1 t) (by decide) rfl (fun ls hl => ?_)
            refine lv_goto (tgt := 17) hx hb d_M_bestOf_96 (by decide) ?_
            exact ih (t + 1) o bcx S9 fi ls H locs (by omega) (by omega) (by omega) hvi hS9 (BTt_skip hBT hno) hL hP hS (lv_sub hl [0, 2, 3, 4, 5] rfl)
        · have hfs : fs (bD b i) t := bz_t (hS9 t q_25) c_35
          refine lv_aload_n hx hb d_M_bestOf_38 rfl (lv_at hl 2 rfl) ?_
          refine lv_iload_n hx hb d_M_bestOf_39 rfl (lv_at hl 3 rfl) ?_
          refine lv_iload hx hb d_M_bestOf_40 (lv_at hl 0 rfl) ?_
          refine g_calll (g_runV C hl.1 (ct_M_priceOf fi y ca b hok th bcx cp MK PL AB BE AS FP PC PF PT PU RA KC PK ST DC DY DS S9 hvi hR i hi t (by omega) _) (cx_V C 2 wd_701 wd_703 wp_23 wd_3 wd_704 rfl rfl (by decide +kernel) ⟨Nat.le_of_ble_eq_true rfl, Nat.le_of_ble_eq_true rfl⟩) hP hvi.1 rfl rfl rfl (Nat.le_of_ble_eq_true rfl) d_M_bestOf_42 ⟨Nat.le_of_ble_eq_true rfl, Nat.le_of_ble_eq_true rfl⟩) hP hS hA0 (fun r2 f1 H locs hq hP hS => ?_)
          obtain ⟨⟨pr, hpr, rfl⟩, hu⟩ := hq
          rw [hu] at hP
          refine lv_goto (tgt := 49) hx hb d_M_bestOf_45 (by decide) ?_
          refine lv_lstore (lv' := [(5, .long (lN pr)), (4, .int (nI t)), (3, .int (oT o)), (0, .ref y), (1, .int (nI i)), (2, .int (nI q))]) hx hb d_M_bestOf_49 hl (by decide) rfl (fun ls hl => ?_)
          refine lv_lload hx hb d_M_bestOf_51 (lv_at hl 0 rfl) ?_
          refine lv_lconst (v := 0) hx hb d_M_bestOf_53 (by decide) ?_
          refine W.lcmp hx hb d_M_bestOf_54 ?_
          refine lv_if_ne (tgt := 61) hx hb d_M_bestOf_55 (by decide) (fun c_55 => ?_) (fun c_55 => ?_)
          · have c_55 := fun z => c_55 ((lg_cmp_eq _ _).mpr z)
            obtain ⟨k, hk, hpe⟩ := hpr.resolve_right (fun z9 => c_55 (by rw [z9.2]; rfl))
            have hcd : cand (bD b i) q t k := ⟨by omega, by omega, hfs, hk⟩
            have hcs : pr * t = cst (bRa b) (bD b i) t k := by rw [hpe]; unfold cst; rw [Nat.mul_comm, Nat.mul_assoc]
            have hcl := cst_lt (ra := bRa b) (T := t) hDi hok.2.2.2.2.1 (by omega) hk.1
            refine lv_lload hx hb d_M_bestOf_61 (lv_at hl 0 rfl) ?_
            refine lv_iload hx hb d_M_bestOf_63 (lv_at hl 1 rfl) ?_
            refine lv_i2l (v := (nI t).toInt64) hx hb d_M_bestOf_65 rfl ?_
            refine g_eql (y := lN t) (nI_l (by omega)) ?_
            refine lv_lmul hx hb d_M_bestOf_66 ?_
            refine g_eql (y := lN (pr * t)) (lN_mul _ _) ?_
            refine lv_lstore (lv' := [(7, .long (lN (pr * t))), (5, .long (lN pr)), (4, .int (nI t)), (3, .int (oT o)), (0, .ref y), (1, .int (nI i)), (2, .int (nI q))]) hx hb d_M_bestOf_67 hl (by decide) rfl (fun ls hl => ?_)
            refine lv_iload_n hx hb d_M_bestOf_69 rfl (lv_at hl 3 rfl) ?_
            refine lv_iconst (v := (-1)) hx hb d_M_bestOf_70 (by decide) ?_
            refine lv_icmp_eq (tgt := 84) hx hb d_M_bestOf_71 (by decide) (fun c_71 => ?_) (fun c_71 => ?_)
            · have htk : ∀ p, o = some p → cst (bRa b) (bD b i) t k < p.2 := fun p hp => by rw [oT_m c_71 (fun p hp => (hL p hp).2.2)] at hp; cases hp
              refine lv_iload hx hb d_M_bestOf_84 (lv_at hl 2 rfl) ?_
              refine lv_istore_n (lv' := [(3, .int (nI t)), (7, .long (lN (pr * t))), (5, .long (lN pr)), (4, .int (nI t)), (0, .ref y), (1, .int (nI i)), (2, .int (nI q))]) hx hb d_M_bestOf_86 rfl hl (by decide) rfl (fun ls hl => ?_)
              refine lv_aload_n hx hb d_M_bestOf_87 rfl (lv_at hl 4 rfl) ?_
              refine lv_lload hx hb d_M_bestOf_88 (lv_at hl 1 rfl) ?_
              refine g_put C i_M t_M t_M_ok n_M hP hS hvi.1 rfl 22 (by decide) wd_528 rfl rfl rfl (rfl) (Nat.le_of_ble_eq_true rfl) d_M_bestOf_90 (fun H locs hP hS => ?_)
              obtain ⟨f3, ef3⟩ : ∃ z99, z99 = va_up fi y (some (ob 4 [.int th, .int (nI (bN b)), .ref (ca 0), .ref (ca 1), .ref (ca 2), .ref (ca 3), .int (nI (bRc b)), .ref (ca 4), .int (nI (bHc b)), .ref (ca 5), .ref (ca 6), .ref (ca 7), .ref (ca 8), .ref (ca 9), .ref (ca 10), .ref (ca 11), .ref (ca 12), .ref (ca 13), .ref (ca 14), .ref (ca 15), .ref (ca 16), .ref (ca 17), .long (lN (pr * t)), .int cp])) := ⟨_, rfl⟩
              replace hP : hH G (hA f s.heap.size) f3 H := by rw [ef3]; exact hP
              have hv_f3 : mv G f3 y ca th (nI (bN b)) (nI (bRc b)) (nI (bHc b)) (lN (pr * t)) cp MK PL AB BE AS FP PC PF PT PU RA KC PK ST DC DY DS S9 := by rw [ef3]; exact mv_y hvi _ _ _ _ _ _
              refine lv_iinc (v := nI (t + 1)) (lv' := [(4, .int (nI (t + 1))), (3, .int (nI t)), (7, .long (lN (pr * t))), (5, .long (lN pr)), (0, .ref y), (1, .int (nI i)), (2, .int (nI q))]) hx hb d_M_bestOf_93 hl (k := 3) rfl (nI_1 t) (by decide) rfl (fun ls hl => ?_)
              refine lv_goto (tgt := 17) hx hb d_M_bestOf_96 (by decide) ?_
              exact ih (t + 1) (some (t, cst (bRa b) (bD b i) t k)) (lN (cst (bRa b) (bD b i) t k)) S9 f3 ls H locs (by omega) (by omega) (by omega) (by rw [← hcs]; exact hv_f3) hS9 (BTt_take hDi hBT hcd (fun p hp => htk p hp)) (fun p hp => by cases hp; exact ⟨rfl, by omega, by omega⟩) hP hS (lv_sub hl [0, 1, 4, 5, 6] rfl)
            · refine lv_lload hx hb d_M_bestOf_74 (lv_at hl 0 rfl) ?_
              refine lv_aload_n hx hb d_M_bestOf_76 rfl (lv_at hl 4 rfl) ?_
              refine g_get C i_M hP hvi.1 rfl 22 (by decide) wd_528 rfl rfl d_M_bestOf_77 ?_
              refine W.lcmp hx hb d_M_bestOf_80 ?_
              refine lv_if_ge (tgt := 93) hx hb d_M_bestOf_81 (by decide) (fun c_81 => ?_) (fun c_81 => ?_)
              · have c_81 := (lg_cmp_ge _ _).mp c_81
                obtain ⟨p0, rfl⟩ : ∃ p0, o = some p0 := by rcases o with _ | p0; exact absurd rfl c_71; exact ⟨p0, rfl⟩
                obtain ⟨e1, e2, e3⟩ := hL p0 rfl
                have hN : BTt (bRa b) (bD b i) q (t + 1) (some p0) := BTt_keep hDi hBT hcd ((pk_lLE (by omega) (by omega)).mp (by rw [← e1, ← hcs]; exact c_81))
                refine lv_iinc (v := nI (t + 1)) (lv' := [(4, .int (nI (t + 1))), (7, .long (lN (pr * t))), (5, .long (lN pr)), (3, .int (oT (some p0))), (0, .ref y), (1, .int (nI i)), (2, .int (nI q))]) hx hb d_M_bestOf_93 hl (k := 2) rfl (nI_1 t) (by decide) rfl (fun ls hl => ?_)
                refine lv_goto (tgt := 17) hx hb d_M_bestOf_96 (by decide) ?_
                exact ih (t + 1) (some p0) bcx S9 fi ls H locs (by omega) (by omega) (by omega) hvi hS9 hN hL hP hS (lv_sub hl [0, 3, 4, 5, 6] rfl)
              · have c_81 := fun z => c_81 ((lg_cmp_ge _ _).mpr z)
                have htk : ∀ p, o = some p → cst (bRa b) (bD b i) t k < p.2 := fun p hp => (pk_lLT (by omega) (by have := (hL p hp).2.1; omega)).mp (by rw [← (hL p hp).1, ← hcs]; exact Int64.not_le.mp c_81)
                refine lv_iload hx hb d_M_bestOf_84 (lv_at hl 2 rfl) ?_
                refine lv_istore_n (lv' := [(3, .int (nI t)), (7, .long (lN (pr * t))), (5, .long (lN pr)), (4, .int (nI t)), (0, .ref y), (1, .int (nI i)), (2, .int (nI q))]) hx hb d_M_bestOf_86 rfl hl (by decide) rfl (fun ls hl => ?_)
                refine lv_aload_n hx hb d_M_bestOf_87 rfl (lv_at hl 4 rfl) ?_
                refine lv_lload hx hb d_M_bestOf_88 (lv_at hl 1 rfl) ?_
                refine g_put C i_M t_M t_M_ok n_M hP hS hvi.1 rfl 22 (by decide) wd_528 rfl rfl rfl (rfl) (Nat.le_of_ble_eq_true rfl) d_M_bestOf_90 (fun H locs hP hS => ?_)
                obtain ⟨f4, ef4⟩ : ∃ z99, z99 = va_up fi y (some (ob 4 [.int th, .int (nI (bN b)), .ref (ca 0), .ref (ca 1), .ref (ca 2), .ref (ca 3), .int (nI (bRc b)), .ref (ca 4), .int (nI (bHc b)), .ref (ca 5), .ref (ca 6), .ref (ca 7), .ref (ca 8), .ref (ca 9), .ref (ca 10), .ref (ca 11), .ref (ca 12), .ref (ca 13), .ref (ca 14), .ref (ca 15), .ref (ca 16), .ref (ca 17), .long (lN (pr * t)), .int cp])) := ⟨_, rfl⟩
                replace hP : hH G (hA f s.heap.size) f4 H := by rw [ef4]; exact hP
                have hv_f4 : mv G f4 y ca th (nI (bN b)) (nI (bRc b)) (nI (bHc b)) (lN (pr * t)) cp MK PL AB BE AS FP PC PF PT PU RA KC PK ST DC DY DS S9 := by rw [ef4]; exact mv_y hvi _ _ _ _ _ _
                refine lv_iinc (v := nI (t + 1)) (lv' := [(4, .int (nI (t + 1))), (3, .int (nI t)), (7, .long (lN (pr * t))), (5, .long (lN pr)), (0, .ref y), (1, .int (nI i)), (2, .int (nI q))]) hx hb d_M_bestOf_93 hl (k := 3) rfl (nI_1 t) (by decide) rfl (fun ls hl => ?_)
                refine lv_goto (tgt := 17) hx hb d_M_bestOf_96 (by decide) ?_
                exact ih (t + 1) (some (t, cst (bRa b) (bD b i) t k)) (lN (cst (bRa b) (bD b i) t k)) S9 f4 ls H locs (by omega) (by omega) (by omega) (by rw [← hcs]; exact hv_f4) hS9 (BTt_take hDi hBT hcd (fun p hp => htk p hp)) (fun p hp => by cases hp; exact ⟨rfl, by omega, by omega⟩) hP hS (lv_sub hl [0, 1, 4, 5, 6] rfl)
          · have c_55 := (lg_cmp_eq _ _).mp c_55
            have hno : ∀ k, ¬ cand (bD b i) q t k := fun k z9 => by
              rcases hpr with ⟨k2, g1, g2⟩ | ⟨g1, -⟩
              · have := (hDi.2.2.1 k2 g1.1).2
                have h7 := hok.2.2.2.2.1 _ this.2
                have h6 : 0 < pr := by rw [g2]; exact Nat.mul_pos this.1.1 h7.1
                have h5 : pr ≤ 1000000 * 1000000 := by rw [g2]; exact Nat.mul_le_mul this.1.2 h7.2
                exact absurd ((pk_lEQ (b := 0) (by omega) (by omega)).mp c_55) (by omega)
              · exact g1 k z9.2.2.2
            refine lv_goto (tgt := 93) hx hb d_M_bestOf_58 (by decide) ?_
            refine lv_iinc (v := nI (t + 1)) (lv' := [(4, .int (nI (t + 1))), (5, .long (lN pr)), (3, .int (oT o)), (0, .ref y), (1, .int (nI i)), (2, .int (nI q))]) hx hb d_M_bestOf_93 hl (k := 1) rfl (nI_1 t) (by decide) rfl (fun ls hl => ?_)
            refine lv_goto (tgt := 17) hx hb d_M_bestOf_96 (by decide) ?_
            exact ih (t + 1) o bcx S9 fi ls H locs (by omega) (by omega) (by omega) hvi hS9 (BTt_skip hBT hno) hL hP hS (lv_sub hl [0, 2, 3, 4, 5] rfl)
  refine lv_aload_n hx hb d_M_bestOf_0 rfl (lv_at hl 0 rfl) ?_
  refine lv_iload_n hx hb d_M_bestOf_1 rfl (lv_at hl 1 rfl) ?_
  refine g_callv (g_runV C hl.1 (ct_M_findSums f y ca b hok th bc cp MK PL AB BE AS FP PC PF PT PU RA KC PK ST DC DY DS SU hv hR i hi _) (cx_V C 1 wd_697 wd_699 wp_22 wd_3 wd_700 rfl rfl (by decide +kernel) ⟨Nat.le_of_ble_eq_true rfl, Nat.le_of_ble_eq_true rfl⟩) hP hv.1 rfl rfl rfl (Nat.le_of_ble_eq_true rfl) d_M_bestOf_2 ⟨Nat.le_of_ble_eq_true rfl, Nat.le_of_ble_eq_true rfl⟩) hP hS hA0 (fun f1 H locs hq hP hS => ?_)
  obtain ⟨S9, hvS, hS9⟩ := hq
  refine lv_iconst (v := (-1)) hx hb d_M_bestOf_5 (by decide) ?_
  refine lv_istore_n (lv' := [(3, .int (-1)), (0, .ref y), (1, .int (nI i)), (2, .int (nI q))]) hx hb d_M_bestOf_6 rfl hl (by decide) rfl (fun ls hl => ?_)
  refine lv_aload_n hx hb d_M_bestOf_7 rfl (lv_at hl 1 rfl) ?_
  refine lv_ldc2 hx hb hown (C.w wd_588) d_M_bestOf_8 ?_
  refine g_put C i_M t_M t_M_ok n_M hP hS hvS.1 rfl 22 (by decide) wd_528 rfl rfl rfl (rfl) (Nat.le_of_ble_eq_true rfl) d_M_bestOf_11 (fun H locs hP hS => ?_)
  obtain ⟨f3, ef3⟩ : ∃ z99, z99 = va_up f1 y (some (ob 4 [.int th, .int (nI (bN b)), .ref (ca 0), .ref (ca 1), .ref (ca 2), .ref (ca 3), .int (nI (bRc b)), .ref (ca 4), .int (nI (bHc b)), .ref (ca 5), .ref (ca 6), .ref (ca 7), .ref (ca 8), .ref (ca 9), .ref (ca 10), .ref (ca 11), .ref (ca 12), .ref (ca 13), .ref (ca 14), .ref (ca 15), .ref (ca 16), .ref (ca 17), .long (-1), .int cp])) := ⟨_, rfl⟩
  replace hP : hH G (hA f s.heap.size) f3 H := by rw [ef3]; exact hP
  have hv_f3 : mv G f3 y ca th (nI (bN b)) (nI (bRc b)) (nI (bHc b)) (-1) cp MK PL AB BE AS FP PC PF PT PU RA KC PK ST DC DY DS S9 := by rw [ef3]; exact mv_y hvS _ _ _ _ _ _
  refine lv_iload_n hx hb d_M_bestOf_14 rfl (lv_at hl 3 rfl) ?_
  refine lv_istore (lv' := [(4, .int (nI q)), (3, .int (-1)), (0, .ref y), (1, .int (nI i)), (2, .int (nI q))]) hx hb d_M_bestOf_15 hl (by decide) rfl (fun ls hl => ?_)
  exact loop 20002 q none (-1) S9 f3 ls H locs (by omega) (by omega) (by omega) hv_f3 hS9 (fun T k h9 hc => by have := hc.1; omega) (fun p hp => by cases hp) hP hS (lv_sub hl [0, 1, 2, 3, 4] rfl)
