/-! Euclid's steps: how many, and what they keep. -/
/-- behind i steps: the rest, times two to the half of i, stays within B -/
def eu_J (B i a b : Nat) : Prop := b * 2 ^ (i / 2) ≤ B ∧ (0 < i → b < a ∧ a * 2 ^ ((i - 1) / 2) ≤ B)
theorem eu_half {a b : Nat} (h0 : 0 < b) (h : b < a) : 2 * (a % b) ≤ a := by
  have h1 := Nat.mod_lt a h0
  have h2 := Nat.div_add_mod a b
  have h3 : 1 ≤ a / b := (Nat.one_le_div_iff h0).mpr (Nat.le_of_lt h)
  have h4 : b * 1 ≤ b * (a / b) := Nat.mul_le_mul_left b h3
  omega
theorem eu_step {B i a b : Nat} (h0 : 0 < b) (h : eu_J B i a b) : eu_J B (i + 1) b (a % b) := by
  obtain ⟨h1, h2⟩ := h
  have hr := Nat.mod_lt a h0
  refine ⟨?_, fun _ => ⟨hr, ?_⟩⟩
  · rcases Nat.eq_zero_or_pos i with hi | hi
    · subst hi
      have : a % b ≤ b := Nat.le_of_lt hr
      simp at h1 ⊢
      omega
    · obtain ⟨h3, h4⟩ := h2 hi
      have h5 := eu_half h0 h3
      have h6 : (i + 1) / 2 = (i - 1) / 2 + 1 := by omega
      rw [h6, Nat.pow_succ]
      have h7 : 2 * (a % b) * 2 ^ ((i - 1) / 2) ≤ a * 2 ^ ((i - 1) / 2) := Nat.mul_le_mul_right _ h5
      have h8 : a % b * (2 ^ ((i - 1) / 2) * 2) = 2 * (a % b) * 2 ^ ((i - 1) / 2) := by
        rw [Nat.mul_comm (2 ^ ((i - 1) / 2)) 2, ← Nat.mul_assoc, Nat.mul_comm (a % b) 2]
      omega
  · simpa using h1
theorem eu_end {B a b : Nat} (hB : B < 2 ^ 50) (h : eu_J B 100 a b) : b = 0 := by
  have h1 := h.1
  rcases Nat.eq_zero_or_pos b with hb | hb
  · exact hb
  · have : 1 * 2 ^ (100 / 2) ≤ b * 2 ^ (100 / 2) := Nat.mul_le_mul_right _ hb
    omega
theorem eu_start {B a b : Nat} (h : b ≤ B) : eu_J B 0 a b := ⟨by simpa using h, fun h => absurd h (by omega)⟩
/-- the comparison of two fractions by crossed products: 0, 1 or -1 -/
def cq_sg (x : Int) : Int := if x < 0 then -1 else if 0 < x then 1 else 0
theorem cq_sg_neg (x : Int) : cq_sg (-x) = -cq_sg x := by
  unfold cq_sg
  by_cases h : x < 0
  · rw [if_neg (by omega), if_pos (by omega), if_pos h]; rfl
  · by_cases h2 : 0 < x
    · rw [if_pos (by omega), if_neg h, if_pos h2]
    · rw [if_neg (by omega), if_neg (by omega), if_neg h, if_neg h2]; rfl
theorem cq_step {a b c d : Nat} (hq : a / b = c / d) : ((b : Int) * ((c % d : Nat) : Int) - (d : Int) * ((a % b : Nat) : Int)) = -((a : Int) * d - (c : Int) * b) := by
  have h1 : (a : Int) = b * ((a / b : Nat) : Int) + ((a % b : Nat) : Int) := by exact_mod_cast (Nat.div_add_mod a b).symm
  have h2 : (c : Int) = d * ((c / d : Nat) : Int) + ((c % d : Nat) : Int) := by exact_mod_cast (Nat.div_add_mod c d).symm
  rw [hq] at h1
  generalize ((c / d : Nat) : Int) = q at h1 h2
  generalize ((a % b : Nat) : Int) = r at h1 ⊢
  generalize ((c % d : Nat) : Int) = t at h2 ⊢
  rw [h1, h2]
  simp only [Int.add_mul, Int.mul_add]
  have e1 : (b : Int) * q * d = d * q * b := by rw [Int.mul_comm (b : Int) q, Int.mul_assoc, Int.mul_comm (b : Int) d, ← Int.mul_assoc, Int.mul_comm q]
  rw [e1, Int.mul_comm r (d : Int), Int.mul_comm t (b : Int)]
  omega
theorem cq_lt {a b c d : Nat} (hb : 0 < b) (hd : 0 < d) (h : a / b < c / d) : (a : Int) * d - (c : Int) * b < 0 := by
  have h1 : a < b * (a / b + 1) := by have := Nat.div_add_mod a b; have := Nat.mod_lt a hb; rw [Nat.mul_add]; omega
  have h2 : d * (c / d) ≤ c := Nat.mul_div_le c d
  have h3 : b * (a / b + 1) ≤ b * (c / d) := Nat.mul_le_mul_left b h
  have h4 : a * d < b * (c / d) * d := Nat.mul_lt_mul_of_pos_right (Nat.lt_of_lt_of_le h1 h3) hd
  have h5 : b * (c / d) * d ≤ c * b := by
    rw [Nat.mul_assoc, Nat.mul_comm (c / d) d, Nat.mul_comm c b]
    exact Nat.mul_le_mul_left b h2
  have h6 : a * d < c * b := Nat.lt_of_lt_of_le h4 h5
  have h7 : ((a * d : Nat) : Int) < ((c * b : Nat) : Int) := by exact_mod_cast h6
  rw [Int.natCast_mul, Int.natCast_mul] at h7
  omega
