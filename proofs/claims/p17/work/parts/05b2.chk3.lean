/-! machine numbers -/
theorem bm32 {z : Int} (h1 : -2147483648 ≤ z) (h2 : z ≤ 2147483647) : z.bmod (2 ^ 32) = z := Int.bmod_eq_of_le (by omega) (by omega)
theorem bm64 {z : Int} (h1 : -9223372036854775808 ≤ z) (h2 : z ≤ 9223372036854775807) : z.bmod (2 ^ 64) = z := Int.bmod_eq_of_le (by omega) (by omega)
theorem i32_lo (x : Int32) : -2147483648 ≤ x.toInt := Int32.le_toInt x
theorem i32_hi (x : Int32) : x.toInt ≤ 2147483647 := by have := Int32.toInt_lt x; omega
theorem i64_lo (x : Int64) : -9223372036854775808 ≤ x.toInt := Int64.le_toInt x
theorem i64_hi (x : Int64) : x.toInt ≤ 9223372036854775807 := by have := Int64.toInt_lt x; omega
theorem i32_add {x y : Int32} (h1 : -2147483648 ≤ x.toInt + y.toInt) (h2 : x.toInt + y.toInt ≤ 2147483647) : (x + y).toInt = x.toInt + y.toInt := by rw [Int32.toInt_add]; exact bm32 h1 h2
theorem i32_sub {x y : Int32} (h1 : -2147483648 ≤ x.toInt - y.toInt) (h2 : x.toInt - y.toInt ≤ 2147483647) : (x - y).toInt = x.toInt - y.toInt := by rw [Int32.toInt_sub]; exact bm32 h1 h2
theorem i32_mul {x y : Int32} (h1 : -2147483648 ≤ x.toInt * y.toInt) (h2 : x.toInt * y.toInt ≤ 2147483647) : (x * y).toInt = x.toInt * y.toInt := by rw [Int32.toInt_mul]; exact bm32 h1 h2
theorem i64_add {x y : Int64} (h1 : -9223372036854775808 ≤ x.toInt + y.toInt) (h2 : x.toInt + y.toInt ≤ 9223372036854775807) : (x + y).toInt = x.toInt + y.toInt := by rw [Int64.toInt_add]; exact bm64 h1 h2
theorem i64_sub {x y : Int64} (h1 : -9223372036854775808 ≤ x.toInt - y.toInt) (h2 : x.toInt - y.toInt ≤ 9223372036854775807) : (x - y).toInt = x.toInt - y.toInt := by rw [Int64.toInt_sub]; exact bm64 h1 h2
theorem i64_mul {x y : Int64} (h1 : -9223372036854775808 ≤ x.toInt * y.toInt) (h2 : x.toInt * y.toInt ≤ 9223372036854775807) : (x * y).toInt = x.toInt * y.toInt := by rw [Int64.toInt_mul]; exact bm64 h1 h2
theorem ediv_b {a b : Int} (h1 : 0 ≤ a) (h2 : 1 ≤ b) : 0 ≤ a / b ∧ a / b ≤ a := ⟨Int.ediv_nonneg h1 (by omega), Int.ediv_le_self b h1⟩
theorem emod_b {a b : Int} (h1 : 0 ≤ a) (h2 : 1 ≤ b) : a / b * b ≤ a ∧ 0 ≤ a / b * b ∧ a - a / b * b = a % b := by
  have e := Int.emod_def a b
  have e2 : b * (a / b) = a / b * b := Int.mul_comm _ _
  have m1 : 0 ≤ a % b := Int.emod_nonneg a (by omega)
  have m2 : 0 ≤ a / b * b := Int.mul_nonneg (ediv_b h1 h2).1 (by omega)
  omega
theorem i32_div {x y : Int32} (h1 : 0 ≤ x.toInt) (h2 : 1 ≤ y.toInt) : (x / y).toInt = x.toInt / y.toInt := by
  have b := ediv_b h1 h2
  have := i32_hi x
  rw [Int32.toInt_div, Int.tdiv_eq_ediv_of_nonneg h1]
  exact bm32 (by omega) (by omega)
theorem i64_div {x y : Int64} (h1 : 0 ≤ x.toInt) (h2 : 1 ≤ y.toInt) : (x / y).toInt = x.toInt / y.toInt := by
  have b := ediv_b h1 h2
  have := i64_hi x
  rw [Int64.toInt_div, Int.tdiv_eq_ediv_of_nonneg h1]
  exact bm64 (by omega) (by omega)
theorem i32_rem {x y : Int32} (h1 : 0 ≤ x.toInt) (h2 : 1 ≤ y.toInt) : (x - x / y * y).toInt = x.toInt % y.toInt := by
  obtain ⟨b1, b2, b3⟩ := emod_b h1 h2
  have := i32_hi x
  have e1 : (x / y * y).toInt = x.toInt / y.toInt * y.toInt := by
    rw [i32_mul (by rw [i32_div h1 h2]; omega) (by rw [i32_div h1 h2]; omega), i32_div h1 h2]
  rw [i32_sub (by rw [e1]; omega) (by rw [e1]; omega), e1, b3]
theorem i64_rem {x y : Int64} (h1 : 0 ≤ x.toInt) (h2 : 1 ≤ y.toInt) : (x - x / y * y).toInt = x.toInt % y.toInt := by
  obtain ⟨b1, b2, b3⟩ := emod_b h1 h2
  have := i64_hi x
  have e1 : (x / y * y).toInt = x.toInt / y.toInt * y.toInt := by
    rw [i64_mul (by rw [i64_div h1 h2]; omega) (by rw [i64_div h1 h2]; omega), i64_div h1 h2]
  rw [i64_sub (by rw [e1]; omega) (by rw [e1]; omega), e1, b3]
theorem i32_nn {y : Int32} (h : 0 ≤ y.toInt) : y.toBitVec.msb = false := by
  rw [BitVec.msb_eq_toInt]
  exact decide_eq_false (by rw [Int32.toInt_toBitVec]; omega)
theorem i32_nat {y : Int32} (h : y.toBitVec.msb = false) : y.toInt = (y.toBitVec.toNat : Int) := by
  rw [← Int32.toInt_toBitVec, BitVec.toInt_eq_toNat_of_msb h]
theorem i32_andr {x y : Int32} (h : 0 ≤ y.toInt) : 0 ≤ (x &&& y).toInt ∧ (x &&& y).toInt ≤ y.toInt := by
  have hy := i32_nn h
  have hm : (x &&& y).toBitVec.msb = false := by rw [Int32.toBitVec_and, BitVec.msb_and, hy, Bool.and_false]
  rw [i32_nat hm, i32_nat hy, Int32.toBitVec_and, BitVec.toNat_and]
  have := Nat.and_le_right (n := x.toBitVec.toNat) (m := y.toBitVec.toNat)
  omega
theorem i32_andl {x y : Int32} (h : 0 ≤ x.toInt) : 0 ≤ (x &&& y).toInt ∧ (x &&& y).toInt ≤ x.toInt := by
  have hy := i32_nn h
  have hm : (x &&& y).toBitVec.msb = false := by rw [Int32.toBitVec_and, BitVec.msb_and, hy, Bool.false_and]
  rw [i32_nat hm, i32_nat hy, Int32.toBitVec_and, BitVec.toNat_and]
  have := Nat.and_le_left (n := x.toBitVec.toNat) (m := y.toBitVec.toNat)
  omega
theorem i32_shl1 : ∀ k : Fin 31, ((1 : Int32) <<< (Int32.ofInt (k.val : Int) &&& 31)).toInt = ((2 ^ k.val : Nat) : Int) := by decide
theorem i32_shl {x y : Int32} (h : x.toInt = 1) (h1 : 0 ≤ y.toInt) (h2 : y.toInt ≤ 30) : (x <<< (y &&& 31)).toInt = ((2 ^ y.toInt.toNat : Nat) : Int) := by
  have hx : x = 1 := Int32.toInt_inj.mp h
  have hy : y = Int32.ofInt ((⟨y.toInt.toNat, by omega⟩ : Fin 31).val : Int) := by
    show y = Int32.ofInt ((y.toInt.toNat : Nat) : Int)
    rw [Int.toNat_of_nonneg h1, Int32.ofInt_toInt]
  have := i32_shl1 ⟨y.toInt.toNat, by omega⟩
  rw [← hy] at this
  rw [hx]
  exact this
theorem i64_32 {x : Int64} (h1 : -2147483648 ≤ x.toInt) (h2 : x.toInt ≤ 2147483647) : x.toInt32.toInt = x.toInt := by rw [Int64.toInt_toInt32]; exact bm32 h1 h2
theorem ck_cc {c : Jvm.ClassFile.Cond} {x y : Int32} : ab_cc c x y ↔ ck_ci c x.toInt y.toInt := by
  cases c
  · exact Int32.toInt_inj.symm
  · exact not_congr Int32.toInt_inj.symm
  · exact Int32.lt_iff_toInt_lt
  · exact Int32.le_iff_toInt_le
  · exact Int32.lt_iff_toInt_lt
  · exact Int32.le_iff_toInt_le
theorem ck_cl {c : Jvm.ClassFile.Cond} {x y : Int64} : ab_cc c (lg_cmp x y) 0 ↔ ck_ci c x.toInt y.toInt := by
  cases c
  · exact (lg_cmp_eq x y).trans Int64.toInt_inj.symm
  · exact not_congr ((lg_cmp_eq x y).trans Int64.toInt_inj.symm)
  · exact (lg_cmp_lt x y).trans Int64.lt_iff_toInt_lt
  · exact (lg_cmp_ge x y).trans Int64.le_iff_toInt_le
  · exact (lg_cmp_gt x y).trans Int64.lt_iff_toInt_lt
  · exact (lg_cmp_le x y).trans Int64.le_iff_toInt_le
/-! shapes -/
def ck_gf (k lo hi ci f : Nat) : Option (Bool ⊕ (Nat × Nat × Nat)) := if k = 20 then (if ci = 5 then (match f with
    | 0 => some (.inl true)
    | 1 => some (.inr (21, lo, hi))
    | 2 => some (.inr (22, lo, hi))
    | 3 => some (.inr (23, lo, hi))
    | 4 => some (.inr (24, lo, hi))
    | 5 => some (.inr (25, lo, hi))
    | _ => none) else none)
  else if k = 30 then (if ci = 3 then (match f with
    | 0 => some (.inl true)
    | 1 => some (.inl false)
    | 2 => some (.inl false)
    | 3 => some (.inl true)
    | 4 => some (.inl false)
    | 5 => some (.inl false)
    | 6 => some (.inr (31, lo, hi))
    | 7 => some (.inr (32, lo, hi))
    | _ => none) else none)
  else match ab_fd (ab_sh k 0) ci f with
    | some (.inl b) => some (.inl b)
    | some (.inr m) => some (.inr (m.1, m.2, m.2))
    | none => none
theorem sh_ind {k : Nat} (i : Nat) (h1 : ¬ k = 20) (h2 : ¬ k = 30) : ab_sh k i = ab_sh k 0 := by
  unfold ab_sh
  split <;> first | rfl | exact absurd rfl h1 | exact absurd rfl h2
def ck_gk (r : Bool ⊕ (Nat × Nat × Nat)) (o : Option (Bool ⊕ ab_Nm)) : Prop := match r with
  | .inl b => o = some (.inl b)
  | .inr q => ∃ i' : Nat, o = some (.inr (q.1, i')) ∧ q.2.1 ≤ i' ∧ i' ≤ q.2.2
theorem ck_gf_ok {k lo hi ci f i : Nat} {r : Bool ⊕ (Nat × Nat × Nat)} (h : ck_gf k lo hi ci f = some r) (h1 : lo ≤ i) (h2 : i ≤ hi) : ck_gk r (ab_fd (ab_sh k i) ci f) := by
  unfold ck_gf at h
  by_cases c1 : k = 20
  · rw [if_pos c1] at h
    subst c1
    by_cases c2 : ci = 5
    · rw [if_pos c2] at h
      subst c2
      split at h <;> first | (cases h; first | rfl | exact ⟨i, rfl, h1, h2⟩) | cases h
    · rw [if_neg c2] at h
      cases h
  · rw [if_neg c1] at h
    by_cases c3 : k = 30
    · rw [if_pos c3] at h
      subst c3
      by_cases c2 : ci = 3
      · rw [if_pos c2] at h
        subst c2
        split at h <;> first | (cases h; first | rfl | exact ⟨i, rfl, h1, h2⟩) | cases h
      · rw [if_neg c2] at h
        cases h
    · rw [if_neg c3] at h
      rw [sh_ind i c1 c3]
      split at h
      · rename_i b e
        cases h
        exact e
      · rename_i m e
        cases h
        exact ⟨m.2, e, Nat.le_refl _, Nat.le_refl _⟩
      · cases h
def ck_ar (k : Nat) : Option (Nat × Nat) := match ab_sh k 0 with
  | .inl _ => none
  | .inr q => some (q.1, q.2.1)
theorem ck_ar_ok {k t n : Nat} (i : Nat) (h : ck_ar k = some (t, n)) : ∃ rs, ab_sh k i = .inr (t, n, rs) := by
  by_cases c1 : k = 20
  · subst c1; cases h
  · by_cases c2 : k = 30
    · subst c2; cases h
    · rw [sh_ind i c1 c2]
      unfold ck_ar at h
      split at h
      · cases h
      · rename_i q e
        cases h
        exact ⟨q.2.2, e⟩
def ck_io (k ci : Nat) : Bool := match ab_sh k 0 with
  | .inl q => q.1 == ci
  | .inr _ => false
theorem ck_io_ok {k ci : Nat} (i : Nat) (h : ck_io k ci = true) : ab_isO (ab_sh k i) ci := by
  by_cases c1 : k = 20
  · subst c1; exact eq_of_beq h
  · by_cases c2 : k = 30
    · subst c2; exact eq_of_beq h
    · rw [sh_ind i c1 c2]
      unfold ck_io at h
      split at h
      · rename_i q e
        rw [e]
        exact eq_of_beq h
      · cases h
