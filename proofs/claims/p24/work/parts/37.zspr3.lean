/-! spread between the parts: the class -/
theorem bw_t {p c d : Int64} {s C D : Int} (hp : p.toInt = s) (hc : c.toInt = C) (hd : d.toInt = D) (s0 : 0 ≤ s) (s1 : s ≤ 792) (c0 : 1 ≤ C) (c1 : C ≤ 512) (d0 : 1 ≤ D) : (p * p * (c / d)).toInt = s * s * (C / D) ∧ 0 ≤ s * s * (C / D) ∧ s * s * (C / D) ≤ 627264 * 512 := by
  have q0 : 0 ≤ C / D := Int.ediv_nonneg (by omega) (by omega)
  have q1 : C / D ≤ C := Int.ediv_le_self _ (by omega)
  have e1 : (c / d).toInt = C / D := by rw [i64_div (by omega) (by omega), hc, hd]
  have p0 : 0 ≤ s * s := Int.mul_nonneg s0 s0
  have p1 : s * s ≤ 792 * 792 := Int.mul_le_mul s1 s1 s0 (by decide)
  have r0 : 0 ≤ s * s * (C / D) := Int.mul_nonneg p0 q0
  have r1 : s * s * (C / D) ≤ 627264 * 512 := Int.mul_le_mul (by omega) (by omega) q0 (by decide)
  have e2 : (p * p).toInt = s * s := by rw [i64_mul (by rw [hp]; omega) (by rw [hp]; omega), hp]
  exact ⟨by rw [i64_mul (by rw [e1, e2]; omega) (by rw [e1, e2]; omega), e1, e2], r0, r1⟩
theorem bw_e {all sum c sq : Int64} {N S C Q : Int} (hN : all.toInt = N) (hS : sum.toInt = S) (hC : c.toInt = C) (hQ : sq.toInt = Q) (n0 : 1 ≤ N) (n1 : N ≤ 8) (s0 : 0 ≤ S) (s1 : S ≤ 792) (c0 : 1 ≤ C) (c1 : C ≤ 512) (q0 : 0 ≤ Q) (q1 : Q ≤ 3 * (627264 * 512)) : (all * sq - sum * sum * c).toInt = N * Q - S * S * C ∧ (all * all * c).toInt = N * N * C ∧ 1 ≤ N * N * C ∧ N * N * C ≤ 64 * 512 := by
  have a0 : 0 ≤ N * Q := Int.mul_nonneg (by omega) q0
  have a1 : N * Q ≤ 8 * (3 * (627264 * 512)) := Int.mul_le_mul n1 q1 q0 (by decide)
  have p0 : 0 ≤ S * S := Int.mul_nonneg s0 s0
  have p1 : S * S ≤ 792 * 792 := Int.mul_le_mul s1 s1 s0 (by decide)
  have r0 : 0 ≤ S * S * C := Int.mul_nonneg p0 (by omega)
  have r1 : S * S * C ≤ 627264 * 512 := Int.mul_le_mul (by omega) c1 (by omega) (by decide)
  have m0 : 1 * 1 ≤ N * N := Int.mul_le_mul n0 n0 (by decide) (by omega)
  have m1 : N * N ≤ 8 * 8 := Int.mul_le_mul n1 n1 (by omega) (by decide)
  have t0 : 1 * 1 ≤ N * N * C := Int.mul_le_mul (by omega) c0 (by decide) (by omega)
  have t1 : N * N * C ≤ 64 * 512 := Int.mul_le_mul (by omega) c1 (by omega) (by decide)
  have e1 : (all * sq).toInt = N * Q := by rw [i64_mul (by rw [hN, hQ]; omega) (by rw [hN, hQ]; omega), hN, hQ]
  have e2 : (sum * sum).toInt = S * S := by rw [i64_mul (by rw [hS]; omega) (by rw [hS]; omega), hS]
  have e3 : (sum * sum * c).toInt = S * S * C := by rw [i64_mul (by rw [e2, hC]; omega) (by rw [e2, hC]; omega), e2, hC]
  have e4 : (all * all).toInt = N * N := by rw [i64_mul (by rw [hN]; omega) (by rw [hN]; omega), hN]
  exact ⟨by rw [i64_sub (by rw [e1, e3]; omega) (by rw [e1, e3]; omega), e1, e3], by rw [i64_mul (by rw [e4, hC]; omega) (by rw [e4, hC]; omega), e4, hC], by omega, t1⟩
theorem bw_c {a b c : Int64} {A B C : Int} (ha : a.toInt = A) (hb : b.toInt = B) (hc : c.toInt = C) (a0 : 1 ≤ A) (a1 : A ≤ 8) (b0 : 1 ≤ B) (b1 : B ≤ 8) (c0 : 1 ≤ C) (c1 : C ≤ 8) : (1 * a * b * c).toInt = A * B * C ∧ 1 ≤ A * B * C ∧ A * B * C ≤ 512 := by
  have o1 : (1 : Int64).toInt = 1 := rfl
  have p0 : 1 * 1 ≤ A * B := Int.mul_le_mul a0 b0 (by decide) (by omega)
  have p1 : A * B ≤ 8 * 8 := Int.mul_le_mul a1 b1 (by omega) (by decide)
  have q0 : 1 * 1 ≤ A * B * C := Int.mul_le_mul (by omega) c0 (by decide) (by omega)
  have q1 : A * B * C ≤ 64 * 8 := Int.mul_le_mul (by omega) c1 (by omega) (by decide)
  have e0 : (1 * a).toInt = A := by rw [i64_mul (by rw [o1, ha]; omega) (by rw [o1, ha]; omega), o1, ha, Int.one_mul]
  have e1 : (1 * a * b).toInt = A * B := by rw [i64_mul (by rw [e0, hb]; omega) (by rw [e0, hb]; omega), e0, hb]
  exact ⟨by rw [i64_mul (by rw [e1, hc]; omega) (by rw [e1, hc]; omega), e1, hc], by omega, by omega⟩
