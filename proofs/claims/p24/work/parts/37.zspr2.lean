/-! spread between the parts: two fractions that are one -/
theorem ltv_k {u : Bool} {a b k : Int} (ha : 0 ≤ a) (hb : 1 ≤ b) (hk : 1 ≤ k) : ltv u (a * k) (b * k) = ltv u a b := by
  have g : gI (a * k) (b * k) = gI a b * k := by
    unfold gI
    rw [Int.toNat_mul ha (by omega), Int.toNat_mul (by omega) (by omega), Nat.gcd_mul_right, Int.natCast_mul, Int.toNat_of_nonneg (show 0 ≤ k by omega)]
  unfold ltv
  rw [g]
  cases u
  · exact Int.mul_ediv_mul_of_pos_left b _ (by omega)
  · exact Int.mul_ediv_mul_of_pos_left a _ (by omega)
theorem d840 {c : Int} (h1 : 1 ≤ c) (h8 : c ≤ 8) : c * (840 / c) = 840 := by
  rcases (show c = 1 ∨ c = 2 ∨ c = 3 ∨ c = 4 ∨ c = 5 ∨ c = 6 ∨ c = 7 ∨ c = 8 by omega) with h | h | h | h | h | h | h | h <;> rw [h] <;> rfl
theorem bt_t {s D c E K : Int} (h : c * D = 840) (hc : K = c * E) : s * s * D * K = 840 * (s * s * E) := by
  rw [hc, ← h]
  ac_rfl
theorem bt_x {s0 s1 s2 c0 c1 c2 : Int} (a0 : 1 ≤ c0) (b0 : c0 ≤ 8) (a1 : 1 ≤ c1) (b1 : c1 ≤ 8) (a2 : 1 ≤ c2) (b2 : c2 ≤ 8) : (s0 * s0 * (840 / c0) + s1 * s1 * (840 / c1) + s2 * s2 * (840 / c2)) * (c0 * c1 * c2) = 840 * (s0 * s0 * (c0 * c1 * c2 / c0) + s1 * s1 * (c0 * c1 * c2 / c1) + s2 * s2 * (c0 * c1 * c2 / c2)) := by
  have e0 : c0 * c1 * c2 = c0 * (c1 * c2) := by ac_rfl
  have e1 : c0 * c1 * c2 = c1 * (c0 * c2) := by ac_rfl
  have e2 : c0 * c1 * c2 = c2 * (c0 * c1) := by ac_rfl
  have f0 : c0 * c1 * c2 / c0 = c1 * c2 := by rw [e0]; exact Int.mul_ediv_cancel_left _ (by omega)
  have f1 : c0 * c1 * c2 / c1 = c0 * c2 := by rw [e1]; exact Int.mul_ediv_cancel_left _ (by omega)
  have f2 : c0 * c1 * c2 / c2 = c0 * c1 := by rw [e2]; exact Int.mul_ediv_cancel_left _ (by omega)
  rw [f0, f1, f2, Int.add_mul, Int.add_mul, bt_t (d840 a0 b0) e0, bt_t (d840 a1 b1) e1, bt_t (d840 a2 b2) e2, Int.mul_add, Int.mul_add]
theorem bt_f {N S X Y c : Int} (h : X * c = 840 * Y) : (N * Y - S * S * c) * 840 = (N * X - 840 * S * S) * c := by
  rw [Int.sub_mul, Int.sub_mul, Int.mul_assoc N X c, h]
  congr 1 <;> ac_rfl
theorem bt_g {u : Bool} {N S X Y c : Int} (h : X * c = 840 * Y) (n1 : 1 ≤ N) (c1 : 1 ≤ c) (p : 0 ≤ N * X - 840 * S * S) (q : 0 ≤ N * Y - S * S * c) : ltv u (N * Y - S * S * c) (N * N * c) = ltv u (N * X - 840 * S * S) (840 * N * N) := by
  have n2 : 1 * 1 ≤ N * N := Int.mul_le_mul n1 n1 (by decide) (by omega)
  have n3 : 1 * 1 ≤ N * N * c := Int.mul_le_mul n2 c1 (by decide) (by omega)
  rw [← ltv_k (k := 840) q (by omega) (by decide), bt_f h, show N * N * c * 840 = 840 * N * N * c by ac_rfl]
  exact ltv_k p (by rw [Int.mul_assoc]; omega) c1
/-- n k families of a part hold s k: a part with none holds nothing -/
theorem bt_1 {n s : Int} (n0 : 0 ≤ n) (n8 : n ≤ 8) (z : n = 0 → s = 0) : n * (s * s * (840 / max 1 n)) = 840 * (s * s) := by
  by_cases q : n = 0
  · rw [z q, q]; rfl
  · rw [Int.max_eq_right (show (1 : Int) ≤ n by omega)]
    have h := d840 (c := n) (by omega) n8
    generalize 840 / n = D at *
    rw [← h]
    ac_rfl
theorem sq_2 {a b : Int} : 2 * (a * b) ≤ a * a + b * b := by
  have h : 0 ≤ (a - b) * (a - b) := by
    by_cases q : 0 ≤ a - b
    · exact Int.mul_nonneg q q
    · exact Int.mul_nonneg_of_nonpos_of_nonpos (by omega) (by omega)
  rw [Int.sub_mul, Int.mul_sub, Int.mul_sub, Int.mul_comm b a] at h
  omega
theorem bt_2 {n s m t : Int} (n0 : 0 ≤ n) (n8 : n ≤ 8) (m0 : 0 ≤ m) (m8 : m ≤ 8) (zn : n = 0 → s = 0) (zm : m = 0 → t = 0) : 840 * (2 * (s * t)) ≤ n * (t * t * (840 / max 1 m)) + m * (s * s * (840 / max 1 n)) := by
  have sqn : ∀ x : Int, 0 ≤ x * x := fun x => by
    by_cases q : 0 ≤ x
    · exact Int.mul_nonneg q q
    · exact Int.mul_nonneg_of_nonpos_of_nonpos (by omega) (by omega)
  by_cases q : n = 0
  · rw [zn q, q]
    simp
  · by_cases w : m = 0
    · rw [zm w, w]
      simp
    · rw [Int.max_eq_right (show (1 : Int) ≤ n by omega), Int.max_eq_right (show (1 : Int) ≤ m by omega)]
      have hn := d840 (c := n) (by omega) n8
      have hm := d840 (c := m) (by omega) m8
      generalize 840 / n = D at *
      generalize 840 / m = E at *
      have nm : 0 < n * m := Int.mul_pos (by omega) (by omega)
      refine Int.le_of_mul_le_mul_left ?_ nm
      have e1 : n * m * (n * (t * t * E) + m * (s * s * D)) = 840 * (n * t * (n * t)) + 840 * (m * s * (m * s)) := by
        rw [Int.mul_add, ← hm]
        congr 1
        · ac_rfl
        · rw [hm, ← hn]; ac_rfl
      have e2 : n * m * (840 * (2 * (s * t))) = 840 * (2 * (n * t * (m * s))) := by ac_rfl
      rw [e1, e2, ← Int.mul_add]
      exact Int.mul_le_mul_of_nonneg_left sq_2 (by decide)
theorem bt_p {n0 n1 n2 s0 s1 s2 : Int} (a0 : 0 ≤ n0) (b0 : n0 ≤ 8) (a1 : 0 ≤ n1) (b1 : n1 ≤ 8) (a2 : 0 ≤ n2) (b2 : n2 ≤ 8) (z0 : n0 = 0 → s0 = 0) (z1 : n1 = 0 → s1 = 0) (z2 : n2 = 0 → s2 = 0) : 0 ≤ (n0 + n1 + n2) * (s0 * s0 * (840 / max 1 n0) + s1 * s1 * (840 / max 1 n1) + s2 * s2 * (840 / max 1 n2)) - 840 * (s0 + s1 + s2) * (s0 + s1 + s2) := by
  have d0 := bt_1 a0 b0 z0
  have d1 := bt_1 a1 b1 z1
  have d2 := bt_1 a2 b2 z2
  have p01 := bt_2 a0 b0 a1 b1 z0 z1
  have p02 := bt_2 a0 b0 a2 b2 z0 z2
  have p12 := bt_2 a1 b1 a2 b2 z1 z2
  have e : 840 * (s0 + s1 + s2) * (s0 + s1 + s2) = 840 * (s0 * s0) + 840 * (s1 * s1) + 840 * (s2 * s2) + 840 * (2 * (s0 * s1)) + 840 * (2 * (s0 * s2)) + 840 * (2 * (s1 * s2)) := by
    rw [Int.mul_assoc]
    simp only [Int.add_mul, Int.mul_add, Int.mul_comm s1 s0, Int.mul_comm s2 s0, Int.mul_comm s2 s1]
    omega
  rw [e]
  simp only [Int.add_mul, Int.mul_add]
  omega
/-- the spread between three parts -/
def bX (n s : Int32 → Int) : Int := s 0 * s 0 * (840 / max 1 (n 0)) + s 1 * s 1 * (840 / max 1 (n 1)) + s 2 * s 2 * (840 / max 1 (n 2))
def bC (n : Int32 → Int) : Int := max 1 (n 0) * max 1 (n 1) * max 1 (n 2)
def bY (n s : Int32 → Int) : Int := s 0 * s 0 * (bC n / max 1 (n 0)) + s 1 * s 1 * (bC n / max 1 (n 1)) + s 2 * s 2 * (bC n / max 1 (n 2))
theorem bt_all {u : Bool} {n s : Int32 → Int} {N S : Int} (a : ∀ k, 0 ≤ n k ∧ n k ≤ 8) (z : ∀ k, n k = 0 → s k = 0) (eN : N = n 0 + n 1 + n 2) (eS : S = s 0 + s 1 + s 2) (n1 : 1 ≤ N) : 0 ≤ N * bX n s - 840 * S * S ∧ 0 ≤ N * bY n s - S * S * bC n ∧ ltv u (N * bY n s - S * S * bC n) (N * N * bC n) = ltv u (N * bX n s - 840 * S * S) (840 * N * N) := by
  have m : ∀ k, 1 ≤ max 1 (n k) ∧ max 1 (n k) ≤ 8 := fun k => by have := a k; omega
  have h : bX n s * bC n = 840 * bY n s := bt_x (m 0).1 (m 0).2 (m 1).1 (m 1).2 (m 2).1 (m 2).2
  have p : 0 ≤ N * bX n s - 840 * S * S := by
    rw [eN, eS]
    exact bt_p (a 0).1 (a 0).2 (a 1).1 (a 1).2 (a 2).1 (a 2).2 (z 0) (z 1) (z 2)
  have c1 : 1 ≤ bC n := by
    have q : 1 * 1 ≤ max 1 (n 0) * max 1 (n 1) := Int.mul_le_mul (m 0).1 (m 1).1 (by decide) (by have := m 0; omega)
    have r : 1 * 1 ≤ max 1 (n 0) * max 1 (n 1) * max 1 (n 2) := Int.mul_le_mul q (m 2).1 (by decide) (by omega)
    exact r
  have q : 0 ≤ N * bY n s - S * S * bC n := by
    have f := bt_f (N := N) (S := S) h
    have g : 0 ≤ (N * bX n s - 840 * S * S) * bC n := Int.mul_nonneg p (by omega)
    rw [← f] at g
    omega
  exact ⟨p, q, bt_g h n1 c1 p q⟩
/-- all parts together -/
theorem cn_3 {m : Nat → Int32} : ∀ {n : Nat}, (∀ j, j < n → m j = 0 ∨ m j = 1 ∨ m j = 2) → isum (cnf m 0) n + isum (cnf m 1) n + isum (cnf m 2) n = n
  | 0, _ => rfl
  | n + 1, h => by
    have ih := cn_3 (m := m) (n := n) (fun j hj => h j (by omega))
    show isum (cnf m 0) n + cnf m 0 n + (isum (cnf m 1) n + cnf m 1 n) + (isum (cnf m 2) n + cnf m 2 n) = ((n + 1 : Nat) : Int)
    have e : cnf m 0 n + cnf m 1 n + cnf m 2 n = 1 := by
      unfold cnf
      rcases h n (by omega) with q | q | q <;> rw [q] <;> decide
    omega
theorem sm_3 {m g : Nat → Int32} : ∀ {n : Nat}, (∀ j, j < n → m j = 0 ∨ m j = 1 ∨ m j = 2) → isum (smf m g 0) n + isum (smf m g 1) n + isum (smf m g 2) n = isum (tI g) n
  | 0, _ => rfl
  | n + 1, h => by
    have ih := sm_3 (m := m) (g := g) (n := n) (fun j hj => h j (by omega))
    show isum (smf m g 0) n + smf m g 0 n + (isum (smf m g 1) n + smf m g 1 n) + (isum (smf m g 2) n + smf m g 2 n) = isum (tI g) n + (g n).toInt
    have e : smf m g 0 n + smf m g 1 n + smf m g 2 n = (g n).toInt := by
      unfold smf
      rcases h n (by omega) with q | q | q <;> rw [q] <;> simp
    omega
theorem sm_z {m g : Nat → Int32} {p : Int32} : ∀ {n : Nat}, isum (cnf m p) n = 0 → isum (smf m g p) n = 0
  | 0, _ => rfl
  | n + 1, h => by
    have b := isum_b (g := cnf m p) (c := 1) (n := n) (fun _ _ => cn_b)
    have c := cn_b (m := m) (p := p) (j := n)
    have h : isum (cnf m p) n + cnf m p n = 0 := h
    have ih := sm_z (m := m) (g := g) (p := p) (n := n) (by omega)
    show isum (smf m g p) n + smf m g p n = 0
    have e : smf m g p n = 0 := by
      by_cases q : m n = p
      · have w : cnf m p n = 1 := if_pos q
        omega
      · exact if_neg q
    omega
