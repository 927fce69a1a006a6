/-! locals -/
def ck_at (L : ck_C) (k : Nat) : Option ck_A := match L, k with
  | [], _ => none
  | a :: _, 0 => a
  | _ :: t, k + 1 => ck_at t k
theorem ck_at_ok {ρ : Nat → Int} {n : Nat} : ∀ {A : ck_C} {L : ab_L} {k : Nat} {a : ck_A}, ck_l ρ n A L → ck_at A k = some a → ∃ w, ab_at L k = some w ∧ ck_v ρ n a w
  | [], _, _, _, _, h => by cases h
  | _ :: _, [], _, _, h, _ => h.elim
  | b :: _, v :: _, 0, a, h, e => by
    have e : b = some a := e
    subst e
    obtain ⟨w, e1, hw⟩ := h.1
    exact ⟨w, e1, hw⟩
  | _ :: _, _ :: _, k + 1, _, h, e => ck_at_ok (k := k) h.2 e
def ck_kil (a : Option ck_A) : Option ck_A := match a with
  | some (.inl (.inr (.inl _))) => none
  | some (.inl (.inl x)) => some (.inl (.inl x))
  | some (.inl (.inr (.inr x))) => some (.inl (.inr (.inr x)))
  | some (.inr o) => some (.inr o)
  | none => none
def ck_s1 (L : ck_C) (k : Nat) (v : ck_A) : ck_C := match L, k with
  | [], _ => []
  | _ :: t, 0 => some v :: t
  | a :: t, k + 1 => (if k = 0 then ck_kil a else a) :: ck_s1 t k v
def ck_s2 (L : ck_C) (k : Nat) (v : ck_A) : ck_C := match L, k with
  | [], _ => []
  | _ :: [], 0 => []
  | _ :: _ :: t, 0 => some v :: none :: t
  | a :: t, k + 1 => (if k = 0 then ck_kil a else a) :: ck_s2 t k v
theorem ck_kil_ok {ρ : Nat → Int} {n : Nat} {a : Option ck_A} {v : Option ab_V} (h : ck_o ρ n a v) : ck_o ρ n (ck_kil a) (ab_kil v) := by
  rcases a with _ | ((q | q | q) | (_ | q))
  · trivial
  · obtain ⟨w, rfl, x, rfl, hx⟩ := h
    exact ⟨_, rfl, x, rfl, hx⟩
  · trivial
  · obtain ⟨w, rfl, x, y, rfl, hx⟩ := h
    exact ⟨_, rfl, x, y, rfl, hx⟩
  · obtain ⟨w, rfl, rfl⟩ := h
    exact ⟨_, rfl, rfl⟩
  · obtain ⟨w, rfl, x, rfl, hx⟩ := h
    exact ⟨_, rfl, x, rfl, hx⟩
theorem ck_s1_ok {ρ : Nat → Int} {n : Nat} {a : ck_A} {v : ab_V} (ha : ck_v ρ n a v) : ∀ {A : ck_C} {L : ab_L} {k : Nat}, ck_l ρ n A L → ck_l ρ n (ck_s1 A k a) (ab_s1 L k v)
  | [], [], _, _ => trivial
  | [], _ :: _, _, h => h.elim
  | _ :: _, [], _, h => h.elim
  | _ :: _, _ :: _, 0, h => ⟨⟨v, rfl, ha⟩, h.2⟩
  | b :: _, w :: _, k + 1, h => by
    refine ⟨?_, ck_s1_ok ha h.2⟩
    by_cases hk : k = 0
    · rw [if_pos hk, if_pos hk]
      exact ck_kil_ok h.1
    · rw [if_neg hk, if_neg hk]
      exact h.1
theorem ck_s2_ok {ρ : Nat → Int} {n : Nat} {a : ck_A} {v : ab_V} (ha : ck_v ρ n a v) : ∀ {A : ck_C} {L : ab_L} {k : Nat}, ck_l ρ n A L → ck_l ρ n (ck_s2 A k a) (ab_s2 L k v)
  | [], [], _, _ => trivial
  | [], _ :: _, _, h => h.elim
  | _ :: _, [], _, h => h.elim
  | [_], [_], 0, _ => trivial
  | _ :: _ :: _, [_], 0, h => h.2.elim
  | [_], _ :: _ :: _, 0, h => h.2.elim
  | _ :: _ :: _, _ :: _ :: _, 0, h => ⟨⟨v, rfl, ha⟩, trivial, h.2.2⟩
  | [b], [w], k + 1, h => by
    refine ⟨?_, ck_s2_ok ha h.2⟩
    by_cases hk : k = 0
    · rw [if_pos hk, if_pos hk]
      exact ck_kil_ok h.1
    · rw [if_neg hk, if_neg hk]
      exact h.1
  | b :: _ :: _, w :: _ :: _, k + 1, h => by
    refine ⟨?_, ck_s2_ok ha h.2⟩
    by_cases hk : k = 0
    · rw [if_pos hk, if_pos hk]
      exact ck_kil_ok h.1
    · rw [if_neg hk, if_neg hk]
      exact h.1
  | [_], _ :: _ :: _, _ + 1, h => h.2.elim
  | _ :: _ :: _, [_], _ + 1, h => h.2.elim
/-! a result: an old number moved, or a new one within ends -/
abbrev ck_R : Type := ck_I ⊕ (Int × Int)
def ck_r (ρ : Nat → Int) (n : Nat) (r : ck_R) (z : Int) : Prop := match r with
  | .inl q => ck_q ρ n q z
  | .inr p => p.1 ≤ z ∧ z ≤ p.2
def ck_pu (r : ck_R) (lg : Bool) (n : Nat) (e : ck_E) (A : ck_C) (st : List ck_A) (K : ck_S → Bool) : Bool := match r with
  | .inl q => ck_fI q.2 (fun o => K (n, e, A, (match lg with | true => .inl (.inr (.inl (q.1, o))) | false => .inl (.inl (q.1, o))) :: st))
  | .inr p => ck_fI p.1 (fun lo => ck_fI p.2 (fun hi => ck_fN (n + 1) (fun m => K (m, (n, lo, hi, false) :: e, A, (match lg with | true => .inl (.inr (.inl (n, 0))) | false => .inl (.inl (n, 0))) :: st))))
def ck_ρ (ρ : Nat → Int) (n : Nat) (z : Int) : Nat → Int := fun k => if k = n then z else ρ k
theorem ck_ρx {ρ : Nat → Int} {n : Nat} {z : Int} : ck_x n (n + 1) ρ (ck_ρ ρ n z) := ⟨Nat.le_succ n, fun i hi => if_neg (Nat.ne_of_lt hi)⟩
theorem ck_ρn {ρ : Nat → Int} {n : Nat} {z : Int} : ck_ρ ρ n z n = z := if_pos rfl
theorem ck_m.fresh {ρ : Nat → Int} {n : Nat} {e : ck_E} {A : ck_C} {st : List ck_A} {L : ab_L} {u : List ab_V} {z lo hi : Int} {nz : Bool} (h : ck_m ρ (n, e, A, st) L u) (h1 : lo ≤ z) (h2 : z ≤ hi) (h3 : nz = true → z ≠ 0) : ck_m (ck_ρ ρ n z) (n + 1, (n, lo, hi, nz) :: e, A, st) L u := by
  obtain ⟨h0, hr, he, hl, hk⟩ := h
  refine ⟨Nat.succ_pos n, (ck_ρx.2 0 h0).trans hr, ?_, hl.up ck_ρx, hk.up ck_ρx⟩
  intro q hq
  rcases List.mem_cons.mp hq with rfl | hq
  · refine ⟨Nat.lt_succ_self n, ?_, ?_, ?_⟩
    · show lo ≤ ck_ρ ρ n z n
      rw [ck_ρn]; exact h1
    · show ck_ρ ρ n z n ≤ hi
      rw [ck_ρn]; exact h2
    · show nz = true → ck_ρ ρ n z n ≠ 0
      rw [ck_ρn]; exact h3
  · exact he.up ck_ρx q hq
theorem ck_m.push {ρ : Nat → Int} {n : Nat} {e : ck_E} {A : ck_C} {st : List ck_A} {L : ab_L} {u : List ab_V} {a : ck_A} {v : ab_V} (h : ck_m ρ (n, e, A, st) L u) (hv : ck_v ρ n a v) : ck_m ρ (n, e, A, a :: st) L (v :: u) := ⟨h.1, h.2.1, h.2.2.1, h.2.2.2.1, hv, h.2.2.2.2⟩
theorem ck_pu_i {ρ : Nat → Int} {n : Nat} {e : ck_E} {A : ck_C} {st : List ck_A} {L : ab_L} {u : List ab_V} {r : ck_R} {x : Int32} {K : ck_S → Bool} (h : ck_pu r false n e A st K = true) (hm : ck_m ρ (n, e, A, st) L u) (hr : ck_r ρ n r x.toInt) : ∃ s' ρ', K s' = true ∧ ck_x n s'.1 ρ ρ' ∧ ck_m ρ' s' L (.inl (.inl x) :: u) := by
  cases r with
  | inl q =>
    simp only [ck_pu, ck_fI_eq] at h
    exact ⟨_, ρ, h, ck_x.rf, hm.push ⟨x, rfl, hr⟩⟩
  | inr p =>
    simp only [ck_pu, ck_fI_eq, ck_fN_eq] at h
    exact ⟨_, ck_ρ ρ n x.toInt, h, ck_ρx, (hm.fresh hr.1 hr.2 (fun h => by cases h)).push ⟨x, rfl, Nat.lt_succ_self n, by rw [ck_ρn]; omega⟩⟩
theorem ck_pu_l {ρ : Nat → Int} {n : Nat} {e : ck_E} {A : ck_C} {st : List ck_A} {L : ab_L} {u : List ab_V} {r : ck_R} {x : Int64} {K : ck_S → Bool} (h : ck_pu r true n e A st K = true) (hm : ck_m ρ (n, e, A, st) L u) (hr : ck_r ρ n r x.toInt) : ∃ s' ρ', K s' = true ∧ ck_x n s'.1 ρ ρ' ∧ ck_m ρ' s' L (.inl (.inr x) :: u) := by
  cases r with
  | inl q =>
    simp only [ck_pu, ck_fI_eq] at h
    exact ⟨_, ρ, h, ck_x.rf, hm.push ⟨x, rfl, hr⟩⟩
  | inr p =>
    simp only [ck_pu, ck_fI_eq, ck_fN_eq] at h
    exact ⟨_, ck_ρ ρ n x.toInt, h, ck_ρx, (hm.fresh hr.1 hr.2 (fun h => by cases h)).push ⟨x, rfl, Nat.lt_succ_self n, by rw [ck_ρn]; omega⟩⟩
/-! numbers -/
def ck_add (e : ck_E) (q1 q2 : ck_I) (mn mx : Int) (f : ck_R → Bool) : Bool :=
  ck_rg e q1 (fun l1 h1 _ => ck_rg e q2 (fun l2 h2 _ =>
    if decide (mn ≤ l1 + l2) && decide (h1 + h2 ≤ mx) then
      (if q1.1 == 0 then f (.inl (q2.1, q1.2 + q2.2)) else if q2.1 == 0 then f (.inl (q1.1, q1.2 + q2.2)) else f (.inr (l1 + l2, h1 + h2)))
    else f (.inr (mn, mx))))
theorem ck_add_ok {ρ : Nat → Int} {n : Nat} {e : ck_E} {q1 q2 : ck_I} {mn mx a b z : Int} {f : ck_R → Bool} (h : ck_add e q1 q2 mn mx f = true) (h0 : ρ 0 = 0) (he : ck_en ρ n e) (h1 : ck_q ρ n q1 a) (h2 : ck_q ρ n q2 b) (z1 : mn ≤ z) (z2 : z ≤ mx) (hz : mn ≤ a + b → a + b ≤ mx → z = a + b) : ∃ r, f r = true ∧ ck_r ρ n r z := by
  obtain ⟨l1, u1, _, h, a1, a2, _⟩ := ck_rg_ok h1 h he
  obtain ⟨l2, u2, _, h, b1, b2, _⟩ := ck_rg_ok h2 h he
  by_cases hc : (decide (mn ≤ l1 + l2) && decide (u1 + u2 ≤ mx)) = true
  · rw [if_pos hc] at h
    have hc := (Bool.and_eq_true _ _).mp hc
    have c1 := of_decide_eq_true hc.1
    have c2 := of_decide_eq_true hc.2
    have hz := hz (by omega) (by omega)
    have e1 := h1.2
    have e2 := h2.2
    by_cases d1 : (q1.1 == 0) = true
    · rw [if_pos d1] at h
      have d1 : q1.1 = 0 := by simpa using d1
      rw [d1, h0] at e1
      exact ⟨_, h, h2.1, by show z = ρ q2.1 + (q1.2 + q2.2); omega⟩
    · rw [if_neg d1] at h
      by_cases d2 : (q2.1 == 0) = true
      · rw [if_pos d2] at h
        have d2 : q2.1 = 0 := by simpa using d2
        rw [d2, h0] at e2
        exact ⟨_, h, h1.1, by show z = ρ q1.1 + (q1.2 + q2.2); omega⟩
      · rw [if_neg d2] at h
        exact ⟨_, h, by show l1 + l2 ≤ z; omega, by show z ≤ u1 + u2; omega⟩
  · rw [if_neg hc] at h
    exact ⟨_, h, z1, z2⟩
def ck_sub (e : ck_E) (q1 q2 : ck_I) (mn mx : Int) (f : ck_R → Bool) : Bool :=
  ck_rg e q1 (fun l1 h1 _ => ck_rg e q2 (fun l2 h2 _ =>
    if decide (mn ≤ l1 - h2) && decide (h1 - l2 ≤ mx) then
      (if q2.1 == 0 then f (.inl (q1.1, q1.2 - q2.2)) else f (.inr (l1 - h2, h1 - l2)))
    else f (.inr (mn, mx))))
theorem ck_sub_ok {ρ : Nat → Int} {n : Nat} {e : ck_E} {q1 q2 : ck_I} {mn mx a b z : Int} {f : ck_R → Bool} (h : ck_sub e q1 q2 mn mx f = true) (h0 : ρ 0 = 0) (he : ck_en ρ n e) (h1 : ck_q ρ n q1 a) (h2 : ck_q ρ n q2 b) (z1 : mn ≤ z) (z2 : z ≤ mx) (hz : mn ≤ a - b → a - b ≤ mx → z = a - b) : ∃ r, f r = true ∧ ck_r ρ n r z := by
  obtain ⟨l1, u1, _, h, a1, a2, _⟩ := ck_rg_ok h1 h he
  obtain ⟨l2, u2, _, h, b1, b2, _⟩ := ck_rg_ok h2 h he
  by_cases hc : (decide (mn ≤ l1 - u2) && decide (u1 - l2 ≤ mx)) = true
  · rw [if_pos hc] at h
    have hc := (Bool.and_eq_true _ _).mp hc
    have c1 := of_decide_eq_true hc.1
    have c2 := of_decide_eq_true hc.2
    have hz := hz (by omega) (by omega)
    have e1 := h1.2
    have e2 := h2.2
    by_cases d2 : (q2.1 == 0) = true
    · rw [if_pos d2] at h
      have d2 : q2.1 = 0 := by simpa using d2
      rw [d2, h0] at e2
      exact ⟨_, h, h1.1, by show z = ρ q1.1 + (q1.2 - q2.2); omega⟩
    · rw [if_neg d2] at h
      exact ⟨_, h, by show l1 - u2 ≤ z; omega, by show z ≤ u1 - l2; omega⟩
  · rw [if_neg hc] at h
    exact ⟨_, h, z1, z2⟩
def ck_mul (e : ck_E) (q1 q2 : ck_I) (mn mx : Int) (f : ck_R → Bool) : Bool :=
  ck_rg e q1 (fun l1 h1 _ => ck_rg e q2 (fun l2 h2 _ =>
    if decide (0 ≤ l1) && decide (0 ≤ l2) && decide (h1 * h2 ≤ mx) then f (.inr (l1 * l2, h1 * h2)) else f (.inr (mn, mx))))
theorem ck_mul_ok {ρ : Nat → Int} {n : Nat} {e : ck_E} {q1 q2 : ck_I} {mn mx a b z : Int} {f : ck_R → Bool} (h : ck_mul e q1 q2 mn mx f = true) (he : ck_en ρ n e) (h1 : ck_q ρ n q1 a) (h2 : ck_q ρ n q2 b) (h9 : mn ≤ 0) (z1 : mn ≤ z) (z2 : z ≤ mx) (hz : mn ≤ a * b → a * b ≤ mx → z = a * b) : ∃ r, f r = true ∧ ck_r ρ n r z := by
  obtain ⟨l1, u1, _, h, a1, a2, _⟩ := ck_rg_ok h1 h he
  obtain ⟨l2, u2, _, h, b1, b2, _⟩ := ck_rg_ok h2 h he
  by_cases hc : (decide (0 ≤ l1) && decide (0 ≤ l2) && decide (u1 * u2 ≤ mx)) = true
  · rw [if_pos hc] at h
    have hc := (Bool.and_eq_true _ _).mp hc
    have hc1 := (Bool.and_eq_true _ _).mp hc.1
    have c1 := of_decide_eq_true hc1.1
    have c2 := of_decide_eq_true hc1.2
    have c3 := of_decide_eq_true hc.2
    have m1 : l1 * l2 ≤ a * b := Int.mul_le_mul a1 b1 c2 (Int.le_trans c1 a1)
    have m2 : a * b ≤ u1 * u2 := Int.mul_le_mul a2 b2 (Int.le_trans c2 b1) (Int.le_trans (Int.le_trans c1 a1) a2)
    have m3 : 0 ≤ l1 * l2 := Int.mul_nonneg c1 c2
    have hz := hz (by omega) (by omega)
    exact ⟨_, h, by show l1 * l2 ≤ z; omega, by show z ≤ u1 * u2; omega⟩
  · rw [if_neg hc] at h
    exact ⟨_, h, z1, z2⟩
/-- the divisor is not 0 -/
def ck_nz (e : ck_E) (q : ck_I) : Bool := ck_rg e q (fun l h z => decide (0 < l) || decide (h < 0) || z)
theorem ck_nz_ok {ρ : Nat → Int} {n : Nat} {e : ck_E} {q : ck_I} {a : Int} (h : ck_nz e q = true) (he : ck_en ρ n e) (h1 : ck_q ρ n q a) : a ≠ 0 := by
  obtain ⟨l, u, z, h, a1, a2, a3⟩ := ck_rg_ok h1 h he
  rcases (Bool.or_eq_true _ _).mp h with h | h
  · rcases (Bool.or_eq_true _ _).mp h with h | h
    · have := of_decide_eq_true h
      omega
    · have := of_decide_eq_true h
      omega
  · exact a3 h
def ck_div (e : ck_E) (q1 q2 : ck_I) (mn mx : Int) (f : ck_R → Bool) : Bool :=
  ck_rg e q1 (fun l1 h1 _ => ck_rg e q2 (fun l2 h2 _ =>
    if decide (0 ≤ l1) && decide (1 ≤ l2) && decide (h1 ≤ mx) then (if l2 == h2 then f (.inr (0, h1 / l2)) else f (.inr (0, h1))) else f (.inr (mn, mx))))
theorem ck_div_ok {ρ : Nat → Int} {n : Nat} {e : ck_E} {q1 q2 : ck_I} {mn mx a b z : Int} {f : ck_R → Bool} (h : ck_div e q1 q2 mn mx f = true) (he : ck_en ρ n e) (h1 : ck_q ρ n q1 a) (h2 : ck_q ρ n q2 b) (h9 : mn ≤ 0) (z1 : mn ≤ z) (z2 : z ≤ mx) (hz : 0 ≤ a → 1 ≤ b → a ≤ mx → z = a / b) : ∃ r, f r = true ∧ ck_r ρ n r z := by
  obtain ⟨l1, u1, _, h, a1, a2, _⟩ := ck_rg_ok h1 h he
  obtain ⟨l2, u2, _, h, b1, b2, _⟩ := ck_rg_ok h2 h he
  by_cases hc : (decide (0 ≤ l1) && decide (1 ≤ l2) && decide (u1 ≤ mx)) = true
  · rw [if_pos hc] at h
    have hc := (Bool.and_eq_true _ _).mp hc
    have hc1 := (Bool.and_eq_true _ _).mp hc.1
    have c1 := of_decide_eq_true hc1.1
    have c2 := of_decide_eq_true hc1.2
    have c3 := of_decide_eq_true hc.2
    have hz := hz (by omega) (by omega) (by omega)
    have m1 : 0 ≤ a / b := Int.ediv_nonneg (by omega) (by omega)
    have m2 : a / b ≤ a := Int.ediv_le_self b (by omega)
    by_cases d : (l2 == u2) = true
    · rw [if_pos d] at h
      have d : l2 = u2 := by simpa using d
      have hb : b = l2 := by omega
      have m3 : a / l2 ≤ u1 / l2 := Int.ediv_le_ediv (by omega) a2
      rw [hb] at hz m1
      exact ⟨_, h, by show 0 ≤ z; omega, by show z ≤ u1 / l2; omega⟩
    · rw [if_neg d] at h
      exact ⟨_, h, by show 0 ≤ z; omega, by show z ≤ u1; omega⟩
  · rw [if_neg hc] at h
    exact ⟨_, h, z1, z2⟩
def ck_rem (e : ck_E) (q1 q2 : ck_I) (mn mx : Int) (f : ck_R → Bool) : Bool :=
  ck_rg e q1 (fun l1 h1 _ => ck_rg e q2 (fun l2 h2 _ =>
    if decide (0 ≤ l1) && decide (1 ≤ l2) then f (.inr (0, min h1 (h2 - 1))) else f (.inr (mn, mx))))
theorem ck_rem_ok {ρ : Nat → Int} {n : Nat} {e : ck_E} {q1 q2 : ck_I} {mn mx a b z : Int} {f : ck_R → Bool} (h : ck_rem e q1 q2 mn mx f = true) (he : ck_en ρ n e) (h1 : ck_q ρ n q1 a) (h2 : ck_q ρ n q2 b) (z1 : mn ≤ z) (z2 : z ≤ mx) (hz : 0 ≤ a → 1 ≤ b → z = a % b) : ∃ r, f r = true ∧ ck_r ρ n r z := by
  obtain ⟨l1, u1, _, h, a1, a2, _⟩ := ck_rg_ok h1 h he
  obtain ⟨l2, u2, _, h, b1, b2, _⟩ := ck_rg_ok h2 h he
  by_cases hc : (decide (0 ≤ l1) && decide (1 ≤ l2)) = true
  · rw [if_pos hc] at h
    have hc := (Bool.and_eq_true _ _).mp hc
    have c1 := of_decide_eq_true hc.1
    have c2 := of_decide_eq_true hc.2
    have hz := hz (by omega) (by omega)
    have m1 : 0 ≤ a % b := Int.emod_nonneg a (by omega)
    have m2 : a % b < b := Int.emod_lt_of_pos a (by omega)
    have m3 : a % b ≤ a := by
      have := Int.emod_add_mul_ediv a b
      have h5 : 0 ≤ a / b := Int.ediv_nonneg (by omega) (by omega)
      have h6 : 0 ≤ b * (a / b) := Int.mul_nonneg (by omega) h5
      omega
    exact ⟨_, h, by show 0 ≤ z; omega, by show z ≤ min u1 (u2 - 1); omega⟩
  · rw [if_neg hc] at h
    exact ⟨_, h, z1, z2⟩
def ck_and (e : ck_E) (q1 q2 : ck_I) (mn mx : Int) (f : ck_R → Bool) : Bool :=
  ck_rg e q1 (fun l1 h1 _ => ck_rg e q2 (fun l2 h2 _ =>
    if decide (0 ≤ l2) then f (.inr (0, h2)) else if decide (0 ≤ l1) then f (.inr (0, h1)) else f (.inr (mn, mx))))
theorem ck_and_ok {ρ : Nat → Int} {n : Nat} {e : ck_E} {q1 q2 : ck_I} {mn mx a b z : Int} {f : ck_R → Bool} (h : ck_and e q1 q2 mn mx f = true) (he : ck_en ρ n e) (h1 : ck_q ρ n q1 a) (h2 : ck_q ρ n q2 b) (z1 : mn ≤ z) (z2 : z ≤ mx) (hz1 : 0 ≤ a → 0 ≤ z ∧ z ≤ a) (hz2 : 0 ≤ b → 0 ≤ z ∧ z ≤ b) : ∃ r, f r = true ∧ ck_r ρ n r z := by
  obtain ⟨l1, u1, _, h, a1, a2, _⟩ := ck_rg_ok h1 h he
  obtain ⟨l2, u2, _, h, b1, b2, _⟩ := ck_rg_ok h2 h he
  by_cases c2 : decide (0 ≤ l2) = true
  · rw [if_pos c2] at h
    have c2 := of_decide_eq_true c2
    have := hz2 (by omega)
    exact ⟨_, h, this.1, by show z ≤ u2; omega⟩
  · rw [if_neg c2] at h
    by_cases c1 : decide (0 ≤ l1) = true
    · rw [if_pos c1] at h
      have c1 := of_decide_eq_true c1
      have := hz1 (by omega)
      exact ⟨_, h, this.1, by show z ≤ u1; omega⟩
    · rw [if_neg c1] at h
      exact ⟨_, h, z1, z2⟩
def ck_shl (e : ck_E) (q1 q2 : ck_I) (mn mx : Int) (f : ck_R → Bool) : Bool :=
  ck_rg e q2 (fun l2 h2 _ => if q1.1 == 0 && q1.2 == 1 && decide (0 ≤ l2) && decide (h2 ≤ 30) then f (.inr (((2 ^ l2.toNat : Nat) : Int), ((2 ^ h2.toNat : Nat) : Int))) else f (.inr (mn, mx)))
theorem ck_shl_ok {ρ : Nat → Int} {n : Nat} {e : ck_E} {q1 q2 : ck_I} {mn mx a b z : Int} {f : ck_R → Bool} (h : ck_shl e q1 q2 mn mx f = true) (h0 : ρ 0 = 0) (he : ck_en ρ n e) (h1 : ck_q ρ n q1 a) (h2 : ck_q ρ n q2 b) (z1 : mn ≤ z) (z2 : z ≤ mx) (hz : a = 1 → 0 ≤ b → b ≤ 30 → z = ((2 ^ b.toNat : Nat) : Int)) : ∃ r, f r = true ∧ ck_r ρ n r z := by
  obtain ⟨l2, u2, _, h, b1, b2, _⟩ := ck_rg_ok h2 h he
  by_cases hc : (q1.1 == 0 && q1.2 == 1 && decide (0 ≤ l2) && decide (u2 ≤ 30)) = true
  · rw [if_pos hc] at h
    have k1 := (Bool.and_eq_true _ _).mp hc
    have k2 := (Bool.and_eq_true _ _).mp k1.1
    have k3 := (Bool.and_eq_true _ _).mp k2.1
    have c1 : q1.1 = 0 := by simpa using k3.1
    have c2 : q1.2 = 1 := by simpa using k3.2
    have c3 := of_decide_eq_true k2.2
    have c4 := of_decide_eq_true k1.2
    have e1 := h1.2
    rw [c1, h0, c2] at e1
    have hz := hz (by omega) (by omega) (by omega)
    have m1 : 2 ^ l2.toNat ≤ 2 ^ b.toNat := Nat.pow_le_pow_right (by decide) (by omega)
    have m2 : 2 ^ b.toNat ≤ 2 ^ u2.toNat := Nat.pow_le_pow_right (by decide) (by omega)
    exact ⟨_, h, by show ((2 ^ l2.toNat : Nat) : Int) ≤ z; rw [hz]; exact Int.ofNat_le.mpr m1, by show z ≤ ((2 ^ u2.toNat : Nat) : Int); rw [hz]; exact Int.ofNat_le.mpr m2⟩
  · rw [if_neg hc] at h
    exact ⟨_, h, z1, z2⟩
