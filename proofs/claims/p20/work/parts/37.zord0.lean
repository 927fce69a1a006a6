/-! order: the breaks, pure -/
def cuI (W : Nat → Int) (k : Nat) : Int := isum W k
def chI (E W : Nat → Int) (k : Nat) : Int := isum (fun j => W j * E j) k
theorem cu_s {W : Nat → Int} {k : Nat} : cuI W (k + 1) = cuI W k + W k := rfl
theorem ch_s {E W : Nat → Int} {k : Nat} : chI E W (k + 1) = chI E W k + W k * E k := rfl
theorem cu_m {W : Nat → Int} {n : Nat} (hW : ∀ j, j < n → 1 ≤ W j) : ∀ {k r : Nat}, k + r ≤ n → cuI W k + r ≤ cuI W (k + r)
  | k, 0, _ => by show cuI W k + 0 ≤ cuI W k; omega
  | k, r + 1, h => by
    have ih := cu_m hW (k := k) (r := r) (by omega)
    have w := hW (k + r) (by omega)
    show cuI W k + ((r + 1 : Nat) : Int) ≤ cuI W (k + r) + W (k + r)
    omega
theorem cu_lt {W : Nat → Int} {n i j : Nat} (hW : ∀ j, j < n → 1 ≤ W j) (h : i < j) (hj : j ≤ n) : cuI W i < cuI W j := by
  have := cu_m hW (k := i) (r := j - i) (by omega)
  rw [show i + (j - i) = j by omega] at this
  omega
theorem cu_le {W : Nat → Int} {n i j : Nat} (hW : ∀ j, j < n → 1 ≤ W j) (h : i ≤ j) (hj : j ≤ n) : cuI W i ≤ cuI W j := by
  have := cu_m hW (k := i) (r := j - i) (by omega)
  rw [show i + (j - i) = j by omega] at this
  omega
/-- what the first have, read off at the piece in which x lies -/
theorem hs_pre {E W : Nat → Int} {m x : Int} (hm : 0 ≤ m) {n : Nat} (hW : ∀ j, j < n → 1 ≤ W j) : ∀ {k : Nat}, k ≤ n → cuI W k * m ≤ x → hsL W m x k = x - cuI W k * m ∧ hsH E W m x k = chI E W k * m
  | 0, _, _ => ⟨by show x = x - 0 * m; omega, by show (0 : Int) = 0 * m; omega⟩
  | k + 1, h, hx => by
    have w := hW k (by omega)
    have p : 0 ≤ W k * m := Int.mul_nonneg (by omega) hm
    have e : cuI W (k + 1) * m = cuI W k * m + W k * m := by rw [cu_s, Int.add_mul]
    have ih := hs_pre (E := E) (x := x) hm hW (k := k) (by omega) (by omega)
    have t : min (x - cuI W k * m) (W k * m) = W k * m := by omega
    rw [hsL_s, hsH_s, ih.1, ih.2, t, e]
    refine ⟨by omega, ?_⟩
    rw [ch_s, Int.add_mul, Int.mul_assoc, Int.mul_assoc, Int.mul_comm m (E k)]
theorem hs_at {E W : Nat → Int} {m x : Int} (hm : 0 ≤ m) {n p : Nat} (hW : ∀ j, j < n → 1 ≤ W j) (hp : p < n) (h1 : cuI W p * m ≤ x) (h2 : x ≤ cuI W (p + 1) * m) : hsH E W m x n = chI E W p * m + (x - cuI W p * m) * E p := by
  have e := hs_pre (E := E) hm hW (k := p) (by omega) h1
  have c : cuI W (p + 1) * m = cuI W p * m + W p * m := by rw [cu_s, Int.add_mul]
  have t : min (x - cuI W p * m) (W p * m) = x - cuI W p * m := by omega
  have l : hsL W m x (p + 1) = 0 := by rw [hsL_s, e.1, t]; omega
  have Z := hs_z (E := E) l hm (r := n - (p + 1)) (fun j hj => by have := hW j (by omega); omega)
  rw [show p + 1 + (n - (p + 1)) = n by omega] at Z
  rw [Z.2, hsH_s, e.1, e.2, t]
theorem hs_h {E W : Nat → Int} {m x c : Int} (hc : 0 ≤ c) : ∀ {k : Nat}, hsL W (c * m) (c * x) k = c * hsL W m x k ∧ hsH E W (c * m) (c * x) k = c * hsH E W m x k
  | 0 => ⟨rfl, by show (0 : Int) = c * 0; omega⟩
  | k + 1 => by
    have ih := hs_h (E := E) (W := W) (m := m) (x := x) hc (k := k)
    have w : W k * (c * m) = c * (W k * m) := by ac_rfl
    have t : min (c * hsL W m x k) (c * (W k * m)) = c * min (hsL W m x k) (W k * m) := by
      by_cases q : hsL W m x k ≤ W k * m
      · have := Int.mul_le_mul_of_nonneg_left q hc
        rw [show min (hsL W m x k) (W k * m) = hsL W m x k by omega]
        omega
      · have := Int.mul_le_mul_of_nonneg_left (show W k * m ≤ hsL W m x k by omega) hc
        rw [show min (hsL W m x k) (W k * m) = W k * m by omega]
        omega
    rw [hsL_s, hsL_s, hsH_s, hsH_s, ih.1, ih.2, w, t, Int.mul_sub, Int.mul_add, Int.mul_assoc]
    exact ⟨rfl, rfl⟩
def anyB (f : Nat → Bool) (n : Nat) : Bool := match n with
  | 0 => false
  | n + 1 => anyB f n || f n
theorem any_i {f : Nat → Bool} : ∀ {n : Nat}, anyB f n = true ↔ ∃ k, k < n ∧ f k = true
  | 0 => ⟨fun h => (Bool.false_ne_true h).elim, fun ⟨k, h, _⟩ => absurd h (Nat.not_lt_zero k)⟩
  | n + 1 => by
    show (anyB f n || f n) = true ↔ _
    rw [Bool.or_eq_true, any_i]
    refine ⟨fun h => ?_, fun ⟨k, hk, hf⟩ => ?_⟩
    · rcases h with ⟨k, hk, hf⟩ | h
      · exact ⟨k, by omega, hf⟩
      · exact ⟨n, by omega, h⟩
    · by_cases e : k = n
      · rw [e] at hf; exact Or.inr hf
      · exact Or.inl ⟨k, by omega, hf⟩
