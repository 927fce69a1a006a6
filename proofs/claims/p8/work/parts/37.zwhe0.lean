/-! where: the breaks in order, pure -/
def srB (A B : Nat → Int) (n : Nat) : Prop := ∀ i j, i < j → j < n → A i * B j ≤ A j * B i
theorem plB_lo {A B : Nat → Int} {u w : Int} (hw : 0 ≤ w) : ∀ {n : Nat}, srB A B n → (∀ j, j < n → 0 < B j) → ∀ j, j < plB A B u w n → A j * w ≤ u * B j
  | 0, _, _ => fun j hj => absurd hj (Nat.not_lt_zero j)
  | n + 1, hs, hB => fun j hj => by
    unfold plB at hj
    by_cases a : u * B n < A n * w
    · rw [if_pos a] at hj
      exact plB_lo hw (fun i k h1 h2 => hs i k h1 (by omega)) (fun k hk => hB k (by omega)) j hj
    · rw [if_neg a] at hj
      have a : A n * w ≤ u * B n := by omega
      by_cases e : j = n
      · rw [e]; exact a
      · have s := hs j n (by omega) (by omega)
        have bn := hB n (by omega)
        have bj := hB j (by omega)
        refine Int.le_of_mul_le_mul_right (a := B n) ?_ bn
        have s1 : A j * B n * w ≤ A n * B j * w := Int.mul_le_mul_of_nonneg_right s hw
        have s2 : A n * w * B j ≤ u * B n * B j := Int.mul_le_mul_of_nonneg_right a (by omega)
        calc A j * w * B n = A j * B n * w := by ac_rfl
          _ ≤ A n * B j * w := s1
          _ = A n * w * B j := by ac_rfl
          _ ≤ u * B n * B j := s2
          _ = u * B j * B n := by ac_rfl
theorem plB_hi {A B : Nat → Int} {u w : Int} : ∀ {n : Nat} (j : Nat), plB A B u w n ≤ j → j < n → u * B j < A j * w
  | 0, j, _, hj => absurd hj (Nat.not_lt_zero j)
  | n + 1, j, hp, hj => by
    unfold plB at hp
    by_cases a : u * B n < A n * w
    · rw [if_pos a] at hp
      by_cases e : j = n
      · rw [e]; exact a
      · exact plB_hi j hp (by omega)
    · rw [if_neg a] at hp
      omega
theorem sr_ins {A B : Nat → Int} {u w : Int} {n : Nat} (hw : 0 ≤ w) (hs : srB A B n) (hB : ∀ j, j < n → 0 < B j) : srB (ins A (plB A B u w n) u) (ins B (plB A B u w n) w) (n + 1) := fun i j hij hj => by
  have lo := plB_lo (u := u) hw hs hB
  have hi := plB_hi (A := A) (B := B) (u := u) (w := w) (n := n)
  have pl := plB_le (A := A) (B := B) (u := u) (w := w) (n := n)
  generalize plB A B u w n = p at lo hi pl ⊢
  unfold ins
  by_cases a : i < p
  · rw [if_pos a, if_pos a]
    by_cases b : j < p
    · rw [if_pos b, if_pos b]; exact hs i j hij (by omega)
    · rw [if_neg b, if_neg b]
      by_cases c : j = p
      · rw [if_pos c, if_pos c]; exact lo i a
      · rw [if_neg c, if_neg c]; exact hs i (j - 1) (by omega) (by omega)
  · rw [if_neg a, if_neg a, if_neg (show ¬ j < p by omega), if_neg (show ¬ j < p by omega), if_neg (show ¬ j = p by omega), if_neg (show ¬ j = p by omega)]
    by_cases c : i = p
    · rw [if_pos c, if_pos c]
      have := hi (j - 1) (by omega) (by omega)
      omega
    · rw [if_neg c, if_neg c]; exact hs (i - 1) (j - 1) (by omega) (by omega)
theorem sr_bk {u w : Nat → Int} : ∀ {n : Nat}, (∀ j, j < n → 0 < w j) → srB (bkS u w n).1 (bkS u w n).2 n
  | 0, _ => fun i j _ hj => absurd hj (Nat.not_lt_zero j)
  | n + 1, h => sr_ins (by have := h n (by omega); omega) (sr_bk (fun j hj => h j (by omega))) (bk_all (Q := fun _ b => 0 < b) (fun j hj => h j (by omega)))
/-- the first break at which it holds, as the reference tells it -/
def rwF (b : Bool) (A B : Nat → Int) (f : Nat → Bool) (k r : Nat) : Int32 := match r with
  | 0 => -9
  | r + 1 => if f k = true then (Int64.ofInt (ltv b (A k) (B k))).toInt32 else rwF b A B f (k + 1) r
theorem rw_cs {b : Bool} {A B : Nat → Int} {f : Nat → Bool} : ∀ {r k : Nat}, (rwF b A B f k r = -9 ∧ ∀ j, k ≤ j → j < k + r → f j = false) ∨ ∃ m, k ≤ m ∧ m < k + r ∧ f m = true ∧ (∀ j, k ≤ j → j < m → f j = false) ∧ rwF b A B f k r = (Int64.ofInt (ltv b (A m) (B m))).toInt32
  | 0, k => Or.inl ⟨rfl, fun j h1 h2 => by omega⟩
  | r + 1, k => by
    show ((if f k = true then (Int64.ofInt (ltv b (A k) (B k))).toInt32 else rwF b A B f (k + 1) r) = -9 ∧ _) ∨ ∃ m, k ≤ m ∧ m < k + (r + 1) ∧ f m = true ∧ (∀ j, k ≤ j → j < m → f j = false) ∧ (if f k = true then (Int64.ofInt (ltv b (A k) (B k))).toInt32 else rwF b A B f (k + 1) r) = _
    by_cases a : f k = true
    · rw [if_pos a]
      exact Or.inr ⟨k, by omega, by omega, a, fun j h1 h2 => by omega, rfl⟩
    · rw [if_neg a]
      have a : f k = false := by
        cases e : f k with
        | false => rfl
        | true => exact absurd e a
      rcases rw_cs (b := b) (A := A) (B := B) (f := f) (r := r) (k := k + 1) with ⟨h1, h2⟩ | ⟨m, h1, h2, h3, h4, h5⟩
      · refine Or.inl ⟨h1, fun j q1 q2 => ?_⟩
        by_cases e : j = k
        · rw [e]; exact a
        · exact h2 j (by omega) (by omega)
      · refine Or.inr ⟨m, by omega, by omega, h3, fun j q1 q2 => ?_, h5⟩
        by_cases e : j = k
        · rw [e]; exact a
        · exact h4 j (by omega) (by omega)
/-- what the walk's first place is -/
def fmC (f : Int → Bool) (C1 C2 : Nat → Int) (n1 n2 p1 p2 : Nat) (y : Int64) : Prop := (y = -9 ∧ remB f C1 C2 n1 n2 p1 p2 = false) ∨ (f y.toInt = true ∧ ((∃ k, p1 ≤ k ∧ k < n1 ∧ C1 k = y.toInt) ∨ ∃ k, p2 ≤ k ∧ k < n2 ∧ C2 k = y.toInt) ∧ (∀ k, p1 ≤ k → k < n1 → f (C1 k) = true → y.toInt ≤ C1 k) ∧ ∀ k, p2 ≤ k → k < n2 → f (C2 k) = true → y.toInt ≤ C2 k)
theorem fm_s {f : Int → Bool} {C1 C2 : Nat → Int} {n1 n2 p1 p2 p1' p2' : Nat} {x : Int} {y : Int64} (h1 : p1 < n1) (h2 : p2 < n2) (hx : x = min (C1 p1) (C2 p2)) (e1 : p1' = (if C1 p1 = x then p1 + 1 else p1)) (e2 : p2' = (if C2 p2 = x then p2 + 1 else p2)) (hf : f x = false) (h : fmC f C1 C2 n1 n2 p1' p2' y) : fmC f C1 C2 n1 n2 p1 p2 y := by
  have l1 : p1 ≤ p1' := by rw [e1]; split <;> omega
  have l2 : p2 ≤ p2' := by rw [e2]; split <;> omega
  rcases h with ⟨k1, k2⟩ | ⟨k1, k2, k3, k4⟩
  · refine Or.inl ⟨k1, ?_⟩
    rw [rem_s h1 h2 hx e1 e2, hf, k2]
    rfl
  · refine Or.inr ⟨k1, ?_, fun k q1 q2 q3 => ?_, fun k q1 q2 q3 => ?_⟩
    · rcases k2 with ⟨k, a, b, c⟩ | ⟨k, a, b, c⟩
      · exact Or.inl ⟨k, by omega, b, c⟩
      · exact Or.inr ⟨k, by omega, b, c⟩
    · by_cases a : p1' ≤ k
      · exact k3 k a q2 q3
      · by_cases c : C1 p1 = x
        · rw [if_pos c] at e1
          have : k = p1 := by omega
          rw [this, c, hf] at q3
          cases q3
        · rw [if_neg c] at e1
          omega
    · by_cases a : p2' ≤ k
      · exact k4 k a q2 q3
      · by_cases c : C2 p2 = x
        · rw [if_pos c] at e2
          have : k = p2 := by omega
          rw [this, c, hf] at q3
          cases q3
        · rw [if_neg c] at e2
          omega
theorem ltv_c {b : Bool} {x H u w : Int} (x0 : 0 ≤ x) (h1 : 1 ≤ H) (u0 : 0 ≤ u) (w1 : 1 ≤ w) (h : x * w = u * H) : ltv b x H = ltv b u w := by
  rw [← ltv_q x0 h1 w1, h, Int.mul_comm H w, ltv_q u0 w1 h1]
set_option maxHeartbeats 1000000 in
theorem fm_eq {b : Bool} {f : Int → Bool} {Q : Int → Int → Bool} {E1 W1 E2 W2 : Nat → Int} {H1 H2 : Int} {n1 n2 : Nat} {y : Int64} (b1 : cvb E1 W1 n1 H1) (b2 : cvb E2 W2 n2 H2) (h1 : ∀ k, k < n1 → f (c1X W1 H2 k) = Q (cuI W1 (k + 1)) H1) (h2 : ∀ k, k < n2 → f (c1X W2 H1 k) = Q (cuI W2 (k + 1)) H2) (h : fmC f (c1X W1 H2) (c1X W2 H1) n1 n2 0 0 y) : (if y = -9 then (-9 : Int32) else (Int64.ofInt (ltv b y.toInt (H1 * H2))).toInt32) = rwF b (bkS (uB n1 W1 W2) (wB n1 H1 H2) (n1 + n2)).1 (bkS (uB n1 W1 W2) (wB n1 H1 H2) (n1 + n2)).2 (fun j => Q ((bkS (uB n1 W1 W2) (wB n1 H1 H2) (n1 + n2)).1 j) ((bkS (uB n1 W1 W2) (wB n1 H1 H2) (n1 + n2)).2 j)) 0 (n1 + n2) ∧ (y = -9 ∨ 0 ≤ y.toInt) := by
  have g1 := b1.2.2.2
  have g2 := b2.2.2.2
  have ub := ub_b b1 b2
  have any := any_eq h1 h2
  have HH : 1 * 1 ≤ H1 * H2 := Int.mul_le_mul g1.1 g2.1 (by decide) (by omega)
  have bb := bk_all (Q := fun a b => (0 ≤ a ∧ a ≤ 72) ∧ 1 ≤ b ∧ b ≤ 72) ub
  have so := sr_bk (u := uB n1 W1 W2) (w := wB n1 H1 H2) (n := n1 + n2) (fun j hj => by have := (ub j hj).2; omega)
  have ex : ∀ R : Int → Int → Prop, (∃ j, j < n1 + n2 ∧ R ((bkS (uB n1 W1 W2) (wB n1 H1 H2) (n1 + n2)).1 j) ((bkS (uB n1 W1 W2) (wB n1 H1 H2) (n1 + n2)).2 j)) ↔ ∃ j, j < n1 + n2 ∧ R (uB n1 W1 W2 j) (wB n1 H1 H2 j) := fun R => bk_ex
  generalize (bkS (uB n1 W1 W2) (wB n1 H1 H2) (n1 + n2)).1 = A at any bb so ex ⊢
  generalize (bkS (uB n1 W1 W2) (wB n1 H1 H2) (n1 + n2)).2 = B at any bb so ex ⊢
  -- each break of the reference is a place of the class
  have pl : ∀ j, j < n1 + n2 → ∃ x, x * wB n1 H1 H2 j = uB n1 W1 W2 j * (H1 * H2) ∧ f x = Q (uB n1 W1 W2 j) (wB n1 H1 H2 j) ∧ ((∃ k, 0 ≤ k ∧ k < n1 ∧ c1X W1 H2 k = x) ∨ ∃ k, 0 ≤ k ∧ k < n2 ∧ c1X W2 H1 k = x) := fun j hj => by
    unfold uB wB
    by_cases a : j < n1
    · rw [if_pos a, if_pos a]
      exact ⟨c1X W1 H2 j, by unfold c1X; ac_rfl, h1 j a, Or.inl ⟨j, by omega, a, rfl⟩⟩
    · rw [if_neg a, if_neg a]
      exact ⟨c1X W2 H1 (j - n1), by unfold c1X; ac_rfl, h2 (j - n1) (by omega), Or.inr ⟨j - n1, by omega, by omega, rfl⟩⟩
  rcases h with ⟨k1, k2⟩ | ⟨k1, k2, k3, k4⟩
  · refine ⟨?_, Or.inl k1⟩
    rw [if_pos k1]
    rw [k2] at any
    rcases rw_cs (b := b) (A := A) (B := B) (f := fun j => Q (A j) (B j)) (r := n1 + n2) (k := 0) with ⟨q, _⟩ | ⟨m, _, m2, m3, _, _⟩
    · exact q.symm
    · exact absurd (any.trans (any_i.mpr ⟨m, by omega, m3⟩)) (by decide)
  · -- the class's place as a break
    have back : ∃ j, j < n1 + n2 ∧ y.toInt * wB n1 H1 H2 j = uB n1 W1 W2 j * (H1 * H2) ∧ Q (uB n1 W1 W2 j) (wB n1 H1 H2 j) = true := by
      rcases k2 with ⟨k, _, b, c⟩ | ⟨k, _, b, c⟩
      · refine ⟨k, by omega, ?_, ?_⟩
        · unfold uB wB; rw [if_pos b, if_pos b, ← c]; unfold c1X; ac_rfl
        · unfold uB wB; rw [if_pos b, if_pos b, ← h1 k b, c]; exact k1
      · refine ⟨n1 + k, by omega, ?_, ?_⟩
        · unfold uB wB; rw [if_neg (by omega), if_neg (by omega), show n1 + k - n1 = k by omega, ← c]; unfold c1X; ac_rfl
        · unfold uB wB; rw [if_neg (by omega), if_neg (by omega), show n1 + k - n1 = k by omega, ← h2 k b, c]; exact k1
    obtain ⟨j0, hj0, e0, q0⟩ := back
    have y0 : 0 ≤ y.toInt := by
      have := ub j0 hj0
      have p : 0 ≤ uB n1 W1 W2 j0 * (H1 * H2) := Int.mul_nonneg this.1.1 (by omega)
      rw [← e0] at p
      exact Int.nonneg_of_mul_nonneg_left p (by omega)
    have yn : ¬ y = -9 := fun e => by rw [e] at y0; exact absurd y0 (by decide)
    refine ⟨?_, Or.inr y0⟩
    rw [if_neg yn]
    obtain ⟨i0, hi0, eA, eB⟩ := (ex (fun a b => a = uB n1 W1 W2 j0 ∧ b = wB n1 H1 H2 j0)).mpr ⟨j0, hj0, rfl, rfl⟩
    rcases rw_cs (b := b) (A := A) (B := B) (f := fun j => Q (A j) (B j)) (r := n1 + n2) (k := 0) with ⟨_, q⟩ | ⟨m, _, m2, m3, m4, m5⟩
    · have q := q i0 (by omega) (by omega)
      have q : Q (A i0) (B i0) = false := q
      rw [eA, eB, q0] at q
      cases q
    · have m3 : Q (A m) (B m) = true := m3
      have mi : m ≤ i0 := by
        by_cases w : m ≤ i0
        · exact w
        · have q : Q (A i0) (B i0) = false := m4 i0 (by omega) (by omega)
          rw [eA, eB, q0] at q
          cases q
      obtain ⟨jm, hjm, uA, wA⟩ := (ex (fun a b => A m = a ∧ B m = b)).mp ⟨m, by omega, rfl, rfl⟩
      obtain ⟨x, ex1, ex2, ex3⟩ := pl jm hjm
      rw [← uA, ← wA] at ex1 ex2
      have yx : y.toInt ≤ x := by
        rcases ex3 with ⟨k, a, b, c⟩ | ⟨k, a, b, c⟩
        · rw [← c]; exact k3 k a b (by rw [c, ex2]; exact m3)
        · rw [← c]; exact k4 k a b (by rw [c, ex2]; exact m3)
      have bm := bb m (by omega)
      have b0 := bb i0 hi0
      have le : A m * B i0 ≤ A i0 * B m := by
        by_cases e : m = i0
        · rw [e]; exact Int.le_refl _
        · exact so m i0 (by omega) hi0
      rw [← eA, ← eB] at e0
      have xy : x ≤ y.toInt := by
        refine Int.le_of_mul_le_mul_right (a := B m * B i0) ?_ (Int.mul_pos (by omega) (by omega))
        have l2 : A m * B i0 * (H1 * H2) ≤ A i0 * B m * (H1 * H2) := Int.mul_le_mul_of_nonneg_right le (by omega)
        calc x * (B m * B i0) = x * B m * B i0 := by ac_rfl
          _ = A m * (H1 * H2) * B i0 := by rw [ex1]
          _ = A m * B i0 * (H1 * H2) := by ac_rfl
          _ ≤ A i0 * B m * (H1 * H2) := l2
          _ = A i0 * (H1 * H2) * B m := by ac_rfl
          _ = y.toInt * B i0 * B m := by rw [e0]
          _ = y.toInt * (B m * B i0) := by ac_rfl
      have exy : x = y.toInt := by omega
      rw [m5, ltv_c y0 (by omega) bm.1.1 bm.2.1 (by rw [← exy]; exact ex1)]
