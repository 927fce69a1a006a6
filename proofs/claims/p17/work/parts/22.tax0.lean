/-! ===== the tax, as numbers: by bands and by units ===== -/
def isum (g : Nat → Int) (n : Nat) : Int := match n with
  | 0 => 0
  | n + 1 => isum g n + g n
def bs (F : Nat → Int) (h : Int) (n : Nat) : Option Nat := match n with
  | 0 => none
  | n + 1 => match bs F h n with
    | none => if F n ≤ h then some n else none
    | some b => if F n ≤ h ∧ F b ≤ F n then some n else some b
def raO (R : Nat → Int) (o : Option Nat) : Int := match o with
  | none => 0
  | some b => R b
def nx (F : Nat → Int) (a : Int) (n : Nat) : Int := match n with
  | 0 => 100
  | n + 1 => if a < F n then min (nx F a n) (F n) else nx F a n
def agb (F : Nat → Int) (i n : Nat) : Bool := match n with
  | 0 => false
  | n + 1 => agb F i n || (decide (i < n) && decide (F n = F i))
def wt (F : Nat → Int) (n : Nat) (h : Int) (i : Nat) : Int := min h (nx F (F i) n) - F i
def tkt (F R : Nat → Int) (n : Nat) (h : Int) (i : Nat) : Int := if 0 < wt F n h i ∧ agb F i n = false then R i * wt F n h i else 0
def tk (F R : Nat → Int) (n : Nat) (h : Int) : Int := isum (tkt F R n h) n
def tx (F R : Nat → Int) (n h : Nat) : Int := isum (fun k => raO R (bs F (k : Int) n)) h
theorem isum_z {g : Nat → Int} : ∀ {n : Nat}, (∀ i, i < n → g i = 0) → isum g n = 0
  | 0, _ => rfl
  | n + 1, h => by
    show isum g n + g n = 0
    rw [isum_z (fun i hi => h i (by omega)), h n (by omega)]
    rfl
theorem isum_1 {g : Nat → Int} {b : Nat} : ∀ {n : Nat}, b < n → (∀ i, i < n → ¬ i = b → g i = 0) → isum g n = g b
  | 0, hb, _ => absurd hb (Nat.not_lt_zero _)
  | n + 1, hb, h => by
    show isum g n + g n = g b
    by_cases e : b = n
    · subst e
      rw [isum_z (fun i hi => h i (by omega) (by omega))]
      omega
    · rw [isum_1 (show b < n by omega) (fun i hi hn => h i (by omega) hn), h n (by omega) (fun q => e q.symm)]
      omega
theorem isum_d {f g d : Nat → Int} : ∀ {n : Nat}, (∀ i, i < n → f i = g i + d i) → isum f n = isum g n + isum d n
  | 0, _ => rfl
  | n + 1, h => by
    show isum f n + f n = isum g n + g n + (isum d n + d n)
    rw [isum_d (fun i hi => h i (by omega)), h n (by omega)]
    omega
theorem isum_b {g : Nat → Int} {c : Int} : ∀ {n : Nat}, (∀ i, i < n → 0 ≤ g i ∧ g i ≤ c) → 0 ≤ isum g n ∧ isum g n ≤ c * n
  | 0, _ => ⟨Int.le_refl 0, by show (0 : Int) ≤ c * ((0 : Nat) : Int); simp⟩
  | n + 1, h => by
    have h1 := isum_b (n := n) (fun i hi => h i (by omega))
    have h2 := h n (by omega)
    have e : c * ((n + 1 : Nat) : Int) = c * (n : Int) + c := by rw [Int.natCast_add, Int.mul_add]; simp
    show 0 ≤ isum g n + g n ∧ isum g n + g n ≤ c * ((n + 1 : Nat) : Int)
    rw [e]
    omega
theorem bs_ok {F : Nat → Int} {h : Int} : ∀ {n : Nat}, (bs F h n = none → ∀ k, k < n → ¬ F k ≤ h) ∧ ∀ b, bs F h n = some b → b < n ∧ F b ≤ h ∧ ∀ k, k < n → F k ≤ h → F k < F b ∨ (F k = F b ∧ k ≤ b)
  | 0 => ⟨fun _ k hk => absurd hk (Nat.not_lt_zero _), fun b hb => by cases hb⟩
  | n + 1 => by
    have ih := bs_ok (F := F) (h := h) (n := n)
    unfold bs
    cases e : bs F h n with
    | none =>
      have i1 := ih.1 e
      by_cases c : F n ≤ h
      · simp only [if_pos c]
        refine ⟨fun q => (by cases q), fun b hb => ?_⟩
        cases hb
        refine ⟨by omega, c, fun k hk hF => ?_⟩
        by_cases q : k = n
        · subst q; exact Or.inr ⟨rfl, Nat.le_refl _⟩
        · exact absurd hF (i1 k (by omega))
      · simp only [if_neg c]
        refine ⟨fun _ k hk => ?_, fun b hb => by cases hb⟩
        by_cases q : k = n
        · subst q; exact c
        · exact i1 k (by omega)
    | some b0 =>
      obtain ⟨i1, i2, i3⟩ := ih.2 b0 e
      by_cases c : F n ≤ h ∧ F b0 ≤ F n
      · simp only [if_pos c]
        refine ⟨fun q => (by cases q), fun b hb => ?_⟩
        cases hb
        refine ⟨by omega, c.1, fun k hk hF => ?_⟩
        by_cases q : k = n
        · subst q; exact Or.inr ⟨rfl, Nat.le_refl _⟩
        · rcases i3 k (by omega) hF with w | w
          · rcases Int.lt_or_eq_of_le c.2 with u | u <;> first | (left; omega; done) | (left; omega)
          · by_cases u : F b0 = F n
            · right; exact ⟨by omega, by omega⟩
            · left; have := c.2; omega
      · simp only [if_neg c]
        refine ⟨fun q => (by cases q), fun b hb => ?_⟩
        cases hb
        refine ⟨by omega, i2, fun k hk hF => ?_⟩
        by_cases q : k = n
        · subst q
          left
          have : ¬ F b0 ≤ F k := fun w => c ⟨hF, w⟩
          omega
        · exact i3 k (by omega) hF
theorem nx_lt {F : Nat → Int} {a h : Int} (h1 : h < 100) : ∀ {n : Nat}, h < nx F a n ↔ ∀ j, j < n → a < F j → h < F j
  | 0 => ⟨fun _ j hj => absurd hj (Nat.not_lt_zero _), fun _ => h1⟩
  | n + 1 => by
    have ih := nx_lt (F := F) (a := a) h1 (n := n)
    unfold nx
    by_cases c : a < F n
    · rw [if_pos c]
      refine ⟨fun q j hj ha => ?_, fun q => ?_⟩
      · by_cases e : j = n
        · subst e; omega
        · exact ih.mp (by omega) j (by omega) ha
      · have q1 := q n (by omega) c
        have q2 := ih.mpr (fun j hj ha => q j (by omega) ha)
        omega
    · rw [if_neg c]
      refine ⟨fun q j hj ha => ?_, fun q => ih.mpr (fun j hj ha => q j (by omega) ha)⟩
      by_cases e : j = n
      · subst e; exact absurd ha c
      · exact ih.mp q j (by omega) ha
theorem agb_ok {F : Nat → Int} {i : Nat} : ∀ {n : Nat}, agb F i n = true ↔ ∃ j, i < j ∧ j < n ∧ F j = F i
  | 0 => ⟨fun h => (by cases h), fun ⟨j, _, h, _⟩ => absurd h (Nat.not_lt_zero _)⟩
  | n + 1 => by
    have ih := agb_ok (F := F) (i := i) (n := n)
    unfold agb
    rw [Bool.or_eq_true, Bool.and_eq_true, decide_eq_true_iff, decide_eq_true_iff, ih]
    refine ⟨fun h => ?_, fun ⟨j, h1, h2, h3⟩ => ?_⟩
    · rcases h with ⟨j, h1, h2, h3⟩ | ⟨h1, h2⟩
      · exact ⟨j, h1, by omega, h3⟩
      · exact ⟨n, h1, by omega, h2⟩
    · by_cases e : j = n
      · subst e; exact Or.inr ⟨h1, h3⟩
      · exact Or.inl ⟨j, h1, by omega, h3⟩
theorem nx_gt {F : Nat → Int} {a : Int} (h1 : a < 100) {n : Nat} : a < nx F a n := (nx_lt h1).mpr (fun _ _ h => h)
theorem tk_eq {F R : Nat → Int} {n : Nat} (hF : ∀ i, i < n → 0 ≤ F i ∧ F i ≤ 99) : ∀ h : Nat, h ≤ 100 → tk F R n h = tx F R n h
  | 0, _ => by
    show isum (tkt F R n ((0 : Nat) : Int)) n = 0
    refine isum_z (fun i hi => ?_)
    unfold tkt
    refine if_neg (fun q => ?_)
    have := (hF i hi).1
    have q1 := q.1
    unfold wt at q1
    omega
  | h + 1, hh => by
    have ih := tk_eq (R := R) hF h (by omega)
    show isum (tkt F R n ((h + 1 : Nat) : Int)) n = tx F R n h + raO R (bs F (h : Int) n)
    have hd : ∀ i, i < n → tkt F R n ((h + 1 : Nat) : Int) i = tkt F R n (h : Int) i + (if F i ≤ (h : Int) ∧ (h : Int) < nx F (F i) n ∧ agb F i n = false then R i else 0) := by
      intro i hi
      have f1 := hF i hi
      have g1 : F i < nx F (F i) n := nx_gt (by omega)
      unfold tkt wt
      generalize nx F (F i) n = N at g1 ⊢
      cases agb F i n with
      | true => simp
      | false =>
        simp only [and_true]
        by_cases c1 : F i ≤ (h : Int)
        · by_cases c2 : (h : Int) < N
          · rw [if_pos (show (0 : Int) < min ((h + 1 : Nat) : Int) N - F i by omega), if_pos (show F i ≤ (h : Int) ∧ (h : Int) < N from ⟨c1, c2⟩)]
            have e1 : min ((h + 1 : Nat) : Int) N - F i = ((h : Int) - F i) + 1 := by omega
            have e2 : min (h : Int) N - F i = (h : Int) - F i := by omega
            rw [e1, e2, Int.mul_add, Int.mul_one]
            by_cases c3 : (0 : Int) < (h : Int) - F i
            · rw [if_pos c3]
            · rw [if_neg c3, show (h : Int) - F i = 0 by omega]
              simp
          · have e1 : min ((h + 1 : Nat) : Int) N - F i = min (h : Int) N - F i := by omega
            rw [e1, if_neg (show ¬ (F i ≤ (h : Int) ∧ (h : Int) < N) from fun q => c2 q.2), Int.add_zero]
        · rw [if_neg (show ¬ (0 : Int) < min ((h + 1 : Nat) : Int) N - F i by omega), if_neg (show ¬ (0 : Int) < min (h : Int) N - F i by omega), if_neg (show ¬ (F i ≤ (h : Int) ∧ (h : Int) < N) from fun q => c1 q.1)]
          rfl
    rw [isum_d hd]
    have e0 : isum (tkt F R n (h : Int)) n = tx F R n h := ih
    rw [e0]
    congr 1
    have bk := bs_ok (F := F) (h := (h : Int)) (n := n)
    cases e : bs F (h : Int) n with
    | none =>
      refine isum_z (fun i hi => if_neg (fun q => bk.1 e i hi q.1))
    | some b =>
      obtain ⟨b1, b2, b3⟩ := bk.2 b e
      show _ = R b
      have c1 : (h : Int) < nx F (F b) n := (nx_lt (by omega)).mpr (fun j hj hq => by
        refine Int.not_le.mp (fun w => ?_)
        rcases b3 j hj w with u | u <;> omega)
      have c2 : agb F b n = false := by
        cases c : agb F b n with
        | false => rfl
        | true =>
          obtain ⟨j, j1, j2, j3⟩ := agb_ok.mp c
          rcases b3 j j2 (by omega) with u | u <;> omega
      rw [isum_1 (b := b) b1 (fun i hi hn => if_neg (fun q => ?_))]
      · exact if_pos ⟨b2, c1, c2⟩
      · rcases b3 i hi q.1 with u | u
        · have := (nx_lt (by omega)).mp q.2.1 b b1 u
          omega
        · have : agb F i n = true := agb_ok.mpr ⟨b, by omega, b1, u.1.symm⟩
          rw [q.2.2] at this
          cases this
theorem tx_b {F R : Nat → Int} {n h : Nat} (hR : ∀ i, i < n → 0 ≤ R i ∧ R i ≤ 10) : 0 ≤ tx F R n h ∧ tx F R n h ≤ 10 * h := by
  refine isum_b (fun i _ => ?_)
  cases e : bs F (i : Int) n with
  | none => exact ⟨Int.le_refl 0, (by decide : (0 : Int) ≤ 10)⟩
  | some b => exact hR b ((bs_ok.2 b e).1)
