/-! ranges and writes of this world -/
def ck_rA (k : Nat) : Int × Int := match k with
  | 21 => (0, 99)
  | 22 => (0, 99)
  | 23 => (0, 9)
  | 24 => (0, 2)
  | 3 => (0, 99)
  | 4 => (0, 10)
  | 41 => (0, 8)
  | 42 => (0, 99)
  | 43 => (0, 99)
  | 44 => (0, 9)
  | 45 => (0, 2)
  | 46 => (0, 99)
  | 49 => (0, 8)
  | 59 => (0, 99)
  | 60 => (0, 10)
  | _ => (-2147483648, 2147483647)
def ck_rn (k f : Nat) : Int × Int := if k = 2 then (match f with
    | 0 => (0, 4)
    | _ => (-2147483648, 2147483647)) else if k = 20 then (match f with
    | 0 => (0, 8)
    | _ => (-2147483648, 2147483647)) else if k = 30 then (match f with
    | 0 => (0, 8)
    | 3 => (0, 8)
    | _ => (-2147483648, 2147483647)) else if k = 40 then (match f with
    | 11 => (0, 16)
    | 17 => (0, 8)
    | 22 => (0, 4)
    | _ => (-2147483648, 2147483647)) else ck_rA k
def ck_wA (c k : Nat) : Bool := match k with
  | 5 => true | 7 => true | 8 => true | 9 => true | 10 => true | 12 => true | 13 => true | 14 => true | 25 => true | 30 => true | 31 => true | 32 => true
  | 46 => true | 47 => true | 48 => true | 49 => true | 50 => true | 51 => true | 52 => true | 53 => true | 54 => true | 55 => true | 56 => true | 57 => true | 58 => true
  | 20 => Nat.ble 1 c | 21 => Nat.ble 1 c | 22 => Nat.ble 1 c | 23 => Nat.ble 1 c | 24 => Nat.ble 1 c
  | _ => false
def ck_wr (c k f : Nat) : Bool := if k = 40 then (Nat.beq f 11 || Nat.beq f 17 || Nat.beq f 18 || Nat.beq f 19) else ck_wA c k
/-- all within its range; what is not written is as it was -/
def ck_J (c : Nat) (σ0 σ : ab_S) : Prop := (∀ k i j, (ck_rn k j).1 ≤ (σ.1 k i j).toInt ∧ (σ.1 k i j).toInt ≤ (ck_rn k j).2) ∧ ∀ k j, ck_wr c k j = false → ∀ i, σ.1 k i j = σ0.1 k i j ∧ σ.2 k i j = σ0.2 k i j
theorem ab_si_at {σ : ab_S} {k i j k' i' j' : Nat} {v : Int32} : (ab_si σ k i j v).1 k' i' j' = if k' = k ∧ i' = i ∧ j' = j then v else σ.1 k' i' j' := by
  unfold ab_si upd
  by_cases h1 : k' = k
  · subst h1
    by_cases h2 : i' = i
    · subst h2
      by_cases h3 : j' = j
      · subst h3; simp
      · simp [h3]
    · simp [h2]
  · simp [h1]
theorem ab_sl_at {σ : ab_S} {k i j k' i' j' : Nat} {v : Int64} : (ab_sl σ k i j v).2 k' i' j' = if k' = k ∧ i' = i ∧ j' = j then v else σ.2 k' i' j' := by
  unfold ab_sl vp_updL
  by_cases h1 : k' = k
  · subst h1
    by_cases h2 : i' = i
    · subst h2
      by_cases h3 : j' = j
      · subst h3; simp
      · simp [h3]
    · simp [h2]
  · simp [h1]
theorem ck_J.si {c : Nat} {σ0 σ : ab_S} (h : ck_J c σ0 σ) {k j : Nat} (i : Nat) {v : Int32} (hw : ck_wr c k j = true) (h1 : (ck_rn k j).1 ≤ v.toInt) (h2 : v.toInt ≤ (ck_rn k j).2) : ck_J c σ0 (ab_si σ k i j v) := by
  refine ⟨fun k' i' j' => ?_, fun k' j' hn i' => ⟨?_, (h.2 k' j' hn i').2⟩⟩
  · rw [ab_si_at]
    by_cases e : k' = k ∧ i' = i ∧ j' = j
    · rw [if_pos e, e.1, e.2.2]; exact ⟨h1, h2⟩
    · rw [if_neg e]; exact h.1 k' i' j'
  · rw [ab_si_at]
    by_cases e : k' = k ∧ i' = i ∧ j' = j
    · rw [e.1, e.2.2, hw] at hn; cases hn
    · rw [if_neg e]; exact (h.2 k' j' hn i').1
theorem ck_J.sl {c : Nat} {σ0 σ : ab_S} (h : ck_J c σ0 σ) {k j : Nat} (i : Nat) {v : Int64} (hw : ck_wr c k j = true) : ck_J c σ0 (ab_sl σ k i j v) := by
  refine ⟨fun k' i' j' => h.1 k' i' j', fun k' j' hn i' => ⟨(h.2 k' j' hn i').1, ?_⟩⟩
  rw [ab_sl_at]
  by_cases e : k' = k ∧ i' = i ∧ j' = j
  · rw [e.1, e.2.2, hw] at hn; cases hn
  · rw [if_neg e]; exact (h.2 k' j' hn i').2
theorem ck_uni {c k t m j : Nat} (h : ck_ar k = some (t, m)) : ck_rn k j = ck_rn k 0 ∧ ck_wr c k j = ck_wr c k 0 := by
  have h1 : ¬ k = 2 := fun e => by subst e; cases h
  have h2 : ¬ k = 20 := fun e => by subst e; cases h
  have h3 : ¬ k = 30 := fun e => by subst e; cases h
  have h4 : ¬ k = 40 := fun e => by subst e; cases h
  unfold ck_rn ck_wr
  simp only [if_neg h1, if_neg h2, if_neg h3, if_neg h4, and_self]
theorem ck_HH {c : Nat} {σ0 : ab_S} {M : ab_M} {t : List (Nat × List ck_Co)} (h : ∀ q ∈ t, ∀ m w sp, ab_ml M q.1 = some (m, w, sp) → ∀ k ∈ q.2, ck_co (ck_J c σ0) k sp) : ck_H (ck_rn, ck_wr c, t) M (ck_J c σ0) :=
  ⟨fun σ hJ k i j => hJ.1 k i j, fun σ hJ k i j v hw h1 h2 => hJ.si i hw h1 h2, fun σ hJ k i j v hw => hJ.sl i hw, fun k t m j hk => ck_uni hk, fun j cs m w sp h1 h2 => h (j, cs) (ck_lk_mem h1) m w sp h2⟩
theorem ck_sb {J : ab_S → Prop} {M : ab_M} {j m0 w0 m w : Nat} {sp0 sp : ab_Sp} {cs : List ck_Co} (h0 : ab_ml M j = some (m0, w0, sp0)) (h : ab_ml M j = some (m, w, sp)) (k : ∀ c ∈ cs, ck_co J c sp0) : ∀ c ∈ cs, ck_co J c sp := by
  rw [h0] at h
  cases h
  exact k
def qJ9_max_7cf53 : List ck_Co := [(3, [], [])]
def qJ9_min_7cf53 : List ck_Co := [(4, [], [])]
def qJ9_min_f86c9 : List ck_Co := [(5, [], [])]
def qJ9_abs_0f7a4 : List ck_Co := [(0, [.inl (.inl ((-2147483648), 2147483647, false))], [([], some (.inl (.inl ((-2147483648), 2147483647, false))))])]
theorem hJ9_max_7cf53 {J : ab_S → Prop} : ∀ c ∈ qJ9_max_7cf53, ck_co J c ab_mx := fun c hc => by
  rcases List.mem_cons.mp hc with rfl | hc
  · intro x y σ P h
    refine h _ ?_
    by_cases q : x < y
    · rw [if_pos q]
      have := Int32.lt_iff_toInt_lt.mp q
      omega
    · rw [if_neg q]
      have hq : ¬ x.toInt < y.toInt := fun w => q (Int32.lt_iff_toInt_lt.mpr w)
      omega
  · exact absurd hc List.not_mem_nil
theorem hJ9_min_7cf53 {J : ab_S → Prop} : ∀ c ∈ qJ9_min_7cf53, ck_co J c ab_mi := fun c hc => by
  rcases List.mem_cons.mp hc with rfl | hc
  · intro x y σ P h
    refine h _ ?_
    by_cases q : y < x
    · rw [if_pos q]
      have := Int32.lt_iff_toInt_lt.mp q
      omega
    · rw [if_neg q]
      have hq : ¬ y.toInt < x.toInt := fun w => q (Int32.lt_iff_toInt_lt.mpr w)
      omega
  · exact absurd hc List.not_mem_nil
theorem hJ9_min_f86c9 {J : ab_S → Prop} : ∀ c ∈ qJ9_min_f86c9, ck_co J c ab_ml2 := fun c hc => by
  rcases List.mem_cons.mp hc with rfl | hc
  · intro x y σ P h
    refine h _ ?_
    by_cases q : y < x
    · rw [if_pos q]
      have := Int64.lt_iff_toInt_lt.mp q
      omega
    · rw [if_neg q]
      have hq : ¬ y.toInt < x.toInt := fun w => q (Int64.lt_iff_toInt_lt.mpr w)
      omega
  · exact absurd hc List.not_mem_nil
theorem hJ9_abs_0f7a4 {J : ab_S → Prop} : ∀ c ∈ qJ9_abs_0f7a4, ck_co J c ab_mb := fun c hc => by
  rcases List.mem_cons.mp hc with rfl | hc
  · intro as σ P hJ hd h
    rcases as with _ | ⟨v, _ | ⟨w, t⟩⟩
    · exact hd.elim
    · obtain ⟨⟨x, rfl, _⟩, _⟩ := hd
      exact h _ σ hJ ⟨_, List.mem_cons_self, (fun c hc => absurd hc List.not_mem_nil), _, rfl, _, rfl, i32_lo _, i32_hi _, fun h => by cases h⟩
    · exact hd.2.elim
  · exact absurd hc List.not_mem_nil
