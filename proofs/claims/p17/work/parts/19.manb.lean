/-! for contracts by hand -/
theorem ck_dc {d : ck_D} {t : List ck_D} {as : List ab_V} (h : ck_ds (d :: t) as) : ∃ v u, as = v :: u ∧ ck_dv d v ∧ ck_ds t u := by
  cases as with
  | nil => exact h.elim
  | cons v u => exact ⟨v, u, rfl, h.1, h.2⟩
theorem ck_dn {as : List ab_V} (h : ck_ds [] as) : as = [] := by
  cases as with
  | nil => rfl
  | cons v u => exact h.elim
theorem ck_oV {J : ab_S → Prop} {as : List ab_V} {P : ab_P} {os : List (List (Nat × Int × Int) × Option ck_D)} (h : ∀ r σ', J σ' → (∃ o ∈ ([], none) :: os, ck_cs o.1 as ∧ ck_od o.2 r) → P r σ') : ∀ σ', J σ' → P none σ' := fun σ' hJ => h _ σ' hJ ⟨_, List.mem_cons_self, (fun c hc => absurd hc List.not_mem_nil), rfl⟩
theorem ck_oL {J : ab_S → Prop} {as : List ab_V} {P : ab_P} {os : List (List (Nat × Int × Int) × Option ck_D)} (h : ∀ r σ', J σ' → (∃ o ∈ ([], some (.inl (.inr (-9223372036854775808, 9223372036854775807, false)))) :: os, ck_cs o.1 as ∧ ck_od o.2 r) → P r σ') : ∀ (x : Int64) σ', J σ' → P (some (.inl (.inr x))) σ' := fun x σ' hJ => h _ σ' hJ ⟨_, List.mem_cons_self, (fun c hc => absurd hc List.not_mem_nil), _, rfl, x, rfl, i64_lo x, i64_hi x, fun h => by cases h⟩
theorem ck_oN {J : ab_S → Prop} {as : List ab_V} {P : ab_P} {os : List (List (Nat × Int × Int) × Option ck_D)} (h : ∀ r σ', J σ' → (∃ o ∈ ([], some (.inl (.inr (-9223372036854775808, 9223372036854775807, true)))) :: os, ck_cs o.1 as ∧ ck_od o.2 r) → P r σ') : ∀ (x : Int64) σ', ¬ x = 0 → J σ' → P (some (.inl (.inr x))) σ' := fun x σ' hx hJ => h _ σ' hJ ⟨_, List.mem_cons_self, (fun c hc => absurd hc List.not_mem_nil), _, rfl, x, rfl, i64_lo x, i64_hi x, fun _ e => hx (Int64.toInt_inj.mp e)⟩
theorem ck_oI {J : ab_S → Prop} {as : List ab_V} {P : ab_P} {os : List (List (Nat × Int × Int) × Option ck_D)} (h : ∀ r σ', J σ' → (∃ o ∈ ([], some (.inl (.inl (-2147483648, 2147483647, false)))) :: os, ck_cs o.1 as ∧ ck_od o.2 r) → P r σ') : ∀ (x : Int32) σ', J σ' → P (some (.inl (.inl x))) σ' := fun x σ' hJ => h _ σ' hJ ⟨_, List.mem_cons_self, (fun c hc => absurd hc List.not_mem_nil), _, rfl, x, rfl, i32_lo x, i32_hi x, fun h => by cases h⟩
theorem ck_oR {J : ab_S → Prop} {as : List ab_V} {P : ab_P} {lo hi : Int} {os : List (List (Nat × Int × Int) × Option ck_D)} (h : ∀ r σ', J σ' → (∃ o ∈ ([], some (.inl (.inl (lo, hi, false)))) :: os, ck_cs o.1 as ∧ ck_od o.2 r) → P r σ') : ∀ (x : Int32) σ', lo ≤ x.toInt → x.toInt ≤ hi → J σ' → P (some (.inl (.inl x))) σ' := fun x σ' h1 h2 hJ => h _ σ' hJ ⟨_, List.mem_cons_self, (fun c hc => absurd hc List.not_mem_nil), _, rfl, x, rfl, h1, h2, fun h => by cases h⟩
theorem ck_one {J : ab_S → Prop} {c0 : ck_Co} {sp : ab_Sp} (h : ck_co J c0 sp) : ∀ c ∈ [c0], ck_co J c sp := fun c hc => by
  rcases List.mem_cons.mp hc with rfl | hc
  · exact h
  · exact absurd hc List.not_mem_nil
theorem t1i : (1 : Int32).toInt = 1 := rfl
theorem t0i : (0 : Int32).toInt = 0 := rfl
theorem i32_ne0 {x : Int32} (h : 1 ≤ x.toInt) : ¬ x = 0 := fun e => by rw [e, t0i] at h; omega
theorem i32_p1 {x : Int32} (h : x.toInt ≤ 2147483646) : (x + 1).toInt = x.toInt + 1 := by
  have := i32_lo x
  rw [i32_add (by rw [t1i]; omega) (by rw [t1i]; omega), t1i]
theorem i32_m1 {x : Int32} (h : -2147483647 ≤ x.toInt) : (x - 1).toInt = x.toInt - 1 := by
  have := i32_hi x
  rw [i32_sub (by rw [t1i]; omega) (by rw [t1i]; omega), t1i]
theorem nlt32 {x y : Int32} (h : ¬ x < y) : y.toInt ≤ x.toInt := Int32.le_iff_toInt_le.mp (Int32.not_lt.mp h)
theorem nle32 {x y : Int32} (h : ¬ x ≤ y) : y.toInt < x.toInt := Int32.lt_iff_toInt_lt.mp (Int32.not_le.mp h)
theorem lt32 {x y : Int32} (h : x < y) : x.toInt < y.toInt := Int32.lt_iff_toInt_lt.mp h
theorem le32 {x y : Int32} (h : x ≤ y) : x.toInt ≤ y.toInt := Int32.le_iff_toInt_le.mp h
theorem vp_of {x : Int32} {n : Nat} (h1 : 0 ≤ x.toInt) (h2 : x.toInt < n) : vp_in x n := vp_in_iff.mpr ⟨h1, h2⟩
