/-! ranges and writes of this world -/
def ck_rA (k : Nat) : Int × Int := match k with
  | 21 => (0, 99)
  | 22 => (0, 99)
  | 23 => (0, 9)
  | 24 => (0, 2)
  | 3 => (0, 99)
  | 4 => (0, 10)
  | 41 => (0, 8)
  | 42 => (0, 99)
  | 43 => (0, 99)
  | 44 => (0, 9)
  | 45 => (0, 2)
  | 46 => (0, 99)
  | 49 => (0, 8)
  | 59 => (0, 99)
  | 60 => (0, 10)
  | _ => (-2147483648, 2147483647)
def ck_rn (k f : Nat) : Int × Int := if k = 2 then (match f with
    | 0 => (0, 4)
    | _ => (-2147483648, 2147483647)) else if k = 20 then (match f with
    | 0 => (0, 8)
    | _ => (-2147483648, 2147483647)) else if k = 30 then (match f with
    | 0 => (0, 8)
    | 3 => (0, 8)
    | _ => (-2147483648, 2147483647)) else if k = 40 then (match f with
    | 11 => (0, 16)
    | 17 => (0, 8)
    | 22 => (0, 4)
    | _ => (-2147483648, 2147483647)) else ck_rA k
def ck_wS (k : Nat) : Bool := match k with
  | 5 => true | 7 => true | 8 => true | 9 => true | 10 => true | 12 => true | 13 => true | 14 => true | 25 => true | 30 => true | 31 => true | 32 => true
  | 46 => true | 47 => true | 48 => true | 49 => true | 50 => true | 51 => true | 52 => true | 53 => true | 54 => true | 55 => true | 56 => true | 57 => true | 58 => true
  | _ => false
/-- what may be written: 0 scratch alone, 1 the class's towns too, 6 the breaks, 7 the row, 8 has, 9 nothing -/
def ck_wA (c k : Nat) : Bool := match c with
  | 0 => ck_wS k
  | 1 => ck_wS k || (Nat.ble 20 k && Nat.ble k 24)
  | 6 => Nat.beq k 52 || Nat.beq k 53
  | 7 => Nat.beq k 56
  | 8 => Nat.beq k 46
  | _ => false
def ck_wr (c k f : Nat) : Bool := if k = 40 then (match c with
  | 0 => Nat.beq f 11 || Nat.beq f 17 || Nat.beq f 18 || Nat.beq f 19
  | 1 => Nat.beq f 11 || Nat.beq f 17 || Nat.beq f 18 || Nat.beq f 19
  | 6 => Nat.beq f 11
  | 7 => Nat.beq f 17 || Nat.beq f 18 || Nat.beq f 19
  | _ => false) else ck_wA c k
/-- what a family of the reference is -/
def ck_P (σ : ab_S) : Prop := ∀ t f : Nat, t < 4 → (f : Int) < (σ.1 41 0 t).toInt → 1 ≤ (σ.1 44 0 (8 * t + f)).toInt ∧ (σ.1 42 0 (8 * t + f)).toInt ≤ (σ.1 43 0 (8 * t + f)).toInt
/-- all within its range; what is not written is as it was -/
def ck_J (c : Nat) (σ0 σ : ab_S) : Prop := (∀ k i j, (ck_rn k j).1 ≤ (σ.1 k i j).toInt ∧ (σ.1 k i j).toInt ≤ (ck_rn k j).2) ∧ (∀ k j, ck_wr c k j = false → ∀ i, σ.1 k i j = σ0.1 k i j ∧ σ.2 k i j = σ0.2 k i j) ∧ ck_P σ0
theorem ab_si_at {σ : ab_S} {k i j k' i' j' : Nat} {v : Int32} : (ab_si σ k i j v).1 k' i' j' = if k' = k ∧ i' = i ∧ j' = j then v else σ.1 k' i' j' := by
  unfold ab_si upd
  by_cases h1 : k' = k
  · subst h1
    by_cases h2 : i' = i
    · subst h2
      by_cases h3 : j' = j
      · subst h3; simp
      · simp [h3]
    · simp [h2]
  · simp [h1]
theorem ab_sl_at {σ : ab_S} {k i j k' i' j' : Nat} {v : Int64} : (ab_sl σ k i j v).2 k' i' j' = if k' = k ∧ i' = i ∧ j' = j then v else σ.2 k' i' j' := by
  unfold ab_sl vp_updL
  by_cases h1 : k' = k
  · subst h1
    by_cases h2 : i' = i
    · subst h2
      by_cases h3 : j' = j
      · subst h3; simp
      · simp [h3]
    · simp [h2]
  · simp [h1]
theorem sn_ii {σ : ab_S} {k i j k' i' j' : Nat} {v : Int32} (h : ¬ k' = k) : (ab_si σ k i j v).1 k' i' j' = σ.1 k' i' j' := by rw [ab_si_at, if_neg (fun e => h e.1)]
theorem sn_il {σ : ab_S} {k i j : Nat} {v : Int32} : (ab_si σ k i j v).2 = σ.2 := rfl
theorem sn_li {σ : ab_S} {k i j : Nat} {v : Int64} : (ab_sl σ k i j v).1 = σ.1 := rfl
theorem sn_ll {σ : ab_S} {k i j k' i' j' : Nat} {v : Int64} (h : ¬ k' = k) : (ab_sl σ k i j v).2 k' i' j' = σ.2 k' i' j' := by rw [ab_sl_at, if_neg (fun e => h e.1)]
theorem sn_ie {σ : ab_S} {k i j : Nat} {v : Int32} : (ab_si σ k i j v).1 k i j = v := by rw [ab_si_at, if_pos ⟨rfl, rfl, rfl⟩]
theorem sn_le {σ : ab_S} {k i j : Nat} {v : Int64} : (ab_sl σ k i j v).2 k i j = v := by rw [ab_sl_at, if_pos ⟨rfl, rfl, rfl⟩]
theorem sn_ij {σ : ab_S} {k i j j' : Nat} {v : Int32} (h : ¬ j' = j) : (ab_si σ k i j v).1 k i j' = σ.1 k i j' := by rw [ab_si_at, if_neg (fun e => h e.2.2)]
theorem sn_lj {σ : ab_S} {k i j j' : Nat} {v : Int64} (h : ¬ j' = j) : (ab_sl σ k i j v).2 k i j' = σ.2 k i j' := by rw [ab_sl_at, if_neg (fun e => h e.2.2)]
theorem ck_J.si {c : Nat} {σ0 σ : ab_S} (h : ck_J c σ0 σ) {k j : Nat} (i : Nat) {v : Int32} (hw : ck_wr c k j = true) (h1 : (ck_rn k j).1 ≤ v.toInt) (h2 : v.toInt ≤ (ck_rn k j).2) : ck_J c σ0 (ab_si σ k i j v) := by
  refine ⟨fun k' i' j' => ?_, fun k' j' hn i' => ⟨?_, (h.2.1 k' j' hn i').2⟩, h.2.2⟩
  · rw [ab_si_at]
    by_cases e : k' = k ∧ i' = i ∧ j' = j
    · rw [if_pos e, e.1, e.2.2]; exact ⟨h1, h2⟩
    · rw [if_neg e]; exact h.1 k' i' j'
  · rw [ab_si_at]
    by_cases e : k' = k ∧ i' = i ∧ j' = j
    · rw [e.1, e.2.2, hw] at hn; cases hn
    · rw [if_neg e]; exact (h.2.1 k' j' hn i').1
theorem ck_J.sl {c : Nat} {σ0 σ : ab_S} (h : ck_J c σ0 σ) {k j : Nat} (i : Nat) {v : Int64} (hw : ck_wr c k j = true) : ck_J c σ0 (ab_sl σ k i j v) := by
  refine ⟨fun k' i' j' => h.1 k' i' j', fun k' j' hn i' => ⟨(h.2.1 k' j' hn i').1, ?_⟩, h.2.2⟩
  rw [ab_sl_at]
  by_cases e : k' = k ∧ i' = i ∧ j' = j
  · rw [e.1, e.2.2, hw] at hn; cases hn
  · rw [if_neg e]; exact (h.2.1 k' j' hn i').2
theorem ck_uni {c k t m j : Nat} (h : ck_ar k = some (t, m)) : ck_rn k j = ck_rn k 0 ∧ ck_wr c k j = ck_wr c k 0 := by
  have h1 : ¬ k = 2 := fun e => by subst e; cases h
  have h2 : ¬ k = 20 := fun e => by subst e; cases h
  have h3 : ¬ k = 30 := fun e => by subst e; cases h
  have h4 : ¬ k = 40 := fun e => by subst e; cases h
  unfold ck_rn ck_wr
  simp only [if_neg h1, if_neg h2, if_neg h3, if_neg h4, and_self]
theorem ck_HH {c : Nat} {σ0 : ab_S} {M : ab_M} {t : List (Nat × List ck_Co)} (h : ∀ q ∈ t, ∀ m w sp, ab_ml M q.1 = some (m, w, sp) → ∀ k ∈ q.2, ck_co (ck_J c σ0) k sp) : ck_H (ck_rn, ck_wr c, t) M (ck_J c σ0) :=
  ⟨fun σ hJ k i j => hJ.1 k i j, fun σ hJ k i j v hw h1 h2 => hJ.si i hw h1 h2, fun σ hJ k i j v hw => hJ.sl i hw, fun k t m j hk => ck_uni hk, fun j cs m w sp h1 h2 => h (j, cs) (ck_lk_mem h1) m w sp h2⟩
theorem ck_sb {J : ab_S → Prop} {M : ab_M} {j m0 w0 m w : Nat} {sp0 sp : ab_Sp} {cs : List ck_Co} (h0 : ab_ml M j = some (m0, w0, sp0)) (h : ab_ml M j = some (m, w, sp)) (k : ∀ c ∈ cs, ck_co J c sp0) : ∀ c ∈ cs, ck_co J c sp := by
  rw [h0] at h
  cases h
  exact k
theorem ck_J.rf {c d : Nat} {σ0 σ : ab_S} (h : ck_J c σ0 σ) (hP : ck_P σ) : ck_J d σ σ := ⟨h.1, fun _ _ _ _ => ⟨rfl, rfl⟩, hP⟩
theorem ck_J.P {c : Nat} {σ0 σ : ab_S} (h : ck_J c σ0 σ) (e1 : ck_wA c 41 = false) (e2 : ck_wA c 42 = false) (e3 : ck_wA c 43 = false) (e4 : ck_wA c 44 = false) : ck_P σ := by
  intro t f ht hf
  rw [(h.2.1 41 t e1 0).1] at hf
  rw [(h.2.1 42 (8 * t + f) e2 0).1, (h.2.1 43 (8 * t + f) e3 0).1, (h.2.1 44 (8 * t + f) e4 0).1]
  exact h.2.2 t f ht hf
theorem ck_J.P0 {σ0 σ : ab_S} (h : ck_J 0 σ0 σ) : ck_P σ := h.P rfl rfl rfl rfl
theorem ck_J.P7 {σ0 σ : ab_S} (h : ck_J 7 σ0 σ) : ck_P σ := h.P rfl rfl rfl rfl
theorem ck_wr_le {c k j : Nat} (hc : c = 6 ∨ c = 7 ∨ c = 8 ∨ c = 9) (h : ck_wr 0 k j = false) : ck_wr c k j = false := by
  unfold ck_wr at h ⊢
  by_cases hk : k = 40
  · subst hk
    rw [if_pos rfl] at h ⊢
    have h1 : (Nat.beq j 11 || Nat.beq j 17 || Nat.beq j 18 || Nat.beq j 19) = false := h
    simp only [Bool.or_eq_false_iff] at h1
    obtain ⟨⟨⟨a, b⟩, d⟩, e⟩ := h1
    rcases hc with rfl | rfl | rfl | rfl <;> simp only [a, b, d, e, Bool.or_false]
  · rw [if_neg hk] at h ⊢
    have h1 : ck_wS k = false := h
    rcases hc with rfl | rfl | rfl | rfl
    · show (Nat.beq k 52 || Nat.beq k 53) = false
      cases e1 : Nat.beq k 52 with
      | true => rw [Nat.eq_of_beq_eq_true e1] at h1; cases h1
      | false =>
        cases e2 : Nat.beq k 53 with
        | true => rw [Nat.eq_of_beq_eq_true e2] at h1; cases h1
        | false => rfl
    · show Nat.beq k 56 = false
      cases e1 : Nat.beq k 56 with
      | true => rw [Nat.eq_of_beq_eq_true e1] at h1; cases h1
      | false => rfl
    · show Nat.beq k 46 = false
      cases e1 : Nat.beq k 46 with
      | true => rw [Nat.eq_of_beq_eq_true e1] at h1; cases h1
      | false => rfl
    · rfl
/-- a narrower write after a wider one -/
theorem ck_J.tr {c : Nat} {σ0 σ σ' : ab_S} (h : ck_J 0 σ0 σ) (hc : c = 6 ∨ c = 7 ∨ c = 8 ∨ c = 9) (k : ck_J c σ σ') : ck_J 0 σ0 σ' := ⟨k.1, fun q j hn i => ⟨(k.2.1 q j (ck_wr_le hc hn) i).1.trans (h.2.1 q j hn i).1, (k.2.1 q j (ck_wr_le hc hn) i).2.trans (h.2.1 q j hn i).2⟩, h.2.2⟩
theorem ck_J.eq9 {σ σ' : ab_S} (h : ck_J 9 σ σ') : σ' = σ := by
  have hw : ∀ k j, ck_wr 9 k j = false := fun k j => by unfold ck_wr; by_cases e : k = 40 <;> simp [e, ck_wA]
  refine Prod.ext ?_ ?_
  · funext k i j; exact (h.2.1 k j (hw k j) i).1
  · funext k i j; exact (h.2.1 k j (hw k j) i).2
def ck_isI (o : List (Nat × Int × Int) × Option ck_D) : Bool := match o.2 with
  | some (.inl (.inl _)) => true
  | _ => false
def ck_isL (o : List (Nat × Int × Int) × Option ck_D) : Bool := match o.2 with
  | some (.inl (.inr _)) => true
  | _ => false
def ck_isV (o : List (Nat × Int × Int) × Option ck_D) : Bool := match o.2 with
  | none => true
  | _ => false
theorem ck_uI {J : ab_S → Prop} {ds : List ck_D} {os : List (List (Nat × Int × Int) × Option ck_D)} {sp : ab_Sp} {as : List ab_V} {σ : ab_S} {P : ab_P} (hc : ck_co J (0, ds, os) sp) (hJ : J σ) (hd : ck_ds ds as) (hi : os.all ck_isI = true) (hP : ∀ (x : Int32) σ', J σ' → P (some (.inl (.inl x))) σ') : sp as σ P := hc as σ P hJ hd (fun r σ' h ho => by
  obtain ⟨o, ho, _, hr⟩ := ho
  have hi := List.all_eq_true.mp hi o ho
  obtain ⟨cs, d⟩ := o
  rcases d with _ | ((p | p) | d) <;> first | (cases hi; done) | skip
  obtain ⟨w, rfl, x, rfl, _⟩ := hr
  exact hP x σ' h)
theorem ck_uL {J : ab_S → Prop} {ds : List ck_D} {os : List (List (Nat × Int × Int) × Option ck_D)} {sp : ab_Sp} {as : List ab_V} {σ : ab_S} {P : ab_P} (hc : ck_co J (0, ds, os) sp) (hJ : J σ) (hd : ck_ds ds as) (hi : os.all ck_isL = true) (hP : ∀ (x : Int64) σ', J σ' → P (some (.inl (.inr x))) σ') : sp as σ P := hc as σ P hJ hd (fun r σ' h ho => by
  obtain ⟨o, ho, _, hr⟩ := ho
  have hi := List.all_eq_true.mp hi o ho
  obtain ⟨cs, d⟩ := o
  rcases d with _ | ((p | p) | d) <;> first | (cases hi; done) | skip
  obtain ⟨w, rfl, x, rfl, _⟩ := hr
  exact hP x σ' h)
theorem ck_uV {J : ab_S → Prop} {ds : List ck_D} {os : List (List (Nat × Int × Int) × Option ck_D)} {sp : ab_Sp} {as : List ab_V} {σ : ab_S} {P : ab_P} (hc : ck_co J (0, ds, os) sp) (hJ : J σ) (hd : ck_ds ds as) (hi : os.all ck_isV = true) (hP : ∀ σ', J σ' → P none σ') : sp as σ P := hc as σ P hJ hd (fun r σ' h ho => by
  obtain ⟨o, ho, _, hr⟩ := ho
  have hi := List.all_eq_true.mp hi o ho
  obtain ⟨cs, d⟩ := o
  rcases d with _ | d <;> first | (cases hi; done) | skip
  cases hr
  exact hP σ' h)
theorem ck_pI {ds : List ck_D} {os : List (List (Nat × Int × Int) × Option ck_D)} {sp : ab_Sp} {as : List ab_V} {σ : ab_S} {P : ab_P} (hc : ck_co (ck_J 9 σ) (0, ds, os) sp) (hJ : ck_J 9 σ σ) (hd : ck_ds ds as) (hi : os.all ck_isI = true) (hP : ∀ (x : Int32), P (some (.inl (.inl x))) σ) : sp as σ P := ck_uI hc hJ hd hi (fun x σ' h => by rw [h.eq9]; exact hP x)
theorem ck_pL {ds : List ck_D} {os : List (List (Nat × Int × Int) × Option ck_D)} {sp : ab_Sp} {as : List ab_V} {σ : ab_S} {P : ab_P} (hc : ck_co (ck_J 9 σ) (0, ds, os) sp) (hJ : ck_J 9 σ σ) (hd : ck_ds ds as) (hi : os.all ck_isL = true) (hP : ∀ (x : Int64), P (some (.inl (.inr x))) σ) : sp as σ P := ck_uL hc hJ hd hi (fun x σ' h => by rw [h.eq9]; exact hP x)
/-- arguments within their ranges -/
theorem cu_I {x : Int32} {lo hi : Int} (h1 : lo ≤ x.toInt) (h2 : x.toInt ≤ hi) : ck_dv (.inl (.inl (lo, hi, false))) (.inl (.inl x)) := ⟨x, rfl, h1, h2, fun h => by cases h⟩
theorem cu_F {x : Int32} : ck_dv (.inl (.inl (-2147483648, 2147483647, false))) (.inl (.inl x)) := cu_I (i32_lo x) (i32_hi x)
theorem cu_L {x : Int64} : ck_dv (.inl (.inr (-9223372036854775808, 9223372036854775807, false))) (.inl (.inr x)) := ⟨x, rfl, i64_lo x, i64_hi x, fun h => by cases h⟩
theorem cu_N {x : Int64} (h : ¬ x = 0) : ck_dv (.inl (.inr (-9223372036854775808, 9223372036854775807, true))) (.inl (.inr x)) := ⟨x, rfl, i64_lo x, i64_hi x, fun _ e => h (Int64.toInt_inj.mp e)⟩
theorem cu_R {k i lo hi : Nat} (h1 : lo ≤ i) (h2 : i ≤ hi) : ck_dv (.inr (some (k, lo, hi))) (.inr (some (k, i))) := ⟨i, rfl, h1, h2⟩
def fsum (g : Nat → Int32) (n : Nat) : Int32 := match n with
  | 0 => 0
  | n + 1 => fsum g n + g n
theorem ix8 {x k : Int32} {n : Nat} (h0 : 0 ≤ x.toInt) (h1 : x.toInt ≤ 3) (k0 : 0 ≤ k.toInt) (k1 : k.toInt ≤ 7) (hn : 8 * x.toInt + 8 ≤ n) : vp_in (8 * x + k) n := by
  have e8 : (8 : Int32).toInt = 8 := rfl
  have ea : (8 * x).toInt = 8 * x.toInt := by rw [i32_mul (by rw [e8]; omega) (by rw [e8]; omega), e8]
  have es : (8 * x + k).toInt = 8 * x.toInt + k.toInt := by rw [i32_add (by omega) (by omega), ea]
  exact vp_of (by omega) (by omega)
theorem ix8n {x k : Int32} (h0 : 0 ≤ x.toInt) (h1 : x.toInt ≤ 3) (k0 : 0 ≤ k.toInt) (k1 : k.toInt ≤ 7) : (8 * x + k).toNatClampNeg = 8 * x.toNatClampNeg + k.toInt.toNat := by
  have e8 : (8 : Int32).toInt = 8 := rfl
  have ea : (8 * x).toInt = 8 * x.toInt := by rw [i32_mul (by rw [e8]; omega) (by rw [e8]; omega), e8]
  have es : (8 * x + k).toInt = 8 * x.toInt + k.toInt := by rw [i32_add (by omega) (by omega), ea]
  have n2 : x.toNatClampNeg = x.toInt.toNat := rfl
  show (8 * x + k).toInt.toNat = _
  omega
theorem ix8m {x k : Int32} {n : Nat} (h0 : 0 ≤ x.toInt) (h1 : x.toInt ≤ 3) (k0 : 1 ≤ k.toInt) (k1 : k.toInt ≤ 7) (hn : 8 * x.toInt + 8 ≤ n) : vp_in (8 * x + k - 1) n := by
  have e8 : (8 : Int32).toInt = 8 := rfl
  have ea : (8 * x).toInt = 8 * x.toInt := by rw [i32_mul (by rw [e8]; omega) (by rw [e8]; omega), e8]
  have es : (8 * x + k).toInt = 8 * x.toInt + k.toInt := by rw [i32_add (by omega) (by omega), ea]
  have es1 : (8 * x + k - 1).toInt = 8 * x.toInt + k.toInt - 1 := by rw [i32_m1 (by omega), es]
  exact vp_of (by omega) (by omega)
theorem i32_dec {k : Int32} (h : 1 ≤ k.toInt) : (k + -1).toInt = k.toInt - 1 := by
  have h2 := i32_hi k
  rw [i32_add (by rw [show (-1 : Int32).toInt = -1 from rfl]; omega) (by rw [show (-1 : Int32).toInt = -1 from rfl]; omega), show (-1 : Int32).toInt = -1 from rfl]
  omega
theorem ck_J.sf {c : Nat} {σ0 σ : ab_S} (h : ck_J c σ0 σ) (k i j : Nat) {v : Int32} (hw : ck_wr c k j = true) (hr : ck_rn k j = (-2147483648, 2147483647)) : ck_J c σ0 (ab_si σ k i j v) := h.si i hw (by rw [hr]; exact i32_lo v) (by rw [hr]; exact i32_hi v)
def qJ9_max_7cf53 : List ck_Co := [(3, [], [])]
def qJ9_min_7cf53 : List ck_Co := [(4, [], [])]
def qJ9_min_f86c9 : List ck_Co := [(5, [], [])]
def qJ9_abs_0f7a4 : List ck_Co := [(0, [.inl (.inl ((-2147483648), 2147483647, false))], [([], some (.inl (.inl ((-2147483648), 2147483647, false))))])]
theorem hJ9_max_7cf53 {J : ab_S → Prop} : ∀ c ∈ qJ9_max_7cf53, ck_co J c ab_mx := fun c hc => by
  rcases List.mem_cons.mp hc with rfl | hc
  · intro x y σ P h
    refine h _ ?_
    by_cases q : x < y
    · rw [if_pos q]
      have := Int32.lt_iff_toInt_lt.mp q
      omega
    · rw [if_neg q]
      have hq : ¬ x.toInt < y.toInt := fun w => q (Int32.lt_iff_toInt_lt.mpr w)
      omega
  · exact absurd hc List.not_mem_nil
theorem hJ9_min_7cf53 {J : ab_S → Prop} : ∀ c ∈ qJ9_min_7cf53, ck_co J c ab_mi := fun c hc => by
  rcases List.mem_cons.mp hc with rfl | hc
  · intro x y σ P h
    refine h _ ?_
    by_cases q : y < x
    · rw [if_pos q]
      have := Int32.lt_iff_toInt_lt.mp q
      omega
    · rw [if_neg q]
      have hq : ¬ y.toInt < x.toInt := fun w => q (Int32.lt_iff_toInt_lt.mpr w)
      omega
  · exact absurd hc List.not_mem_nil
theorem hJ9_min_f86c9 {J : ab_S → Prop} : ∀ c ∈ qJ9_min_f86c9, ck_co J c ab_ml2 := fun c hc => by
  rcases List.mem_cons.mp hc with rfl | hc
  · intro x y σ P h
    refine h _ ?_
    by_cases q : y < x
    · rw [if_pos q]
      have := Int64.lt_iff_toInt_lt.mp q
      omega
    · rw [if_neg q]
      have hq : ¬ y.toInt < x.toInt := fun w => q (Int64.lt_iff_toInt_lt.mpr w)
      omega
  · exact absurd hc List.not_mem_nil
theorem hJ9_abs_0f7a4 {J : ab_S → Prop} : ∀ c ∈ qJ9_abs_0f7a4, ck_co J c ab_mb := fun c hc => by
  rcases List.mem_cons.mp hc with rfl | hc
  · intro as σ P hJ hd h
    rcases as with _ | ⟨v, _ | ⟨w, t⟩⟩
    · exact hd.elim
    · obtain ⟨⟨x, rfl, _⟩, _⟩ := hd
      exact h _ σ hJ ⟨_, List.mem_cons_self, (fun c hc => absurd hc List.not_mem_nil), _, rfl, _, rfl, i32_lo _, i32_hi _, fun h => by cases h⟩
    · exact hd.2.elim
  · exact absurd hc List.not_mem_nil
