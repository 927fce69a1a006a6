/-! ===== a checker of ranges, path by path, for methods of the abstract machine ===== -/
abbrev ck_I : Type := Nat × Int
abbrev ck_A : Type := (ck_I ⊕ ck_I ⊕ (ck_I × ck_I)) ⊕ Option (Nat × Nat × Nat)
abbrev ck_E : Type := List (Nat × Int × Int × Bool)
abbrev ck_C : Type := List (Option ck_A)
abbrev ck_S : Type := Nat × ck_E × ck_C × List ck_A
abbrev ck_D : Type := ((Int × Int × Bool) ⊕ (Int × Int × Bool)) ⊕ Option (Nat × Nat × Nat)
def ck_q (ρ : Nat → Int) (n : Nat) (q : ck_I) (z : Int) : Prop := q.1 < n ∧ z = ρ q.1 + q.2
def ck_v (ρ : Nat → Int) (n : Nat) (a : ck_A) (v : ab_V) : Prop := match a with
  | .inl (.inl q) => ∃ x : Int32, v = .inl (.inl x) ∧ ck_q ρ n q x.toInt
  | .inl (.inr (.inl q)) => ∃ x : Int64, v = .inl (.inr x) ∧ ck_q ρ n q x.toInt
  | .inl (.inr (.inr q)) => ∃ x y : Int64, v = .inl (.inl (lg_cmp x y)) ∧ ck_q ρ n q.1 x.toInt ∧ ck_q ρ n q.2 y.toInt
  | .inr none => v = .inr none
  | .inr (some q) => ∃ i : Nat, v = .inr (some (q.1, i)) ∧ q.2.1 ≤ i ∧ i ≤ q.2.2
def ck_k (ρ : Nat → Int) (n : Nat) (as : List ck_A) (vs : List ab_V) : Prop := match as, vs with
  | [], [] => True
  | a :: t, v :: u => ck_v ρ n a v ∧ ck_k ρ n t u
  | _, _ => False
def ck_o (ρ : Nat → Int) (n : Nat) (a : Option ck_A) (v : Option ab_V) : Prop := match a with
  | none => True
  | some a => ∃ w, v = some w ∧ ck_v ρ n a w
def ck_l (ρ : Nat → Int) (n : Nat) (A : ck_C) (L : ab_L) : Prop := match A, L with
  | [], [] => True
  | a :: t, v :: u => ck_o ρ n a v ∧ ck_l ρ n t u
  | _, _ => False
def ck_en (ρ : Nat → Int) (n : Nat) (e : ck_E) : Prop := ∀ q ∈ e, q.1 < n ∧ q.2.1 ≤ ρ q.1 ∧ ρ q.1 ≤ q.2.2.1 ∧ (q.2.2.2 = true → ρ q.1 ≠ 0)
def ck_x (n n' : Nat) (ρ ρ' : Nat → Int) : Prop := n ≤ n' ∧ ∀ i, i < n → ρ' i = ρ i
def ck_m (ρ : Nat → Int) (s : ck_S) (L : ab_L) (st : List ab_V) : Prop := 0 < s.1 ∧ ρ 0 = 0 ∧ ck_en ρ s.1 s.2.1 ∧ ck_l ρ s.1 s.2.2.1 L ∧ ck_k ρ s.1 s.2.2.2 st
theorem ck_x.rf {n : Nat} {ρ : Nat → Int} : ck_x n n ρ ρ := ⟨Nat.le_refl _, fun _ _ => rfl⟩
theorem ck_x.tr {n n1 n2 : Nat} {ρ ρ1 ρ2 : Nat → Int} (h : ck_x n n1 ρ ρ1) (k : ck_x n1 n2 ρ1 ρ2) : ck_x n n2 ρ ρ2 := ⟨Nat.le_trans h.1 k.1, fun i hi => (k.2 i (Nat.lt_of_lt_of_le hi h.1)).trans (h.2 i hi)⟩
theorem ck_q.up {n n' : Nat} {ρ ρ' : Nat → Int} {q : ck_I} {z : Int} (h : ck_q ρ n q z) (x : ck_x n n' ρ ρ') : ck_q ρ' n' q z := ⟨Nat.lt_of_lt_of_le h.1 x.1, by rw [x.2 _ h.1]; exact h.2⟩
theorem ck_v.up {n n' : Nat} {ρ ρ' : Nat → Int} {a : ck_A} {v : ab_V} (h : ck_v ρ n a v) (x : ck_x n n' ρ ρ') : ck_v ρ' n' a v := by
  rcases a with (q | q | q) | (_ | q)
  · obtain ⟨y, e, hq⟩ := h
    exact ⟨y, e, hq.up x⟩
  · obtain ⟨y, e, hq⟩ := h
    exact ⟨y, e, hq.up x⟩
  · obtain ⟨y, z, e, hq, hr⟩ := h
    exact ⟨y, z, e, hq.up x, hr.up x⟩
  · exact h
  · exact h
theorem ck_k.up {n n' : Nat} {ρ ρ' : Nat → Int} (x : ck_x n n' ρ ρ') : ∀ {as : List ck_A} {vs : List ab_V}, ck_k ρ n as vs → ck_k ρ' n' as vs
  | [], [], _ => trivial
  | _ :: _, _ :: _, h => ⟨h.1.up x, ck_k.up x h.2⟩
  | [], _ :: _, h => h.elim
  | _ :: _, [], h => h.elim
theorem ck_o.up {n n' : Nat} {ρ ρ' : Nat → Int} {a : Option ck_A} {v : Option ab_V} (h : ck_o ρ n a v) (x : ck_x n n' ρ ρ') : ck_o ρ' n' a v := by
  cases a with
  | none => trivial
  | some a => obtain ⟨w, e, hw⟩ := h; exact ⟨w, e, hw.up x⟩
theorem ck_l.up {n n' : Nat} {ρ ρ' : Nat → Int} (x : ck_x n n' ρ ρ') : ∀ {A : ck_C} {L : ab_L}, ck_l ρ n A L → ck_l ρ' n' A L
  | [], [], _ => trivial
  | _ :: _, _ :: _, h => ⟨h.1.up x, ck_l.up x h.2⟩
  | [], _ :: _, h => h.elim
  | _ :: _, [], h => h.elim
theorem ck_en.up {n n' : Nat} {ρ ρ' : Nat → Int} {e : ck_E} (h : ck_en ρ n e) (x : ck_x n n' ρ ρ') : ck_en ρ' n' e := fun q hq => by
  obtain ⟨h1, h2, h3, h4⟩ := h q hq
  rw [x.2 _ h1]
  exact ⟨Nat.lt_of_lt_of_le h1 x.1, h2, h3, h4⟩
theorem ck_k_cons {ρ : Nat → Int} {n : Nat} {a : ck_A} {t : List ck_A} {vs : List ab_V} (h : ck_k ρ n (a :: t) vs) : ∃ v u, vs = v :: u ∧ ck_v ρ n a v ∧ ck_k ρ n t u := by
  cases vs with
  | nil => exact h.elim
  | cons v u => exact ⟨v, u, rfl, h.1, h.2⟩
theorem ck_k_nil {ρ : Nat → Int} {n : Nat} {vs : List ab_V} (h : ck_k ρ n [] vs) : vs = [] := by
  cases vs with
  | nil => rfl
  | cons v u => exact h.elim
/-! forcing -/
def ck_fN {β : Type} (n : Nat) (f : Nat → β) : β := match n with
  | 0 => f 0
  | k + 1 => f (k + 1)
theorem ck_fN_eq {β : Type} (n : Nat) (f : Nat → β) : ck_fN n f = f n := by cases n <;> rfl
def ck_fI {β : Type} (z : Int) (f : Int → β) : β := match z with
  | .ofNat n => ck_fN n (fun n => f (.ofNat n))
  | .negSucc n => ck_fN n (fun n => f (.negSucc n))
theorem ck_fI_eq {β : Type} (z : Int) (f : Int → β) : ck_fI z f = f z := by cases z <;> simp only [ck_fI, ck_fN_eq]
/-! the range of a value -/
def ck_rg (e : ck_E) (q : ck_I) (f : Int → Int → Bool → Bool) : Bool := match e with
  | [] => false
  | p :: t => if p.1 == q.1 then f (p.2.1 + q.2) (p.2.2.1 + q.2) (p.2.2.2 && (q.2 == 0)) else ck_rg t q f
theorem ck_rg_ok {ρ : Nat → Int} {n : Nat} {q : ck_I} {z : Int} {f : Int → Int → Bool → Bool} (hq : ck_q ρ n q z) : ∀ {e : ck_E}, ck_rg e q f = true → ck_en ρ n e → ∃ lo hi nz, f lo hi nz = true ∧ lo ≤ z ∧ z ≤ hi ∧ (nz = true → z ≠ 0)
  | [], h, _ => by cases h
  | p :: t, h, he => by
    unfold ck_rg at h
    by_cases hp : p.1 == q.1
    · rw [if_pos hp] at h
      have hp : p.1 = q.1 := by simpa using hp
      obtain ⟨h1, h2, h3, h4⟩ := he p List.mem_cons_self
      rw [hp] at h2 h3 h4
      refine ⟨_, _, _, h, by rw [hq.2]; omega, by rw [hq.2]; omega, fun hz => ?_⟩
      have hz1 := (Bool.and_eq_true _ _).mp hz
      have hz2 : q.2 = 0 := by simpa using hz1.2
      rw [hq.2, hz2]
      have := h4 hz1.1
      omega
    · rw [if_neg hp] at h
      exact ck_rg_ok hq h (fun q' hq' => he q' (List.mem_cons_of_mem _ hq'))
/-- q1 + d ≤ q2 is assumed -/
def ck_le (e : ck_E) (q1 q2 : ck_I) (d : Int) (f : ck_E → Bool) : Bool :=
  ck_rg e q1 (fun l1 h1 z1 => ck_rg e q2 (fun l2 h2 z2 =>
    if decide (h2 < l1 + d) then true else
      ck_fI (min h1 (h2 - d) - q1.2) (fun h1' => ck_fI (max l2 (l1 + d) - q2.2) (fun l2' => ck_fI (l1 - q1.2) (fun l1' => ck_fI (h2 - q2.2) (fun h2' =>
        f ((q1.1, l1', h1', z1 && (q1.2 == 0)) :: (q2.1, l2', h2', z2 && (q2.2 == 0)) :: e)))))))
theorem ck_le_ok {ρ : Nat → Int} {n : Nat} {e : ck_E} {q1 q2 : ck_I} {a b d : Int} {f : ck_E → Bool} (h : ck_le e q1 q2 d f = true) (he : ck_en ρ n e) (h1 : ck_q ρ n q1 a) (h2 : ck_q ρ n q2 b) (hd : a + d ≤ b) : ∃ e', f e' = true ∧ ck_en ρ n e' := by
  obtain ⟨l1, u1, z1, h, a1, a2, a3⟩ := ck_rg_ok h1 h he
  obtain ⟨l2, u2, z2, h, b1, b2, b3⟩ := ck_rg_ok h2 h he
  have hc : ¬ (u2 < l1 + d) := by omega
  rw [if_neg (by simpa using hc)] at h
  simp only [ck_fI_eq] at h
  refine ⟨_, h, ?_⟩
  have e1 := h1.2
  have e2 := h2.2
  intro q hq
  rcases List.mem_cons.mp hq with rfl | hq
  · refine ⟨h1.1, ?_, ?_, fun hz => ?_⟩
    · show l1 - q1.2 ≤ ρ q1.1
      omega
    · show ρ q1.1 ≤ min u1 (u2 - d) - q1.2
      omega
    · have hz1 := (Bool.and_eq_true _ _).mp hz
      have hz2 : q1.2 = 0 := by simpa using hz1.2
      have := a3 hz1.1
      show ρ q1.1 ≠ 0
      omega
  · rcases List.mem_cons.mp hq with rfl | hq
    · refine ⟨h2.1, ?_, ?_, fun hz => ?_⟩
      · show max l2 (l1 + d) - q2.2 ≤ ρ q2.1
        omega
      · show ρ q2.1 ≤ u2 - q2.2
        omega
      · have hz1 := (Bool.and_eq_true _ _).mp hz
        have hz2 : q2.2 = 0 := by simpa using hz1.2
        have := b3 hz1.1
        show ρ q2.1 ≠ 0
        omega
    · exact he q hq
/-- q1 ≠ q2 is assumed: of use where q2 is one number -/
def ck_ne (e : ck_E) (q1 q2 : ck_I) (f : ck_E → Bool) : Bool :=
  ck_rg e q1 (fun l1 h1 z1 => ck_rg e q2 (fun l2 h2 _ =>
    if l2 == h2 then
      (if l1 == h1 && l1 == l2 then true else
        ck_fI ((if l1 == l2 then l1 + 1 else l1) - q1.2) (fun l1' => ck_fI ((if h1 == l2 then h1 - 1 else h1) - q1.2) (fun h1' =>
          f ((q1.1, l1', h1', (q1.2 == 0) && (z1 || l2 == 0)) :: e))))
    else f e))
theorem ck_ne_ok {ρ : Nat → Int} {n : Nat} {e : ck_E} {q1 q2 : ck_I} {a b : Int} {f : ck_E → Bool} (h : ck_ne e q1 q2 f = true) (he : ck_en ρ n e) (h1 : ck_q ρ n q1 a) (h2 : ck_q ρ n q2 b) (hd : a ≠ b) : ∃ e', f e' = true ∧ ck_en ρ n e' := by
  obtain ⟨l1, u1, z1, h, a1, a2, a3⟩ := ck_rg_ok h1 h he
  obtain ⟨l2, u2, z2, h, b1, b2, b3⟩ := ck_rg_ok h2 h he
  by_cases hc : l2 == u2
  · rw [if_pos hc] at h
    have hc : l2 = u2 := by simpa using hc
    have hb : b = l2 := by omega
    by_cases hc2 : (l1 == u1 && l1 == l2) = true
    · exfalso
      have := (Bool.and_eq_true _ _).mp hc2
      have q1 : l1 = u1 := by simpa using this.1
      have q2 : l1 = l2 := by simpa using this.2
      omega
    · rw [if_neg hc2] at h
      simp only [ck_fI_eq] at h
      refine ⟨_, h, ?_⟩
      have e1 := h1.2
      intro q hq
      rcases List.mem_cons.mp hq with rfl | hq
      · refine ⟨h1.1, ?_, ?_, fun hz => ?_⟩
        · show (if l1 == l2 then l1 + 1 else l1) - q1.2 ≤ ρ q1.1
          by_cases hx : l1 == l2
          · rw [if_pos hx]
            have : l1 = l2 := by simpa using hx
            omega
          · rw [if_neg hx]
            omega
        · show ρ q1.1 ≤ (if u1 == l2 then u1 - 1 else u1) - q1.2
          by_cases hx : u1 == l2
          · rw [if_pos hx]
            have : u1 = l2 := by simpa using hx
            omega
          · rw [if_neg hx]
            omega
        · have hz1 := (Bool.and_eq_true _ _).mp hz
          have hz2 : q1.2 = 0 := by simpa using hz1.1
          show ρ q1.1 ≠ 0
          rcases (Bool.or_eq_true _ _).mp hz1.2 with hz3 | hz3
          · have := a3 hz3
            omega
          · have : l2 = 0 := by simpa using hz3
            omega
      · exact he q hq
  · rw [if_neg hc] at h
    exact ⟨e, h, he⟩
/-- a comparison: both ways -/
def ck_cp (c : Jvm.ClassFile.Cond) (e : ck_E) (q1 q2 : ck_I) (f g : ck_E → Bool) : Bool := match c with
  | .eq => ck_le e q1 q2 0 (fun e => ck_le e q2 q1 0 f) && ck_ne e q1 q2 g
  | .ne => ck_ne e q1 q2 f && ck_le e q1 q2 0 (fun e => ck_le e q2 q1 0 g)
  | .lt => ck_le e q1 q2 1 f && ck_le e q2 q1 0 g
  | .ge => ck_le e q2 q1 0 f && ck_le e q1 q2 1 g
  | .gt => ck_le e q2 q1 1 f && ck_le e q1 q2 0 g
  | .le => ck_le e q1 q2 0 f && ck_le e q2 q1 1 g
def ck_ci (c : Jvm.ClassFile.Cond) (a b : Int) : Prop := match c with
  | .eq => a = b
  | .ne => ¬ a = b
  | .lt => a < b
  | .ge => b ≤ a
  | .gt => b < a
  | .le => a ≤ b
theorem ck_cp_ok {ρ : Nat → Int} {n : Nat} {c : Jvm.ClassFile.Cond} {e : ck_E} {q1 q2 : ck_I} {a b : Int} {f g : ck_E → Bool} (h : ck_cp c e q1 q2 f g = true) (he : ck_en ρ n e) (h1 : ck_q ρ n q1 a) (h2 : ck_q ρ n q2 b) : (ck_ci c a b → ∃ e', f e' = true ∧ ck_en ρ n e') ∧ (¬ ck_ci c a b → ∃ e', g e' = true ∧ ck_en ρ n e') := by
  cases c <;> (have h := (Bool.and_eq_true _ _).mp h; obtain ⟨ha, hb⟩ := h)
  · refine ⟨fun q => ?_, fun q => ck_ne_ok hb he h1 h2 q⟩
    have q : a = b := q
    obtain ⟨e', k, he'⟩ := ck_le_ok ha he h1 h2 (by omega)
    exact ck_le_ok k he' h2 h1 (by omega)
  · refine ⟨fun q => ck_ne_ok ha he h1 h2 q, fun q => ?_⟩
    have q : a = b := Decidable.not_not.mp q
    obtain ⟨e', k, he'⟩ := ck_le_ok hb he h1 h2 (by omega)
    exact ck_le_ok k he' h2 h1 (by omega)
  · exact ⟨fun q => ck_le_ok ha he h1 h2 (by have q : a < b := q; omega), fun q => ck_le_ok hb he h2 h1 (by have q : ¬ a < b := q; omega)⟩
  · exact ⟨fun q => ck_le_ok ha he h2 h1 (by have q : b ≤ a := q; omega), fun q => ck_le_ok hb he h1 h2 (by have q : ¬ b ≤ a := q; omega)⟩
  · exact ⟨fun q => ck_le_ok ha he h2 h1 (by have q : b < a := q; omega), fun q => ck_le_ok hb he h1 h2 (by have q : ¬ b < a := q; omega)⟩
  · exact ⟨fun q => ck_le_ok ha he h1 h2 (by have q : a ≤ b := q; omega), fun q => ck_le_ok hb he h2 h1 (by have q : ¬ a ≤ b := q; omega)⟩
