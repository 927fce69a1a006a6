/-! loops: at a head some locals are within ends, one grows or falls -/
abbrev ck_Lp : Type := List (Nat × Option ck_D) × Nat × Bool
def ck_hv (ds : List (Nat × Option ck_D)) (n l : Nat) (A : ck_C) : ck_C := match A with
  | [] => []
  | a :: t => (match ck_lk ds l with
    | none => a
    | some none => none
    | some (some (.inl (.inl _))) => some (.inl (.inl (n + l, 0)))
    | some (some (.inl (.inr _))) => some (.inl (.inr (.inl (n + l, 0))))
    | some (some (.inr o)) => some (.inr o)) :: ck_hv ds n (l + 1) t
def ck_he (ds : List (Nat × Option ck_D)) (n : Nat) (e : ck_E) : ck_E := match ds with
  | [] => e
  | d :: t => (match d.2 with
    | some (.inl (.inl p)) => (n + d.1, p.1, p.2.1, p.2.2) :: ck_he t n e
    | some (.inl (.inr p)) => (n + d.1, p.1, p.2.1, p.2.2) :: ck_he t n e
    | _ => ck_he t n e)
def ck_ec (ds : List (Nat × Option ck_D)) (e : ck_E) (A : ck_C) : Bool := match ds with
  | [] => true
  | d :: t => (match d.2 with
    | none => true
    | some c => ck_ld A d.1 (fun a => ck_ad e c a)) && ck_ec t e A
def ck_qe (p q : ck_I) : Bool := Nat.beq p.1 q.1 && decide (p.2 = q.2)
theorem ck_qe_ok {p q : ck_I} (h : ck_qe p q = true) : p = q := by
  obtain ⟨h1, h2⟩ := ck_an h
  exact Prod.ext (Nat.eq_of_beq_eq_true h1) (of_decide_eq_true h2)
def ck_eq (a b : Option ck_A) : Bool := match a, b with
  | some (.inl (.inl p)), some (.inl (.inl q)) => ck_qe p q
  | some (.inl (.inr (.inl p))), some (.inl (.inr (.inl q))) => ck_qe p q
  | some (.inr none), some (.inr none) => true
  | some (.inr (some p)), some (.inr (some q)) => Nat.beq p.1 q.1 && Nat.beq p.2.1 q.2.1 && Nat.beq p.2.2 q.2.2
  | _, _ => false
theorem ck_eq_ok {a b : Option ck_A} (h : ck_eq a b = true) : a = b := by
  unfold ck_eq at h
  split at h
  · rw [ck_qe_ok h]
  · rw [ck_qe_ok h]
  · rfl
  · obtain ⟨h1, h2⟩ := ck_an h
    obtain ⟨h3, h4⟩ := ck_an h1
    rw [Prod.ext (Nat.eq_of_beq_eq_true h3) (Prod.ext (Nat.eq_of_beq_eq_true h4) (Nat.eq_of_beq_eq_true h2))]
  · cases h
def ck_bk (ds : List (Nat × Option ck_D)) (l : Nat) (A A' : ck_C) : Bool := match A with
  | [] => (match A' with
    | [] => true
    | _ => false)
  | a :: t => (match A' with
    | [] => false
    | b :: u => (match ck_lk ds l with
      | some _ => true
      | none => (match a with
        | none => true
        | some _ => ck_eq a b)) && ck_bk ds (l + 1) t u)
def ck_pd (ds : List (Nat × Option ck_D)) (v : Nat) : Option (Int × Int × Bool) := match ck_lk ds v with
  | some (some (.inl (.inl p))) => some p
  | some (some (.inl (.inr p))) => some p
  | _ => none
def ck_sg (up : Bool) (o : Int) : Bool := match up with
  | true => decide (1 ≤ o)
  | false => decide (o ≤ -1)
def ck_vr (n v : Nat) (up : Bool) (A : ck_C) : Bool := match ck_at A v with
  | some a => (match ck_nq a with
    | some q => q.1 == n + v && ck_sg up q.2
    | none => false)
  | none => false
def ck_me (up : Bool) (p : Int × Int × Bool) (z : Int) : Nat := match up with
  | true => (p.2.1 - z).toNat
  | false => (z - p.1).toNat
def ck_hL (ds : List (Nat × Option ck_D)) (ρ : Nat → Int) (n l : Nat) (A : ck_C) (L : ab_L) : Prop := match A, L with
  | [], [] => True
  | a :: t, v :: u => (match ck_lk ds l with
    | none => ck_o ρ n a v
    | some none => True
    | some (some d) => ∃ w, v = some w ∧ ck_dv d w) ∧ ck_hL ds ρ n (l + 1) t u
  | _, _ => False
def ck_HC (ds : List (Nat × Option ck_D)) (ρ : Nat → Int) (n : Nat) (A : ck_C) (L : ab_L) : Prop := ck_hL ds ρ n 0 A L ∧ ∀ d ∈ ds, ∀ c, d.2 = some c → ∃ w, ab_at L d.1 = some w ∧ ck_dv c w
theorem ck_ec_ok {ρ : Nat → Int} {n : Nat} {e : ck_E} {A : ck_C} {L : ab_L} (he : ck_en ρ n e) (hl : ck_l ρ n A L) : ∀ {ds : List (Nat × Option ck_D)}, ck_ec ds e A = true → ∀ d ∈ ds, ∀ c, d.2 = some c → ∃ w, ab_at L d.1 = some w ∧ ck_dv c w
  | [], _, _, hd, _, _ => absurd hd List.not_mem_nil
  | d' :: t, h, d, hd, c, hc => by
    obtain ⟨h1, h2⟩ := ck_an h
    rcases List.mem_cons.mp hd with rfl | hd
    · rw [hc] at h1
      obtain ⟨a, v, k1, k2, k3⟩ := ck_ld_ok h1 hl
      exact ⟨v, k2, ck_ad_ok k1 he k3⟩
    · exact ck_ec_ok he hl h2 d hd c hc
theorem ab_at_nil {k : Nat} : ab_at [] k = none := by cases k <;> rfl
/-- the locals at position l on, of a list L0 -/
theorem ck_hL_of {L0 : ab_L} {ds : List (Nat × Option ck_D)} {ρ : Nat → Int} {n : Nat} (hd : ∀ d ∈ ds, ∀ c, d.2 = some c → ∃ w, ab_at L0 d.1 = some w ∧ ck_dv c w) : ∀ {A : ck_C} {L : ab_L} {l : Nat}, (∀ j, ab_at L j = ab_at L0 (l + j)) → ck_l ρ n A L → ck_hL ds ρ n l A L
  | [], [], _, _, _ => trivial
  | [], _ :: _, _, _, h => h.elim
  | _ :: _, [], _, _, h => h.elim
  | a :: t, v :: u, l, hj, h => by
    refine ⟨?_, ck_hL_of hd (fun j => (hj (j + 1)).trans (by rw [show l + (j + 1) = l + 1 + j by omega])) h.2⟩
    split
    · exact h.1
    · trivial
    · rename_i d e
      obtain ⟨w, h1, h2⟩ := hd _ (ck_lk_mem e) d rfl
      have := hj 0
      rw [Nat.add_zero] at this
      exact ⟨w, (show v = ab_at L0 l from this).trans h1, h2⟩
theorem ck_bk_ok {L0 : ab_L} {ds : List (Nat × Option ck_D)} {ρ ρ' : Nat → Int} {n n' : Nat} (hx : ∀ i, i < n → ρ' i = ρ i) (hd : ∀ d ∈ ds, ∀ c, d.2 = some c → ∃ w, ab_at L0 d.1 = some w ∧ ck_dv c w) : ∀ {A A' : ck_C} {L : ab_L} {l : Nat}, (∀ a ∈ A, ∀ b, a = some b → ∀ v, ck_v ρ' n' b v → ck_v ρ n b v) → (∀ j, ab_at L j = ab_at L0 (l + j)) → ck_bk ds l A A' = true → ck_l ρ' n' A' L → ck_hL ds ρ n l A L
  | [], [], [], _, _, _, _, _ => trivial
  | [], [], _ :: _, _, _, _, _, h => h.elim
  | [], _ :: _, _, _, _, _, h, _ => by cases h
  | _ :: _, [], _, _, _, _, h, _ => by cases h
  | _ :: _, _ :: _, [], _, _, _, _, h => h.elim
  | a :: t, b :: s, v :: u, l, ha, hj, h, hl => by
    obtain ⟨h1, h2⟩ := ck_an h
    refine ⟨?_, ck_bk_ok hx hd (fun a' h' => ha a' (List.mem_cons_of_mem _ h')) (fun j => (hj (j + 1)).trans (by rw [show l + (j + 1) = l + 1 + j by omega])) h2 hl.2⟩
    split
    · rename_i e
      rw [e] at h1
      rcases a with _ | a
      · trivial
      · have e2 : some a = b := ck_eq_ok h1
        subst e2
        obtain ⟨w, hw, hv⟩ := hl.1
        exact ⟨w, hw, ha _ List.mem_cons_self a rfl w hv⟩
    · trivial
    · rename_i d e
      obtain ⟨w, h1, h2⟩ := hd _ (ck_lk_mem e) d rfl
      have := hj 0
      rw [Nat.add_zero] at this
      exact ⟨w, (show v = ab_at L0 l from this).trans h1, h2⟩
/-- the numbers at a head -/
def ck_ρh (ρ : Nat → Int) (n : Nat) (L : ab_L) : Nat → Int := fun i => if i < n then ρ i else match ab_at L (i - n) with
  | some w => ck_num w
  | none => 0
theorem ck_ρh_lt {ρ : Nat → Int} {n i : Nat} {L : ab_L} (h : i < n) : ck_ρh ρ n L i = ρ i := if_pos h
theorem ck_ρh_at {ρ : Nat → Int} {n l : Nat} {L : ab_L} {w : ab_V} (h : ab_at L l = some w) : ck_ρh ρ n L (n + l) = ck_num w := by
  unfold ck_ρh
  rw [if_neg (by omega), Nat.add_sub_cancel_left, h]
theorem ck_hL_len {ds : List (Nat × Option ck_D)} {ρ : Nat → Int} {n : Nat} : ∀ {A : ck_C} {L : ab_L} {l : Nat}, ck_hL ds ρ n l A L → A.length = L.length
  | [], [], _, _ => rfl
  | [], _ :: _, _, h => h.elim
  | _ :: _, [], _, h => h.elim
  | _ :: _, _ :: _, _, h => by rw [List.length_cons, List.length_cons, ck_hL_len h.2]
theorem ab_at_lt : ∀ {L : ab_L} {k : Nat} {w : ab_V}, ab_at L k = some w → k < L.length
  | [], k, _, h => by rw [ab_at_nil] at h; cases h
  | _ :: t, 0, _, _ => Nat.succ_pos _
  | _ :: t, k + 1, _, h => Nat.succ_lt_succ (ab_at_lt (L := t) h)
theorem ck_hv_ok {ds : List (Nat × Option ck_D)} {ρ : Nat → Int} {n : Nat} {L0 : ab_L} : ∀ {A : ck_C} {L : ab_L} {l : Nat}, (∀ j, ab_at L j = ab_at L0 (l + j)) → ck_hL ds ρ n l A L → ck_l (ck_ρh ρ n L0) (n + L0.length) (ck_hv ds n l A) L
  | [], [], _, _, _ => trivial
  | [], _ :: _, _, _, h => h.elim
  | _ :: _, [], _, _, h => h.elim
  | a :: t, v :: u, l, hj, h => by
    refine ⟨?_, ck_hv_ok (fun j => (hj (j + 1)).trans (by rw [show l + (j + 1) = l + 1 + j by omega])) h.2⟩
    have h1 := h.1
    have hx : ck_x n (n + L0.length) ρ (ck_ρh ρ n L0) := ⟨Nat.le_add_right _ _, fun i hi => ck_ρh_lt hi⟩
    have hv : v = ab_at L0 l := hj 0
    revert h1
    rcases ck_lk ds l with _ | (_ | ((p | p) | o)) <;> intro h1
    · exact h1.up hx
    · trivial
    · obtain ⟨w, hw, x, rfl, _⟩ := h1
      have ha : ab_at L0 l = some (.inl (.inl x)) := hv.symm.trans hw
      refine ⟨_, hw, x, rfl, ?_, ?_⟩
      · show n + l < n + L0.length
        have := ab_at_lt ha
        omega
      · show x.toInt = ck_ρh ρ n L0 (n + l) + 0
        rw [ck_ρh_at ha]
        show x.toInt = x.toInt + 0
        omega
    · obtain ⟨w, hw, x, rfl, _⟩ := h1
      have ha : ab_at L0 l = some (.inl (.inr x)) := hv.symm.trans hw
      refine ⟨_, hw, x, rfl, ?_, ?_⟩
      · show n + l < n + L0.length
        have := ab_at_lt ha
        omega
      · show x.toInt = ck_ρh ρ n L0 (n + l) + 0
        rw [ck_ρh_at ha]
        show x.toInt = x.toInt + 0
        omega
    · obtain ⟨w, hw, hd⟩ := h1
      refine ⟨w, hw, ?_⟩
      rcases o with _ | o
      · exact hd
      · exact hd
theorem ck_he_ok {ρ : Nat → Int} {n : Nat} {e : ck_E} {L : ab_L} (he : ck_en ρ n e) : ∀ {ds : List (Nat × Option ck_D)}, (∀ d ∈ ds, ∀ c, d.2 = some c → ∃ w, ab_at L d.1 = some w ∧ ck_dv c w) → ck_en (ck_ρh ρ n L) (n + L.length) (ck_he ds n e)
  | [], _ => he.up ⟨Nat.le_add_right _ _, fun i hi => ck_ρh_lt hi⟩
  | d :: t, h => by
    have ih := ck_he_ok he (ds := t) (fun d' h' => h d' (List.mem_cons_of_mem _ h'))
    have h1 := h d List.mem_cons_self
    obtain ⟨l, c⟩ := d
    rcases c with _ | ((p | p) | o)
    · exact ih
    · obtain ⟨w, hw, x, rfl, b1, b2, b3⟩ := h1 _ rfl
      have hw : ab_at L l = some (.inl (.inl x)) := hw
      intro q hq
      rcases List.mem_cons.mp hq with rfl | hq
      · have := ab_at_lt hw
        refine ⟨by show n + l < n + L.length; omega, ?_, ?_, ?_⟩
        · show p.1 ≤ ck_ρh ρ n L (n + l)
          rw [ck_ρh_at hw]; exact b1
        · show ck_ρh ρ n L (n + l) ≤ p.2.1
          rw [ck_ρh_at hw]; exact b2
        · show p.2.2 = true → ck_ρh ρ n L (n + l) ≠ 0
          rw [ck_ρh_at hw]; exact b3
      · exact ih q hq
    · obtain ⟨w, hw, x, rfl, b1, b2, b3⟩ := h1 _ rfl
      have hw : ab_at L l = some (.inl (.inr x)) := hw
      intro q hq
      rcases List.mem_cons.mp hq with rfl | hq
      · have := ab_at_lt hw
        refine ⟨by show n + l < n + L.length; omega, ?_, ?_, ?_⟩
        · show p.1 ≤ ck_ρh ρ n L (n + l)
          rw [ck_ρh_at hw]; exact b1
        · show ck_ρh ρ n L (n + l) ≤ p.2.1
          rw [ck_ρh_at hw]; exact b2
        · show p.2.2 = true → ck_ρh ρ n L (n + l) ≠ 0
          rw [ck_ρh_at hw]; exact b3
      · exact ih q hq
    · exact ih
theorem ck_hL_up {ds : List (Nat × Option ck_D)} {ρ ρ' : Nat → Int} {n : Nat} (hx : ∀ i, i < n → ρ' i = ρ i) : ∀ {A : ck_C} {L : ab_L} {l : Nat}, ck_hL ds ρ n l A L → ck_hL ds ρ' n l A L
  | [], [], _, _ => trivial
  | [], _ :: _, _, h => h.elim
  | _ :: _, [], _, h => h.elim
  | a :: t, v :: u, l, h => by
    refine ⟨?_, ck_hL_up hx h.2⟩
    have h1 := h.1
    revert h1
    rcases ck_lk ds l with _ | (_ | d) <;> intro h1
    · exact h1.up ⟨Nat.le_refl _, hx⟩
    · trivial
    · exact h1
/-! the run -/
def ck_run (T : ck_T) (M : ab_M) (cd : List (Nat × Instr × Nat)) (lps : List (Nat × ck_Lp)) (R : Option ck_A → ck_E → Bool) (fuel : Nat) (act : List (Nat × Nat × ck_C)) (pc : Nat) (s : ck_S) : Bool := match fuel with
  | 0 => false
  | fuel + 1 => (match ck_lk lps pc with
    | none => (match ck_lk cd pc with
      | some q => ck_ex T M q.1 q.2 pc s.1 s.2.1 s.2.2.1 s.2.2.2 (fun pc s => ck_run T M cd lps R fuel act pc s) R
      | none => false)
    | some lp => (match s.2.2.2 with
      | _ :: _ => false
      | [] => (match ck_lk act pc with
        | some a => ck_ec lp.1 s.2.1 s.2.2.1 && ck_bk lp.1 0 a.2 s.2.2.1 && ck_vr a.1 lp.2.1 lp.2.2 s.2.2.1
        | none => (match ck_pd lp.1 lp.2.1 with
          | none => false
          | some _ => ck_ec lp.1 s.2.1 s.2.2.1 && (match ck_lk cd pc with
            | some q => ck_ex T M q.1 q.2 pc (s.1 + s.2.2.1.length) (ck_he lp.1 s.1 s.2.1) (ck_hv lp.1 s.1 0 s.2.2.1) [] (fun pc' s' => ck_run T M cd lps R fuel ((pc, s.1, s.2.2.1) :: act) pc' s') R
            | none => false)))))
