/-! contracts -/
abbrev ck_Co : Type := Nat × List ck_D × List (List (Nat × Int × Int) × Option ck_D)
/-- ranges, writes, callees -/
abbrev ck_T : Type := (Nat → Nat → Int × Int) × (Nat → Nat → Bool) × List (Nat × List ck_Co)
def ck_dv (d : ck_D) (v : ab_V) : Prop := match d with
  | .inl (.inl p) => ∃ x : Int32, v = .inl (.inl x) ∧ p.1 ≤ x.toInt ∧ x.toInt ≤ p.2.1 ∧ (p.2.2 = true → x.toInt ≠ 0)
  | .inl (.inr p) => ∃ x : Int64, v = .inl (.inr x) ∧ p.1 ≤ x.toInt ∧ x.toInt ≤ p.2.1 ∧ (p.2.2 = true → x.toInt ≠ 0)
  | .inr none => v = .inr none
  | .inr (some q) => ∃ i : Nat, v = .inr (some (q.1, i)) ∧ q.2.1 ≤ i ∧ i ≤ q.2.2
def ck_ds (ds : List ck_D) (vs : List ab_V) : Prop := match ds, vs with
  | [], [] => True
  | d :: t, v :: u => ck_dv d v ∧ ck_ds t u
  | _, _ => False
def ck_num (v : ab_V) : Int := match v with
  | .inl (.inl x) => x.toInt
  | .inl (.inr x) => x.toInt
  | .inr _ => 0
def ck_od (o : Option ck_D) (r : Option ab_V) : Prop := match o with
  | none => r = none
  | some d => ∃ w, r = some w ∧ ck_dv d w
def ck_cs (cs : List (Nat × Int × Int)) (as : List ab_V) : Prop := ∀ c ∈ cs, ∀ v, as[c.1]? = some v → c.2.1 ≤ ck_num v ∧ ck_num v ≤ c.2.2
def ck_co (J : ab_S → Prop) (c : ck_Co) (sp : ab_Sp) : Prop := match c.1 with
  | 0 => ∀ (as : List ab_V) (σ : ab_S) (P : ab_P), J σ → ck_ds c.2.1 as → (∀ r σ', J σ' → (∃ o ∈ c.2.2, ck_cs o.1 as ∧ ck_od o.2 r) → P r σ') → sp as σ P
  | 1 => ∀ (x a b : Int32) (σ : ab_S) (P : ab_P), (∀ v : Int32, (v.toInt = 0 ∨ (v.toInt = 1 ∧ a.toInt ≤ x.toInt ∧ x.toInt ≤ b.toInt)) → P (some (.inl (.inl v))) σ) → sp [.inl (.inl x), .inl (.inl a), .inl (.inl b)] σ P
  | 2 => ∀ (x a b : Int64) (σ : ab_S) (P : ab_P), (∀ v : Int32, (v.toInt = 0 ∨ (v.toInt = 1 ∧ a.toInt ≤ x.toInt ∧ x.toInt ≤ b.toInt)) → P (some (.inl (.inl v))) σ) → sp [.inl (.inr x), .inl (.inr a), .inl (.inr b)] σ P
  | 3 => ∀ (x y : Int32) (σ : ab_S) (P : ab_P), (∀ v : Int32, v.toInt = max x.toInt y.toInt → P (some (.inl (.inl v))) σ) → sp [.inl (.inl x), .inl (.inl y)] σ P
  | 4 => ∀ (x y : Int32) (σ : ab_S) (P : ab_P), (∀ v : Int32, v.toInt = min x.toInt y.toInt → P (some (.inl (.inl v))) σ) → sp [.inl (.inl x), .inl (.inl y)] σ P
  | 5 => ∀ (x y : Int64) (σ : ab_S) (P : ab_P), (∀ v : Int64, v.toInt = min x.toInt y.toInt → P (some (.inl (.inr v))) σ) → sp [.inl (.inr x), .inl (.inr y)] σ P
  | _ => False
def ck_in (e : ck_E) (p : Int × Int × Bool) (q : ck_I) : Bool := ck_rg e q (fun l h z => decide (p.1 ≤ l) && decide (h ≤ p.2.1) && (!p.2.2 || z || decide (0 < l) || decide (h < 0)))
theorem ck_in_ok {ρ : Nat → Int} {n : Nat} {e : ck_E} {q : ck_I} {p : Int × Int × Bool} {z : Int} (h : ck_in e p q = true) (he : ck_en ρ n e) (hq : ck_q ρ n q z) : p.1 ≤ z ∧ z ≤ p.2.1 ∧ (p.2.2 = true → z ≠ 0) := by
  obtain ⟨l, u, nz, h, a1, a2, a3⟩ := ck_rg_ok hq h he
  have k1 := (Bool.and_eq_true _ _).mp h
  have k2 := (Bool.and_eq_true _ _).mp k1.1
  have c1 := of_decide_eq_true k2.1
  have c2 := of_decide_eq_true k2.2
  refine ⟨by omega, by omega, fun hp => ?_⟩
  have k3 := k1.2
  rw [hp] at k3
  rcases (Bool.or_eq_true _ _).mp k3 with k | k
  · rcases (Bool.or_eq_true _ _).mp k with k | k
    · rcases (Bool.or_eq_true _ _).mp k with k | k
      · cases k
      · exact a3 k
    · have := of_decide_eq_true k
      omega
  · have := of_decide_eq_true k
    omega
def ck_ad (e : ck_E) (d : ck_D) (a : ck_A) : Bool := match d with
  | .inl (.inl p) => (match a with
    | .inl (.inl q) => ck_in e p q
    | _ => false)
  | .inl (.inr p) => (match a with
    | .inl (.inr (.inl q)) => ck_in e p q
    | _ => false)
  | .inr none => (match a with
    | .inr none => true
    | _ => false)
  | .inr (some p) => (match a with
    | .inr (some q) => q.1 == p.1 && Nat.ble p.2.1 q.2.1 && Nat.ble q.2.2 p.2.2
    | _ => false)
theorem ck_ad_ok {ρ : Nat → Int} {n : Nat} {e : ck_E} {d : ck_D} {a : ck_A} {v : ab_V} (h : ck_ad e d a = true) (he : ck_en ρ n e) (hv : ck_v ρ n a v) : ck_dv d v := by
  rcases d with (p | p) | (_ | p)
  · rcases a with (q | q | q) | (_ | q) <;> first | (cases h; done) | skip
    obtain ⟨x, rfl, hx⟩ := hv
    exact ⟨x, rfl, ck_in_ok h he hx⟩
  · rcases a with (q | q | q) | (_ | q) <;> first | (cases h; done) | skip
    obtain ⟨x, rfl, hx⟩ := hv
    exact ⟨x, rfl, ck_in_ok h he hx⟩
  · rcases a with (q | q | q) | (_ | q) <;> first | (cases h; done) | skip
    exact hv
  · rcases a with (q | q | q) | (_ | q) <;> first | (cases h; done) | skip
    obtain ⟨i, rfl, h1, h2⟩ := hv
    have k1 := (Bool.and_eq_true _ _).mp h
    have k2 := (Bool.and_eq_true _ _).mp k1.1
    have c1 : q.1 = p.1 := eq_of_beq k2.1
    have c2 := Nat.le_of_ble_eq_true k2.2
    have c3 := Nat.le_of_ble_eq_true k1.2
    exact ⟨i, by rw [c1], by omega, by omega⟩
def ck_ads (e : ck_E) (ds : List ck_D) (as : List ck_A) : Bool := match ds with
  | [] => (match as with
    | [] => true
    | _ => false)
  | d :: t => (match as with
    | [] => false
    | a :: u => ck_ad e d a && ck_ads e t u)
theorem ck_ads_ok {ρ : Nat → Int} {n : Nat} {e : ck_E} (he : ck_en ρ n e) : ∀ {ds : List ck_D} {as : List ck_A} {vs : List ab_V}, ck_ads e ds as = true → ck_k ρ n as vs → ck_ds ds vs
  | [], [], vs, _, hv => by rw [ck_k_nil hv]; trivial
  | [], _ :: _, _, h, _ => by cases h
  | _ :: _, [], _, h, _ => by cases h
  | d :: t, a :: u, vs, h, hv => by
    obtain ⟨v, w, rfl, h1, h2⟩ := ck_k_cons hv
    have k := (Bool.and_eq_true _ _).mp h
    exact ⟨ck_ad_ok k.1 he h1, ck_ads_ok he k.2 h2⟩
/-! what a callee's end tells of its arguments -/
def ck_nq (a : ck_A) : Option ck_I := match a with
  | .inl (.inl q) => some q
  | .inl (.inr (.inl q)) => some q
  | _ => none
def ck_cn (e : ck_E) (as : List ck_A) (cs : List (Nat × Int × Int)) (f : ck_E → Bool) : Bool := match cs with
  | [] => f e
  | c :: t => (match as[c.1]? with
    | none => ck_cn e as t f
    | some a => (match ck_nq a with
      | none => ck_cn e as t f
      | some q => ck_le e (0, c.2.1) q 0 (fun e => ck_le e q (0, c.2.2) 0 (fun e => ck_cn e as t f))))
theorem ck_k_get {ρ : Nat → Int} {n : Nat} : ∀ {as : List ck_A} {vs : List ab_V} {i : Nat} {a : ck_A}, ck_k ρ n as vs → as[i]? = some a → ∃ v, vs[i]? = some v ∧ ck_v ρ n a v
  | [], _, _, _, _, h => by simp at h
  | _ :: _, [], _, _, h, _ => h.elim
  | b :: _, v :: _, 0, a, h, e => by
    have e : b = a := by simpa using e
    subst e
    exact ⟨v, by simp, h.1⟩
  | _ :: t, _ :: u, i + 1, a, h, e => by
    rw [List.getElem?_cons_succ] at e
    obtain ⟨v, h1, h2⟩ := ck_k_get (i := i) h.2 e
    exact ⟨v, by rw [List.getElem?_cons_succ]; exact h1, h2⟩
theorem ck_nq_ok {ρ : Nat → Int} {n : Nat} {a : ck_A} {v : ab_V} {q : ck_I} (h : ck_v ρ n a v) (e : ck_nq a = some q) : ck_q ρ n q (ck_num v) := by
  rcases a with (p | p | p) | (_ | p) <;> first | (cases e; done) | skip
  · cases e
    obtain ⟨x, rfl, hx⟩ := h
    exact hx
  · cases e
    obtain ⟨x, rfl, hx⟩ := h
    exact hx
theorem ck_cn_ok {ρ : Nat → Int} {n : Nat} {as : List ck_A} {vs : List ab_V} {f : ck_E → Bool} (hn : 0 < n) (h0 : ρ 0 = 0) (ha : ck_k ρ n as vs) : ∀ {cs : List (Nat × Int × Int)} {e : ck_E}, ck_cn e as cs f = true → ck_en ρ n e → ck_cs cs vs → ∃ e', f e' = true ∧ ck_en ρ n e'
  | [], e, h, he, _ => ⟨e, h, he⟩
  | c :: t, e, h, he, hc => by
    have ht : ck_cs t vs := fun c' h' => hc c' (List.mem_cons_of_mem _ h')
    unfold ck_cn at h
    split at h
    · exact ck_cn_ok hn h0 ha h he ht
    · rename_i a ea
      split at h
      · exact ck_cn_ok hn h0 ha h he ht
      · rename_i q eq
        obtain ⟨v, hv, hv2⟩ := ck_k_get ha ea
        have hq := ck_nq_ok hv2 eq
        obtain ⟨b1, b2⟩ := hc c List.mem_cons_self v hv
        obtain ⟨e1, h, he1⟩ := ck_le_ok (a := c.2.1) h he ⟨hn, by show c.2.1 = ρ 0 + c.2.1; omega⟩ hq (by omega)
        obtain ⟨e2, h, he2⟩ := ck_le_ok (b := c.2.2) h he1 hq ⟨hn, by show c.2.2 = ρ 0 + c.2.2; omega⟩ (by omega)
        exact ck_cn_ok hn h0 ha h he2 ht
/-- a result on the stack -/
def ck_rp (d : Option ck_D) (n : Nat) (e : ck_E) (A : ck_C) (r : List ck_A) (K : ck_S → Bool) : Bool := match d with
  | none => K (n, e, A, r)
  | some (.inl (.inl p)) => if p.1 == p.2.1 then K (n, e, A, .inl (.inl (0, p.1)) :: r) else ck_fN (n + 1) (fun m => K (m, (n, p.1, p.2.1, p.2.2) :: e, A, .inl (.inl (n, 0)) :: r))
  | some (.inl (.inr p)) => ck_fN (n + 1) (fun m => K (m, (n, p.1, p.2.1, p.2.2) :: e, A, .inl (.inr (.inl (n, 0))) :: r))
  | some (.inr q) => K (n, e, A, .inr q :: r)
theorem ck_rp_ok {ρ : Nat → Int} {n : Nat} {e : ck_E} {A : ck_C} {r : List ck_A} {L : ab_L} {u : List ab_V} {d : Option ck_D} {v : Option ab_V} {K : ck_S → Bool} (h : ck_rp d n e A r K = true) (hm : ck_m ρ (n, e, A, r) L u) (hv : ck_od d v) : ∃ s' ρ', K s' = true ∧ ck_x n s'.1 ρ ρ' ∧ ck_m ρ' s' L (v.toList ++ u) := by
  rcases d with _ | ((p | p) | q)
  · have hv : v = none := hv
    subst hv
    exact ⟨_, ρ, h, ck_x.rf, hm⟩
  · obtain ⟨w, rfl, x, rfl, h1, h2, h3⟩ := hv
    unfold ck_rp at h
    dsimp only at h
    by_cases c : (p.1 == p.2.1) = true
    · rw [if_pos c] at h
      have c : p.1 = p.2.1 := eq_of_beq c
      exact ⟨_, ρ, h, ck_x.rf, hm.push ⟨x, rfl, hm.1, by show x.toInt = ρ 0 + p.1; rw [hm.2.1]; omega⟩⟩
    · rw [if_neg c, ck_fN_eq] at h
      exact ⟨_, ck_ρ ρ n x.toInt, h, ck_ρx, (hm.fresh h1 h2 h3).push ⟨x, rfl, Nat.lt_succ_self n, by rw [ck_ρn]; omega⟩⟩
  · obtain ⟨w, rfl, x, rfl, h1, h2, h3⟩ := hv
    unfold ck_rp at h
    dsimp only at h
    rw [ck_fN_eq] at h
    exact ⟨_, ck_ρ ρ n x.toInt, h, ck_ρx, (hm.fresh h1 h2 h3).push ⟨x, rfl, Nat.lt_succ_self n, by rw [ck_ρn]; omega⟩⟩
  · obtain ⟨w, rfl, hw⟩ := hv
    refine ⟨_, ρ, h, ck_x.rf, hm.push ?_⟩
    rcases q with _ | q
    · exact hw
    · exact hw
def ck_ou (n : Nat) (e : ck_E) (A : ck_C) (r as : List ck_A) (K : ck_S → Bool) (os : List (List (Nat × Int × Int) × Option ck_D)) : Bool := match os with
  | [] => true
  | o :: t => ck_cn e as o.1 (fun e => ck_rp o.2 n e A r K) && ck_ou n e A r as K t
theorem ck_ou_ok {ρ : Nat → Int} {n : Nat} {e : ck_E} {A : ck_C} {r as : List ck_A} {L : ab_L} {u vs : List ab_V} {K : ck_S → Bool} (hm : ck_m ρ (n, e, A, r) L u) (ha : ck_k ρ n as vs) {o : List (Nat × Int × Int) × Option ck_D} {v : Option ab_V} (hc : ck_cs o.1 vs) (hd : ck_od o.2 v) : ∀ {os : List (List (Nat × Int × Int) × Option ck_D)}, ck_ou n e A r as K os = true → o ∈ os → ∃ s' ρ', K s' = true ∧ ck_x n s'.1 ρ ρ' ∧ ck_m ρ' s' L (v.toList ++ u)
  | [], _, ho => absurd ho List.not_mem_nil
  | o' :: t, h, ho => by
    have k := (Bool.and_eq_true _ _).mp h
    rcases List.mem_cons.mp ho with rfl | ho
    · obtain ⟨e', h', he'⟩ := ck_cn_ok hm.1 hm.2.1 ha k.1 hm.2.2.1 hc
      exact ck_rp_ok h' ⟨hm.1, hm.2.1, he', hm.2.2.2.1, hm.2.2.2.2⟩ hd
    · exact ck_ou_ok hm ha hc hd k.2 ho
