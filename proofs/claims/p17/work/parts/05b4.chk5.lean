/-! one instruction, checked -/
def ck_i1 (st : List ck_A) (f : ck_I → List ck_A → Bool) : Bool := match st with
  | .inl (.inl x) :: r => f x r
  | _ => false
def ck_i2 (st : List ck_A) (f : ck_I → ck_I → List ck_A → Bool) : Bool := match st with
  | .inl (.inl y) :: .inl (.inl x) :: r => f x y r
  | _ => false
def ck_l1 (st : List ck_A) (f : ck_I → List ck_A → Bool) : Bool := match st with
  | .inl (.inr (.inl x)) :: r => f x r
  | _ => false
def ck_l2 (st : List ck_A) (f : ck_I → ck_I → List ck_A → Bool) : Bool := match st with
  | .inl (.inr (.inl y)) :: .inl (.inr (.inl x)) :: r => f x y r
  | _ => false
theorem ck_i1_ok {ρ : Nat → Int} {n : Nat} {st : List ck_A} {u : List ab_V} {f : ck_I → List ck_A → Bool} (h : ck_i1 st f = true) (hk : ck_k ρ n st u) : ∃ q r x w, f q r = true ∧ u = .inl (.inl x) :: w ∧ ck_q ρ n q x.toInt ∧ ck_k ρ n r w := by
  unfold ck_i1 at h
  split at h
  · obtain ⟨v, w, rfl, ⟨x, rfl, hx⟩, hw⟩ := ck_k_cons hk
    exact ⟨_, _, x, w, h, rfl, hx, hw⟩
  · cases h
theorem ck_l1_ok {ρ : Nat → Int} {n : Nat} {st : List ck_A} {u : List ab_V} {f : ck_I → List ck_A → Bool} (h : ck_l1 st f = true) (hk : ck_k ρ n st u) : ∃ q r x w, f q r = true ∧ u = .inl (.inr x) :: w ∧ ck_q ρ n q x.toInt ∧ ck_k ρ n r w := by
  unfold ck_l1 at h
  split at h
  · obtain ⟨v, w, rfl, ⟨x, rfl, hx⟩, hw⟩ := ck_k_cons hk
    exact ⟨_, _, x, w, h, rfl, hx, hw⟩
  · cases h
theorem ck_i2_ok {ρ : Nat → Int} {n : Nat} {st : List ck_A} {u : List ab_V} {f : ck_I → ck_I → List ck_A → Bool} (h : ck_i2 st f = true) (hk : ck_k ρ n st u) : ∃ q1 q2 r x y w, f q1 q2 r = true ∧ u = .inl (.inl y) :: .inl (.inl x) :: w ∧ ck_q ρ n q1 x.toInt ∧ ck_q ρ n q2 y.toInt ∧ ck_k ρ n r w := by
  unfold ck_i2 at h
  split at h
  · obtain ⟨v, w, rfl, ⟨y, rfl, hy⟩, hw⟩ := ck_k_cons hk
    obtain ⟨v, w, rfl, ⟨x, rfl, hx⟩, hw2⟩ := ck_k_cons hw
    exact ⟨_, _, _, x, y, w, h, rfl, hx, hy, hw2⟩
  · cases h
theorem ck_l2_ok {ρ : Nat → Int} {n : Nat} {st : List ck_A} {u : List ab_V} {f : ck_I → ck_I → List ck_A → Bool} (h : ck_l2 st f = true) (hk : ck_k ρ n st u) : ∃ q1 q2 r x y w, f q1 q2 r = true ∧ u = .inl (.inr y) :: .inl (.inr x) :: w ∧ ck_q ρ n q1 x.toInt ∧ ck_q ρ n q2 y.toInt ∧ ck_k ρ n r w := by
  unfold ck_l2 at h
  split at h
  · obtain ⟨v, w, rfl, ⟨y, rfl, hy⟩, hw⟩ := ck_k_cons hk
    obtain ⟨v, w, rfl, ⟨x, rfl, hx⟩, hw2⟩ := ck_k_cons hw
    exact ⟨_, _, _, x, y, w, h, rfl, hx, hy, hw2⟩
  · cases h
def ck_cat (a : ck_A) : Nat := match a with
  | .inl (.inr (.inl _)) => 2
  | _ => 1
theorem ck_cat_ok {ρ : Nat → Int} {n : Nat} : ∀ {as : List ck_A} {vs : List ab_V}, ck_k ρ n as vs → vs.map ab_cat = as.map ck_cat
  | [], vs, h => by rw [ck_k_nil h]; rfl
  | a :: t, vs, h => by
    obtain ⟨v, w, rfl, hv, hw⟩ := ck_k_cons h
    rw [List.map_cons, List.map_cons, ck_cat_ok hw]
    congr 1
    rcases a with (q | q | q) | (_ | q)
    · obtain ⟨x, rfl, _⟩ := hv; rfl
    · obtain ⟨x, rfl, _⟩ := hv; rfl
    · obtain ⟨x, y, rfl, _⟩ := hv; rfl
    · have hv : v = .inr none := hv
      subst hv; rfl
    · obtain ⟨x, rfl, _⟩ := hv; rfl
def ck_pop (n : Nat) (st acc : List ck_A) : Option (List ck_A × List ck_A) := match n, st with
  | 0, st => some (acc, st)
  | _ + 1, [] => none
  | n + 1, v :: st => ck_pop n st (v :: acc)
theorem ck_pop_ok {ρ : Nat → Int} {m : Nat} : ∀ {n : Nat} {st acc as r : List ck_A} {u ac : List ab_V}, ck_pop n st acc = some (as, r) → ck_k ρ m st u → ck_k ρ m acc ac → ∃ vs w, ab_pop n u ac = some (vs, w) ∧ ck_k ρ m as vs ∧ ck_k ρ m r w
  | 0, st, acc, as, r, u, ac, h, hs, ha => by
    have h : some (acc, st) = some (as, r) := by cases st <;> exact h
    cases h
    exact ⟨ac, u, by cases u <;> rfl, ha, hs⟩
  | _ + 1, [], _, _, _, _, _, h, _, _ => by cases h
  | n + 1, v :: st, acc, as, r, u, ac, h, hs, ha => by
    obtain ⟨x, w, rfl, hx, hw⟩ := ck_k_cons hs
    exact ck_pop_ok (n := n) h hw ⟨hx, ha⟩
def ck_lk {β : Type} (l : List (Nat × β)) (i : Nat) : Option β := match l with
  | [] => none
  | q :: t => match Nat.beq q.1 i with
    | true => some q.2
    | false => ck_lk t i
theorem ck_lk_mem {β : Type} {i : Nat} {b : β} : ∀ {l : List (Nat × β)}, ck_lk l i = some b → (i, b) ∈ l
  | [], h => by cases h
  | q :: t, h => by
    unfold ck_lk at h
    split at h
    · rename_i e
      cases h
      have e : q.1 = i := Nat.eq_of_beq_eq_true e
      subst e
      exact List.mem_cons_self
    · exact List.mem_cons_of_mem _ (ck_lk_mem h)
def ck_w1 (n : Nat) (e : ck_E) (A : ck_C) (r as : List ck_A) (K : ck_S → Bool) : Bool := match as with
  | [.inl (.inl x), .inl (.inl a), .inl (.inl b)] => K (n, e, A, .inl (.inl (0, 0)) :: r) && ck_le e a x 0 (fun e => ck_le e x b 0 (fun e => K (n, e, A, .inl (.inl (0, 1)) :: r)))
  | _ => false
def ck_w2 (n : Nat) (e : ck_E) (A : ck_C) (r as : List ck_A) (K : ck_S → Bool) : Bool := match as with
  | [.inl (.inr (.inl x)), .inl (.inr (.inl a)), .inl (.inr (.inl b))] => K (n, e, A, .inl (.inl (0, 0)) :: r) && ck_le e a x 0 (fun e => ck_le e x b 0 (fun e => K (n, e, A, .inl (.inl (0, 1)) :: r)))
  | _ => false
def ck_w3 (n : Nat) (e : ck_E) (A : ck_C) (r as : List ck_A) (K : ck_S → Bool) : Bool := match as with
  | [.inl (.inl x), .inl (.inl y)] => ck_rg e x (fun l1 h1 _ => ck_rg e y (fun l2 h2 _ => ck_pu (.inr (max l1 l2, max h1 h2)) false n e A r K))
  | _ => false
def ck_w4 (n : Nat) (e : ck_E) (A : ck_C) (r as : List ck_A) (K : ck_S → Bool) : Bool := match as with
  | [.inl (.inl x), .inl (.inl y)] => ck_rg e x (fun l1 h1 _ => ck_rg e y (fun l2 h2 _ => ck_pu (.inr (min l1 l2, min h1 h2)) false n e A r K))
  | _ => false
def ck_w5 (n : Nat) (e : ck_E) (A : ck_C) (r as : List ck_A) (K : ck_S → Bool) : Bool := match as with
  | [.inl (.inr (.inl x)), .inl (.inr (.inl y))] => ck_rg e x (fun l1 h1 _ => ck_rg e y (fun l2 h2 _ => ck_pu (.inr (min l1 l2, min h1 h2)) true n e A r K))
  | _ => false
/-- a call by its contracts: the first that fits -/
def ck_call (n : Nat) (e : ck_E) (A : ck_C) (r as : List ck_A) (cs : List ck_Co) (K : ck_S → Bool) : Bool := match cs with
  | [] => false
  | c :: t => (match c.1 with
    | 0 => if ck_ads e c.2.1 as = true then ck_ou n e A r as K c.2.2 else ck_call n e A r as t K
    | 1 => ck_w1 n e A r as K
    | 2 => ck_w2 n e A r as K
    | 3 => ck_w3 n e A r as K
    | 4 => ck_w4 n e A r as K
    | 5 => ck_w5 n e A r as K
    | _ => false)
section
variable {J : ab_S → Prop} {ρ : Nat → Int} {n : Nat} {e : ck_E} {A : ck_C} {L : ab_L} {u : List ab_V} {σ : ab_S} {K : ck_S → Bool}
theorem ck_call_ok {r as : List ck_A} {vs : List ab_V} {sp : ab_Sp} {Q : ab_P} (hm : ck_m ρ (n, e, A, r) L u) (ha : ck_k ρ n as vs) (hJ : J σ) (hQ : ∀ s' ρ' v σ', K s' = true → ck_x n s'.1 ρ ρ' → ck_m ρ' s' L (v.toList ++ u) → J σ' → Q v σ') : ∀ {cs : List ck_Co}, (∀ c ∈ cs, ck_co J c sp) → ck_call n e A r as cs K = true → sp vs σ Q
  | [], _, h => by cases h
  | c :: t, hc, h => by
    have hc1 := hc c List.mem_cons_self
    obtain ⟨k, ds, os⟩ := c
    have h0 := hm.2.1
    have hn := hm.1
    have he := hm.2.2.1
    match k, h, hc1 with
    | 0, h, hc1 =>
      have h : (if ck_ads e ds as = true then ck_ou n e A r as K os else ck_call n e A r as t K) = true := h
      by_cases e1 : ck_ads e ds as = true
      · rw [if_pos e1] at h
        refine hc1 vs σ Q hJ (ck_ads_ok he e1 ha) (fun v σ' hJ' ho => ?_)
        obtain ⟨o, ho, h1, h2⟩ := ho
        obtain ⟨s', ρ', k1, k2, k3⟩ := ck_ou_ok hm ha h1 h2 h ho
        exact hQ s' ρ' v σ' k1 k2 k3 hJ'
      · rw [if_neg e1] at h
        exact ck_call_ok hm ha hJ hQ (fun c hc' => hc c (List.mem_cons_of_mem _ hc')) h
    | 1, h, hc1 =>
      have h : ck_w1 n e A r as K = true := h
      unfold ck_w1 at h
      split at h
      · obtain ⟨_, w, rfl, ⟨x, rfl, hx⟩, hw1⟩ := ck_k_cons ha
        obtain ⟨_, w, rfl, ⟨a, rfl, ha2⟩, hw2⟩ := ck_k_cons hw1
        obtain ⟨_, w, rfl, ⟨b, rfl, hb⟩, hw3⟩ := ck_k_cons hw2
        have hw4 := ck_k_nil hw3
        subst hw4
        have k := (Bool.and_eq_true _ _).mp h
        refine hc1 x a b σ Q (fun v hv => ?_)
        rcases hv with hv | ⟨hv, h1, h2⟩
        · exact hQ _ ρ (some (.inl (.inl v))) σ k.1 ck_x.rf (hm.push ⟨v, rfl, hn, by show v.toInt = ρ 0 + 0; omega⟩) hJ
        · obtain ⟨e1, k1, he1⟩ := ck_le_ok k.2 he ha2 hx (by omega)
          obtain ⟨e2, k2, he2⟩ := ck_le_ok k1 he1 hx hb (by omega)
          exact hQ _ ρ (some (.inl (.inl v))) σ k2 ck_x.rf (ck_m.push ⟨hn, h0, he2, hm.2.2.2.1, hm.2.2.2.2⟩ ⟨v, rfl, hn, by show v.toInt = ρ 0 + 1; omega⟩) hJ
      · cases h
    | 2, h, hc1 =>
      have h : ck_w2 n e A r as K = true := h
      unfold ck_w2 at h
      split at h
      · obtain ⟨_, w, rfl, ⟨x, rfl, hx⟩, hw1⟩ := ck_k_cons ha
        obtain ⟨_, w, rfl, ⟨a, rfl, ha2⟩, hw2⟩ := ck_k_cons hw1
        obtain ⟨_, w, rfl, ⟨b, rfl, hb⟩, hw3⟩ := ck_k_cons hw2
        have hw4 := ck_k_nil hw3
        subst hw4
        have k := (Bool.and_eq_true _ _).mp h
        refine hc1 x a b σ Q (fun v hv => ?_)
        rcases hv with hv | ⟨hv, h1, h2⟩
        · exact hQ _ ρ (some (.inl (.inl v))) σ k.1 ck_x.rf (hm.push ⟨v, rfl, hn, by show v.toInt = ρ 0 + 0; omega⟩) hJ
        · obtain ⟨e1, k1, he1⟩ := ck_le_ok k.2 he ha2 hx (by omega)
          obtain ⟨e2, k2, he2⟩ := ck_le_ok k1 he1 hx hb (by omega)
          exact hQ _ ρ (some (.inl (.inl v))) σ k2 ck_x.rf (ck_m.push ⟨hn, h0, he2, hm.2.2.2.1, hm.2.2.2.2⟩ ⟨v, rfl, hn, by show v.toInt = ρ 0 + 1; omega⟩) hJ
      · cases h
    | 3, h, hc1 =>
      have h : ck_w3 n e A r as K = true := h
      unfold ck_w3 at h
      split at h
      · obtain ⟨_, w, rfl, ⟨x, rfl, hx⟩, hw1⟩ := ck_k_cons ha
        obtain ⟨_, w, rfl, ⟨y, rfl, hy⟩, hw2⟩ := ck_k_cons hw1
        have hw3 := ck_k_nil hw2
        subst hw3
        obtain ⟨l1, h1, _, h, a1, a2, _⟩ := ck_rg_ok hx h he
        obtain ⟨l2, h2, _, h, b1, b2, _⟩ := ck_rg_ok hy h he
        refine hc1 x y σ Q (fun v hv => ?_)
        obtain ⟨s', ρ', k1, k2, k3⟩ := ck_pu_i (x := v) h hm (by show max l1 l2 ≤ v.toInt ∧ v.toInt ≤ max h1 h2; omega)
        exact hQ s' ρ' (some (.inl (.inl v))) σ k1 k2 k3 hJ
      · cases h
    | 4, h, hc1 =>
      have h : ck_w4 n e A r as K = true := h
      unfold ck_w4 at h
      split at h
      · obtain ⟨_, w, rfl, ⟨x, rfl, hx⟩, hw1⟩ := ck_k_cons ha
        obtain ⟨_, w, rfl, ⟨y, rfl, hy⟩, hw2⟩ := ck_k_cons hw1
        have hw3 := ck_k_nil hw2
        subst hw3
        obtain ⟨l1, h1, _, h, a1, a2, _⟩ := ck_rg_ok hx h he
        obtain ⟨l2, h2, _, h, b1, b2, _⟩ := ck_rg_ok hy h he
        refine hc1 x y σ Q (fun v hv => ?_)
        obtain ⟨s', ρ', k1, k2, k3⟩ := ck_pu_i (x := v) h hm (by show min l1 l2 ≤ v.toInt ∧ v.toInt ≤ min h1 h2; omega)
        exact hQ s' ρ' (some (.inl (.inl v))) σ k1 k2 k3 hJ
      · cases h
    | 5, h, hc1 =>
      have h : ck_w5 n e A r as K = true := h
      unfold ck_w5 at h
      split at h
      · obtain ⟨_, w, rfl, ⟨x, rfl, hx⟩, hw1⟩ := ck_k_cons ha
        obtain ⟨_, w, rfl, ⟨y, rfl, hy⟩, hw2⟩ := ck_k_cons hw1
        have hw3 := ck_k_nil hw2
        subst hw3
        obtain ⟨l1, h1, _, h, a1, a2, _⟩ := ck_rg_ok hx h he
        obtain ⟨l2, h2, _, h, b1, b2, _⟩ := ck_rg_ok hy h he
        refine hc1 x y σ Q (fun v hv => ?_)
        obtain ⟨s', ρ', k1, k2, k3⟩ := ck_pu_l (x := v) h hm (by show min l1 l2 ≤ v.toInt ∧ v.toInt ≤ min h1 h2; omega)
        exact hQ s' ρ' (some (.inl (.inr v))) σ k1 k2 k3 hJ
      · cases h
    | k + 6, h, hc1 => cases h
end
