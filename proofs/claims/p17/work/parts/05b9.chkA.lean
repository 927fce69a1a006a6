theorem ck_v_dn {ρ ρ' : Nat → Int} {n n' : Nat} {a : ck_A} {v w : ab_V} (h : ck_v ρ n a w) (hx : ∀ i, i < n → ρ' i = ρ i) (k : ck_v ρ' n' a v) : ck_v ρ n a v := by
  rcases a with (q | q | q) | (_ | q)
  · obtain ⟨x, _, hq⟩ := h
    obtain ⟨y, e, kq⟩ := k
    exact ⟨y, e, hq.1, by rw [← hx _ hq.1]; exact kq.2⟩
  · obtain ⟨x, _, hq⟩ := h
    obtain ⟨y, e, kq⟩ := k
    exact ⟨y, e, hq.1, by rw [← hx _ hq.1]; exact kq.2⟩
  · obtain ⟨x, x', _, hq, hr⟩ := h
    obtain ⟨y, y', e, kq, kr⟩ := k
    exact ⟨y, y', e, ⟨hq.1, by rw [← hx _ hq.1]; exact kq.2⟩, ⟨hr.1, by rw [← hx _ hr.1]; exact kr.2⟩⟩
  · exact k
  · exact k
theorem ck_l_mem {ρ : Nat → Int} {n : Nat} : ∀ {A : ck_C} {L : ab_L}, ck_l ρ n A L → ∀ b ∈ A, ∀ c, b = some c → ∃ w, ck_v ρ n c w
  | [], _, _, _, h, _, _ => absurd h List.not_mem_nil
  | _ :: _, [], h, _, _, _, _ => h.elim
  | a :: t, v :: u, h, b, hb, c, hc => by
    rcases List.mem_cons.mp hb with rfl | hb
    · subst hc
      obtain ⟨w, _, hw⟩ := h.1
      exact ⟨w, hw⟩
    · exact ck_l_mem h.2 b hb c hc
theorem ck_l_len {ρ : Nat → Int} {n : Nat} : ∀ {A : ck_C} {L : ab_L}, ck_l ρ n A L → A.length = L.length
  | [], [], _ => rfl
  | [], _ :: _, h => h.elim
  | _ :: _, [], h => h.elim
  | _ :: _, _ :: _, h => by rw [List.length_cons, List.length_cons, ck_l_len h.2]
theorem ck_pd_at {ds : List (Nat × Option ck_D)} {v : Nat} {p : Int × Int × Bool} {L : ab_L} (h : ck_pd ds v = some p) (hd : ∀ d ∈ ds, ∀ c, d.2 = some c → ∃ w, ab_at L d.1 = some w ∧ ck_dv c w) : ∃ w, ab_at L v = some w ∧ p.1 ≤ ck_num w ∧ ck_num w ≤ p.2.1 := by
  unfold ck_pd at h
  split at h
  · rename_i p' e
    cases h
    obtain ⟨w, hw, x, rfl, b1, b2, _⟩ := hd _ (ck_lk_mem e) _ rfl
    exact ⟨_, hw, b1, b2⟩
  · rename_i p' e
    cases h
    obtain ⟨w, hw, x, rfl, b1, b2, _⟩ := hd _ (ck_lk_mem e) _ rfl
    exact ⟨_, hw, b1, b2⟩
  · cases h
section
variable {T : ck_T} {M : ab_M} {J : ab_S → Prop} {cc : ByteArray} {cd : List (Nat × Instr × Nat)} {lps : List (Nat × ck_Lp)} {R : Option ck_A → ck_E → Bool} {P : ab_P} {ρ0 : Nat → Int} {m0 : Nat}
theorem ck_step {pc : Nat} {L : ab_L} {st : List ab_V} {σ : ab_S} {i : Instr} {len : Nat} (hM : ab_mo M) (d : decode cc pc = .ok (i, len)) (h : ab_ex M none i len pc L st σ (ab_wp M cc none P) P) : ab_wp M cc none P pc L st σ := by
  refine ab_wp_step hM ?_
  unfold ab_st
  rw [d]
  exact h
def ck_IH (M : ab_M) (cc : ByteArray) (P : ab_P) (J : ab_S → Prop) (lps : List (Nat × ck_Lp)) (ρ : Nat → Int) (n : Nat) (a : Nat × Nat × ck_C) : Prop := ∃ (ρa : Nat → Int) (ds : List (Nat × Option ck_D)) (v : Nat) (up : Bool) (p : Int × Int × Bool), ck_lk lps a.1 = some (ds, v, up) ∧ ck_pd ds v = some p ∧ (∀ i, i < a.2.1 + a.2.2.length → ρ i = ρa i) ∧ a.2.1 + a.2.2.length ≤ n ∧ (∀ b ∈ a.2.2, ∀ c, b = some c → ∃ w, ck_v ρa a.2.1 c w) ∧ ∀ (L' : ab_L) (σ' : ab_S), ck_HC ds ρa a.2.1 a.2.2 L' → J σ' → (∀ w, ab_at L' v = some w → ck_me up p (ck_num w) < ck_me up p (ρa (a.2.1 + v))) → ab_wp M cc none P a.1 L' [] σ'
theorem ck_IH.up {ρ ρ' : Nat → Int} {n n' : Nat} {a : Nat × Nat × ck_C} (h : ck_IH M cc P J lps ρ n a) (x : ck_x n n' ρ ρ') : ck_IH M cc P J lps ρ' n' a := by
  obtain ⟨ρa, ds, v, up, p, h1, h2, h3, h4, h5, h6⟩ := h
  exact ⟨ρa, ds, v, up, p, h1, h2, fun i hi => (x.2 i (Nat.lt_of_lt_of_le hi h4)).trans (h3 i hi), Nat.le_trans h4 x.1, h5, h6⟩
set_option maxHeartbeats 1000000 in
theorem ck_run_ok (H : ck_H T M J) (hM : ab_mo M) (hcd : ∀ q ∈ cd, decode cc q.1 = .ok q.2) (hR : ∀ a e n ρ v σ, R a e = true → ck_en ρ n e → ck_x m0 n ρ0 ρ → ck_o2 ρ n a v → J σ → P v σ) : ∀ (fuel : Nat) (act : List (Nat × Nat × ck_C)) (pc : Nat) (s : ck_S) (ρ : Nat → Int) (L : ab_L) (st : List ab_V) (σ : ab_S), ck_run T M cd lps R fuel act pc s = true → ck_m ρ s L st → ck_x m0 s.1 ρ0 ρ → J σ → (∀ a ∈ act, ck_IH M cc P J lps ρ s.1 a) → ab_wp M cc none P pc L st σ
  | 0, _, _, _, _, _, _, _, h, _, _, _, _ => by cases h
  | fuel + 1, act, pc, (n, e, A, stk), ρ, L, st, σ, h, hm, hx, hJ, hI => by
    have ih := ck_run_ok H hM hcd hR fuel
    unfold ck_run at h
    dsimp only at h
    cases hlp : ck_lk lps pc with
    | none =>
      rw [hlp] at h
      dsimp only at h
      cases hq : ck_lk cd pc with
      | none => rw [hq] at h; cases h
      | some q =>
        rw [hq] at h
        have hdec : decode cc pc = .ok q := hcd (pc, q) (ck_lk_mem hq)
        exact ck_step hM hdec (ck_ex_ok H h hm hJ (fun pc' s' ρ' L' u' σ' k1 k2 k3 k4 => ih act pc' s' ρ' L' u' σ' k1 k3 (hx.tr k2) k4 (fun a ha => (hI a ha).up k2)) (fun a v k1 k2 => hR a e n ρ v σ k1 hm.2.2.1 hx k2 hJ))
    | some lp =>
      obtain ⟨ds, v, up⟩ := lp
      rw [hlp] at h
      dsimp only at h
      rcases stk with _ | ⟨a, stk⟩
      · have hst : st = [] := ck_k_nil hm.2.2.2.2
        subst hst
        dsimp only at h
        cases hac : ck_lk act pc with
        | some a =>
          rw [hac] at h
          dsimp only at h
          obtain ⟨h12, h3⟩ := ck_an h
          obtain ⟨h1, h2⟩ := ck_an h12
          obtain ⟨ρa, ds', v', up', p, i1, i2, i3, i4, i5, i6⟩ := hI _ (ck_lk_mem hac)
          have i1 : ck_lk lps pc = some (ds', v', up') := i1
          rw [hlp] at i1
          cases i1
          have hd := ck_ec_ok hm.2.2.1 hm.2.2.2.1 h1
          have hρ : ∀ i, i < a.1 → ρ i = ρa i := fun i hi => i3 i (Nat.lt_of_lt_of_le hi (Nat.le_add_right _ _))
          have hc := ck_bk_ok (L0 := L) (l := 0) (A := a.2) hρ hd (fun b hb c hc w hw => by
            obtain ⟨w0, hw0⟩ := i5 b hb c hc
            exact ck_v_dn hw0 hρ hw) (fun j => by rw [Nat.zero_add]) h2 hm.2.2.2.1
          refine i6 L σ ⟨hc, hd⟩ hJ (fun w hw => ?_)
          obtain ⟨w', hw', b1, b2⟩ := ck_pd_at i2 hd
          rw [hw] at hw'
          cases hw'
          unfold ck_vr at h3
          cases hat : ck_at A v with
          | none => rw [hat] at h3; cases h3
          | some b =>
            rw [hat] at h3
            dsimp only at h3
            cases hnq : ck_nq b with
            | none => rw [hnq] at h3; cases h3
            | some q =>
              rw [hnq] at h3
              obtain ⟨k1, k2⟩ := ck_an h3
              have k1 : q.1 = a.1 + v := eq_of_beq k1
              obtain ⟨w2, hw2, hv2⟩ := ck_at_ok hm.2.2.2.1 hat
              rw [hw] at hw2
              cases hw2
              have hq := ck_nq_ok hv2 hnq
              have hlen : a.2.length = L.length := ck_hL_len hc
              have hvl := ab_at_lt hw
              have hq2 := hq.2
              rw [k1, i3 (a.1 + v) (by show a.1 + v < a.1 + a.2.length; omega)] at hq2
              show ck_me up p (ck_num w) < ck_me up p (ρa (a.1 + v))
              cases up with
              | true =>
                have k2 : 1 ≤ q.2 := of_decide_eq_true k2
                show (p.2.1 - ck_num w).toNat < (p.2.1 - ρa (a.1 + v)).toNat
                omega
              | false =>
                have k2 : q.2 ≤ -1 := of_decide_eq_true k2
                show (ck_num w - p.1).toNat < (ρa (a.1 + v) - p.1).toNat
                omega
        | none =>
          rw [hac] at h
          dsimp only at h
          cases hpd : ck_pd ds v with
          | none => rw [hpd] at h; cases h
          | some p =>
            rw [hpd] at h
            dsimp only at h
            obtain ⟨h1, h⟩ := ck_an h
            cases hq : ck_lk cd pc with
            | none => rw [hq] at h; cases h
            | some q =>
              rw [hq] at h
              dsimp only at h
              have hdec : decode cc pc = .ok q := hcd (pc, q) (ck_lk_mem hq)
              have hd := ck_ec_ok hm.2.2.1 hm.2.2.2.1 h1
              have hHC : ck_HC ds ρ n A L := ⟨ck_hL_of hd (fun j => by rw [Nat.zero_add]) hm.2.2.2.1, hd⟩
              have hlA : A.length = L.length := ck_l_len hm.2.2.2.1
              have key : ∀ (N : Nat) (L' : ab_L) (σ' : ab_S), ck_HC ds ρ n A L' → J σ' → (∀ w, ab_at L' v = some w → ck_me up p (ck_num w) < N) → ab_wp M cc none P pc L' [] σ' := by
                intro N
                induction N with
                | zero =>
                  intro L' σ' hh hJ' hN
                  obtain ⟨w, hw, _⟩ := ck_pd_at hpd hh.2
                  exact absurd (hN w hw) (Nat.not_lt_zero _)
                | succ N ihN =>
                  intro L' σ' hh hJ' hN
                  obtain ⟨w, hw, _⟩ := ck_pd_at hpd hh.2
                  have hl' : A.length = L'.length := ck_hL_len hh.1
                  have hm' : ck_m (ck_ρh ρ n L') (n + A.length, ck_he ds n e, ck_hv ds n 0 A, []) L' [] := by
                    rw [hl']
                    exact ⟨Nat.lt_of_lt_of_le hm.1 (Nat.le_add_right _ _), by rw [ck_ρh_lt hm.1]; exact hm.2.1, ck_he_ok hm.2.2.1 hh.2, ck_hv_ok (fun j => by rw [Nat.zero_add]) hh.1, trivial⟩
                  have hxh : ck_x n (n + A.length) ρ (ck_ρh ρ n L') := ⟨Nat.le_add_right _ _, fun i hi => ck_ρh_lt hi⟩
                  have hIh : ck_IH M cc P J lps (ck_ρh ρ n L') (n + A.length) (pc, n, A) := by
                    refine ⟨ck_ρh ρ n L', ds, v, up, p, hlp, hpd, fun _ _ => rfl, Nat.le_refl _, fun b hb c hc => ?_, fun L2 σ2 hh2 hJ2 hN2 => ?_⟩
                    · obtain ⟨w0, hw0⟩ := ck_l_mem hm.2.2.2.1 b hb c hc
                      exact ⟨w0, hw0.up ⟨Nat.le_refl _, fun i hi => ck_ρh_lt hi⟩⟩
                    · refine ihN L2 σ2 ⟨ck_hL_up (fun i hi => (ck_ρh_lt hi).symm) hh2.1, hh2.2⟩ hJ2 (fun w2 hw2 => ?_)
                      have b1 := hN2 w2 hw2
                      have b2 := hN w hw
                      have b1 : ck_me up p (ck_num w2) < ck_me up p (ck_ρh ρ n L' (n + v)) := b1
                      rw [ck_ρh_at hw] at b1
                      omega
                  exact ck_step hM hdec (ck_ex_ok H h hm' hJ' (fun pc' s' ρ' L2 u2 σ2 k1 k2 k3 k4 => ih ((pc, n, A) :: act) pc' s' ρ' L2 u2 σ2 k1 k3 ((hx.tr hxh).tr k2) k4 (fun a ha => by
                    rcases List.mem_cons.mp ha with rfl | ha
                    · exact hIh.up k2
                    · exact ((hI a ha).up hxh).up k2)) (fun a v k1 k2 => hR a _ _ _ v σ' k1 hm'.2.2.1 (hx.tr hxh) k2 hJ'))
              obtain ⟨w, hw, _⟩ := ck_pd_at hpd hHC.2
              exact key (ck_me up p (ck_num w) + 1) L σ hHC hJ (fun w' hw' => by
                rw [hw] at hw'
                cases hw'
                exact Nat.lt_succ_self _)
      · cases h
end
/-! a method as a whole -/
def ck_ini (ds : List ck_D) (i : Nat) : List ck_A := match ds with
  | [] => []
  | d :: t => (match d with
    | .inl (.inl _) => .inl (.inl (i + 1, 0))
    | .inl (.inr _) => .inl (.inr (.inl (i + 1, 0)))
    | .inr o => .inr o) :: ck_ini t (i + 1)
def ck_ie (ds : List ck_D) (i : Nat) : ck_E := match ds with
  | [] => [(0, 0, 0, false)]
  | d :: t => (match d with
    | .inl (.inl p) => (i + 1, p.1, p.2.1, p.2.2) :: ck_ie t (i + 1)
    | .inl (.inr p) => (i + 1, p.1, p.2.1, p.2.2) :: ck_ie t (i + 1)
    | .inr _ => ck_ie t (i + 1))
def ck_loc (n : Nat) (as : List ck_A) : ck_C := match n, as with
  | 0, _ => []
  | n + 1, [] => none :: ck_loc n []
  | n + 1, v :: as => some v :: (if ck_cat v = 2 then (match n with
    | 0 => []
    | n + 1 => none :: ck_loc n as) else ck_loc n as)
def ck_rs (e : ck_E) (d : Option ck_D) (a : Option ck_A) : Bool := match d with
  | none => (match a with
    | none => true
    | some _ => false)
  | some d => (match a with
    | none => false
    | some a => ck_ad e d a)
def ck_cq (e : ck_E) (cs : List (Nat × Int × Int)) : Bool := match cs with
  | [] => true
  | c :: t => ck_in e (c.2.1, c.2.2, false) (c.1 + 1, 0) && ck_cq e t
def ck_Rr (os : List (List (Nat × Int × Int) × Option ck_D)) (a : Option ck_A) (e : ck_E) : Bool := match os with
  | [] => false
  | o :: t => (ck_rs e o.2 a && ck_cq e o.1) || ck_Rr t a e
def ck_ρ0 (as : List ab_V) : Nat → Int := fun i => match i with
  | 0 => 0
  | i + 1 => (match as[i]? with
    | some v => ck_num v
    | none => 0)
theorem ck_ini_ok {as0 : List ab_V} {m : Nat} : ∀ {ds : List ck_D} {as : List ab_V} {i : Nat}, (∀ j, as[j]? = as0[i + j]?) → i + ds.length < m → ck_ds ds as → ck_k (ck_ρ0 as0) m (ck_ini ds i) as
  | [], [], _, _, _, _ => trivial
  | [], _ :: _, _, _, _, h => h.elim
  | _ :: _, [], _, _, _, h => h.elim
  | d :: t, v :: u, i, hj, hl, h => by
    have h0 : as0[i]? = some v := by
      have := hj 0
      rw [Nat.add_zero] at this
      exact this.symm
    have hl : i + (t.length + 1) < m := hl
    refine ⟨?_, ck_ini_ok (fun j => by rw [show i + 1 + j = i + (j + 1) by omega, ← hj (j + 1), List.getElem?_cons_succ]) (by omega) h.2⟩
    have hn : ck_ρ0 as0 (i + 1) = ck_num v := by
      show (match as0[i]? with | some v => ck_num v | none => 0) = ck_num v
      rw [h0]
    have h1 := h.1
    rcases d with (p | p) | (_ | o)
    · obtain ⟨x, rfl, _⟩ := h1
      exact ⟨x, rfl, by show i + 1 < m; omega, by show x.toInt = ck_ρ0 as0 (i + 1) + 0; rw [hn]; show x.toInt = x.toInt + 0; omega⟩
    · obtain ⟨x, rfl, _⟩ := h1
      exact ⟨x, rfl, by show i + 1 < m; omega, by show x.toInt = ck_ρ0 as0 (i + 1) + 0; rw [hn]; show x.toInt = x.toInt + 0; omega⟩
    · exact h1
    · exact h1
theorem ck_ie_ok {as0 : List ab_V} {m : Nat} : ∀ {ds : List ck_D} {as : List ab_V} {i : Nat}, (∀ j, as[j]? = as0[i + j]?) → i + ds.length < m → ck_ds ds as → ck_en (ck_ρ0 as0) m (ck_ie ds i)
  | [], [], i, _, hl, _ => by
    intro q hq
    have hl : i + 0 < m := hl
    rcases List.mem_cons.mp hq with rfl | hq
    · exact ⟨by show 0 < m; omega, Int.le_refl 0, Int.le_refl 0, fun h => by cases h⟩
    · exact absurd hq List.not_mem_nil
  | [], _ :: _, _, _, _, h => h.elim
  | _ :: _, [], _, _, _, h => h.elim
  | d :: t, v :: u, i, hj, hl, h => by
    have h0 : as0[i]? = some v := by
      have := hj 0
      rw [Nat.add_zero] at this
      exact this.symm
    have hl : i + (t.length + 1) < m := hl
    have ih := ck_ie_ok (m := m) (as0 := as0) (ds := t) (as := u) (i := i + 1) (fun j => by rw [show i + 1 + j = i + (j + 1) by omega, ← hj (j + 1), List.getElem?_cons_succ]) (by omega) h.2
    have hn : ck_ρ0 as0 (i + 1) = ck_num v := by
      show (match as0[i]? with | some v => ck_num v | none => 0) = ck_num v
      rw [h0]
    have h1 := h.1
    rcases d with (p | p) | o
    · obtain ⟨x, rfl, b1, b2, b3⟩ := h1
      intro q hq
      rcases List.mem_cons.mp hq with rfl | hq
      · refine ⟨by show i + 1 < m; omega, ?_, ?_, ?_⟩
        · show p.1 ≤ ck_ρ0 as0 (i + 1); rw [hn]; exact b1
        · show ck_ρ0 as0 (i + 1) ≤ p.2.1; rw [hn]; exact b2
        · show p.2.2 = true → ck_ρ0 as0 (i + 1) ≠ 0; rw [hn]; exact b3
      · exact ih q hq
    · obtain ⟨x, rfl, b1, b2, b3⟩ := h1
      intro q hq
      rcases List.mem_cons.mp hq with rfl | hq
      · refine ⟨by show i + 1 < m; omega, ?_, ?_, ?_⟩
        · show p.1 ≤ ck_ρ0 as0 (i + 1); rw [hn]; exact b1
        · show ck_ρ0 as0 (i + 1) ≤ p.2.1; rw [hn]; exact b2
        · show p.2.2 = true → ck_ρ0 as0 (i + 1) ≠ 0; rw [hn]; exact b3
      · exact ih q hq
    · exact ih
theorem ck_cat1 {ρ : Nat → Int} {m : Nat} {a : ck_A} {v : ab_V} (h : ck_v ρ m a v) : ab_cat v = ck_cat a := by
  have := ck_cat_ok (as := [a]) (vs := [v]) ⟨h, trivial⟩
  simpa using this
theorem ck_loc_ok {ρ : Nat → Int} {m : Nat} : ∀ (n : Nat) {as : List ck_A} {vs : List ab_V}, ck_k ρ m as vs → ck_l ρ m (ck_loc n as) (ab_loc n vs)
  | 0, as, vs, _ => by cases as <;> cases vs <;> trivial
  | n + 1, [], vs, h => by
    rw [ck_k_nil h]
    exact ⟨trivial, ck_loc_ok n (as := []) (vs := []) trivial⟩
  | 1, a :: as, vs, h => by
    obtain ⟨v, u, rfl, h1, h2⟩ := ck_k_cons h
    refine ⟨⟨v, rfl, h1⟩, ?_⟩
    rw [ck_cat1 h1]
    by_cases c : ck_cat a = 2
    · rw [if_pos c, if_pos c]; trivial
    · rw [if_neg c, if_neg c]; exact ck_loc_ok 0 h2
  | n + 2, a :: as, vs, h => by
    obtain ⟨v, u, rfl, h1, h2⟩ := ck_k_cons h
    refine ⟨⟨v, rfl, h1⟩, ?_⟩
    rw [ck_cat1 h1]
    by_cases c : ck_cat a = 2
    · rw [if_pos c, if_pos c]; exact ⟨trivial, ck_loc_ok n h2⟩
    · rw [if_neg c, if_neg c]; exact ck_loc_ok (n + 1) h2
theorem ck_cq_ok {ρ : Nat → Int} {n : Nat} {e : ck_E} {as : List ab_V} (he : ck_en ρ n e) (hl : as.length < n) (hρ : ∀ i, i < as.length + 1 → ρ i = ck_ρ0 as i) : ∀ {cs : List (Nat × Int × Int)}, ck_cq e cs = true → ck_cs cs as
  | [], _ => fun c hc => absurd hc List.not_mem_nil
  | c :: t, h => by
    obtain ⟨h1, h2⟩ := ck_an h
    intro c' hc' v hv
    rcases List.mem_cons.mp hc' with rfl | hc'
    · have hlt : c'.1 < as.length := (List.getElem?_eq_some_iff.mp hv).1
      have hn : ck_ρ0 as (c'.1 + 1) = ck_num v := by
        show (match as[c'.1]? with | some v => ck_num v | none => 0) = ck_num v
        rw [hv]
      have hq : ck_q ρ n (c'.1 + 1, 0) (ck_num v) := ⟨by show c'.1 + 1 < n; omega, by show ck_num v = ρ (c'.1 + 1) + 0; rw [hρ _ (by omega), hn]; omega⟩
      obtain ⟨b1, b2, _⟩ := ck_in_ok h1 he hq
      exact ⟨b1, b2⟩
    · exact ck_cq_ok he hl hρ h2 c' hc' v hv
theorem ck_Rr_ok {ρ : Nat → Int} {n : Nat} {e : ck_E} {as : List ab_V} {a : Option ck_A} {v : Option ab_V} (he : ck_en ρ n e) (hl : as.length < n) (hρ : ∀ i, i < as.length + 1 → ρ i = ck_ρ0 as i) (hv : ck_o2 ρ n a v) : ∀ {os : List (List (Nat × Int × Int) × Option ck_D)}, ck_Rr os a e = true → ∃ o ∈ os, ck_cs o.1 as ∧ ck_od o.2 v
  | [], h => by cases h
  | o :: t, h => by
    rcases (Bool.or_eq_true _ _).mp h with h | h
    · obtain ⟨h1, h2⟩ := ck_an h
      refine ⟨o, List.mem_cons_self, ck_cq_ok he hl hρ h2, ?_⟩
      obtain ⟨cs, d⟩ := o
      rcases d with _ | d <;> rcases a with _ | a <;> first | (cases h1; done) | skip
      · exact hv
      · obtain ⟨w, rfl, hw⟩ := hv
        exact ⟨w, rfl, ck_ad_ok h1 he hw⟩
    · obtain ⟨o', h1, h2⟩ := ck_Rr_ok he hl hρ hv h
      exact ⟨o', List.mem_cons_of_mem _ h1, h2⟩
theorem ck_ds_len : ∀ {ds : List ck_D} {as : List ab_V}, ck_ds ds as → ds.length = as.length
  | [], [], _ => rfl
  | [], _ :: _, h => h.elim
  | _ :: _, [], h => h.elim
  | _ :: _, _ :: _, h => by rw [List.length_cons, List.length_cons, ck_ds_len h.2]
/-- a method's whole check -/
def ck_M (T : ck_T) (M : ab_M) (cd : List (Nat × Instr × Nat)) (lps : List (Nat × ck_Lp)) (fuel : Nat) (ds : List ck_D) (os : List (List (Nat × Int × Int) × Option ck_D)) : Bool :=
  Nat.ble ((ck_ini ds 0).map ck_cat).sum (ab_nL M) && ck_run T M cd lps (ck_Rr os) fuel [] 0 (ds.length + 1, ck_ie ds 0, ck_loc (ab_nL M) (ck_ini ds 0), [])
theorem ck_main {T : ck_T} {M : ab_M} {J : ab_S → Prop} {cc : ByteArray} {cd : List (Nat × Instr × Nat)} {lps : List (Nat × ck_Lp)} {fuel : Nat} {ds : List ck_D} {os : List (List (Nat × Int × Int) × Option ck_D)} (H : ck_H T M J) (hM : ab_mo M) (hcd : ∀ q ∈ cd, decode cc q.1 = .ok q.2) (h : ck_M T M cd lps fuel ds os = true) : ck_co J (0, ds, os) (ab_sp M cc) := by
  intro as σ P hJ hds hP
  obtain ⟨h1, h2⟩ := ck_an h
  have hlen : ds.length = as.length := ck_ds_len hds
  have hk : ck_k (ck_ρ0 as) (ds.length + 1) (ck_ini ds 0) as := ck_ini_ok (fun j => by rw [Nat.zero_add]) (by omega) hds
  refine ⟨by rw [ck_cat_ok hk]; exact Nat.le_of_ble_eq_true h1, ?_⟩
  refine ck_run_ok (m0 := ds.length + 1) (ρ0 := ck_ρ0 as) H hM hcd (fun a e n ρ v σ' k1 k2 k3 k4 k5 => ?_) fuel [] 0 _ (ck_ρ0 as) _ [] σ h2 ⟨Nat.succ_pos _, rfl, ck_ie_ok (fun j => by rw [Nat.zero_add]) (by omega) hds, ck_loc_ok _ hk, trivial⟩ ck_x.rf hJ (fun a ha => absurd ha List.not_mem_nil)
  have hx1 := k3.1
  exact hP v σ' k5 (ck_Rr_ok k2 (by omega) (fun i hi => k3.2 i (by omega)) k4 k1)
