theorem ck_an {a b : Bool} (h : (a && b) = true) : a = true ∧ b = true := (Bool.and_eq_true _ _).mp h
def ck_H (T : ck_T) (M : ab_M) (J : ab_S → Prop) : Prop :=
  (∀ σ, J σ → ∀ k i j, (T.1 k j).1 ≤ (σ.1 k i j).toInt ∧ (σ.1 k i j).toInt ≤ (T.1 k j).2)
  ∧ (∀ σ, J σ → ∀ k i j (v : Int32), T.2.1 k j = true → (T.1 k j).1 ≤ v.toInt → v.toInt ≤ (T.1 k j).2 → J (ab_si σ k i j v))
  ∧ (∀ σ, J σ → ∀ k i j (v : Int64), T.2.1 k j = true → J (ab_sl σ k i j v))
  ∧ (∀ k t m j, ck_ar k = some (t, m) → T.1 k j = T.1 k 0 ∧ T.2.1 k j = T.2.1 k 0)
  ∧ (∀ j cs m w sp, ck_lk T.2.2 j = some cs → ab_ml M j = some (m, w, sp) → ∀ c ∈ cs, ck_co J c sp)
def ck_o2 (ρ : Nat → Int) (n : Nat) (a : Option ck_A) (v : Option ab_V) : Prop := match a with
  | none => v = none
  | some a => ∃ w, v = some w ∧ ck_v ρ n a w
section
variable {T : ck_T} {M : ab_M} {J : ab_S → Prop} {ρ : Nat → Int} {n pc : Nat} {e : ck_E} {A : ck_C} {st : List ck_A} {L : ab_L} {u : List ab_V} {σ : ab_S} {K : Nat → ck_S → Bool} {K' : ab_K}
theorem ck_ld_ok {k : Nat} {f : ck_A → Bool} (h : ck_ld A k f = true) (hl : ck_l ρ n A L) : ∃ a v, f a = true ∧ ab_at L k = some v ∧ ck_v ρ n a v := by
  unfold ck_ld at h
  split at h
  · rename_i a ea
    obtain ⟨v, h1, h2⟩ := ck_at_ok hl ea
    exact ⟨a, v, h, h1, h2⟩
  · cases h
theorem ck_li {k : Nat} {f : ck_A → Bool} {F : Int32 → Prop} (h : ck_ld A k (fun a => ck_aI a && f a) = true) (hl : ck_l ρ n A L) (hF : ∀ q x, f (.inl (.inl q)) = true → ck_q ρ n q x.toInt → F x) : ab_li L k F := by
  obtain ⟨a, v, h, h1, h2⟩ := ck_ld_ok h hl
  obtain ⟨ha, h⟩ := ck_an h
  rcases a with (q | q | q) | (_ | q) <;> first | (cases ha; done) | skip
  obtain ⟨x, rfl, hx⟩ := h2
  unfold ab_li
  rw [h1]
  exact hF q x h hx
theorem ck_ll {k : Nat} {f : ck_A → Bool} {F : Int64 → Prop} (h : ck_ld A k (fun a => ck_aL a && f a) = true) (hl : ck_l ρ n A L) (hF : ∀ q x, f (.inl (.inr (.inl q))) = true → ck_q ρ n q x.toInt → F x) : ab_ll L k F := by
  obtain ⟨a, v, h, h1, h2⟩ := ck_ld_ok h hl
  obtain ⟨ha, h⟩ := ck_an h
  rcases a with (q | q | q) | (_ | q) <;> first | (cases ha; done) | skip
  obtain ⟨x, rfl, hx⟩ := h2
  unfold ab_ll
  rw [h1]
  exact hF q x h hx
theorem ck_la {k : Nat} {f : ck_A → Bool} {F : Option ab_Nm → Prop} (h : ck_ld A k (fun a => ck_aR a && f a) = true) (hl : ck_l ρ n A L) (hF : ∀ q x, f (.inr q) = true → ck_v ρ n (.inr q) (.inr x) → F x) : ab_la L k F := by
  obtain ⟨a, v, h, h1, h2⟩ := ck_ld_ok h hl
  obtain ⟨ha, h⟩ := ck_an h
  unfold ab_la
  rw [h1]
  rcases a with (q | q | q) | (_ | q) <;> first | (cases ha; done) | skip
  · have h2 : v = .inr none := h2
    subst h2
    exact hF none none h rfl
  · obtain ⟨i, rfl, hi⟩ := h2
    exact hF (some q) (some (q.1, i)) h ⟨i, rfl, hi⟩
/-- a binary number op -/
theorem ck_b2 {OP : ck_I → ck_I → (ck_R → Bool) → Bool} {g : Int32 → Int32 → Int32} (hm : ck_m ρ (n, e, A, st) L u) (hJ : J σ) (hK : ∀ pc' s' ρ' L' u' σ', K pc' s' = true → ck_x n s'.1 ρ ρ' → ck_m ρ' s' L' u' → J σ' → K' pc' L' u' σ') (h : ck_i2 st (fun x y r => OP x y (fun w => ck_pu w false n e A r (K (pc + 1)))) = true) (hop : ∀ q1 q2 (x y : Int32) f, OP q1 q2 f = true → ck_q ρ n q1 x.toInt → ck_q ρ n q2 y.toInt → ∃ r, f r = true ∧ ck_r ρ n r (g x y).toInt) : ab_i2 u (fun x y r => K' (pc + 1) L (.inl (.inl (g x y)) :: r) σ) := by
  obtain ⟨q1, q2, r, x, y, w, h, rfl, hx, hy, hw⟩ := ck_i2_ok h hm.2.2.2.2
  obtain ⟨res, h, hr⟩ := hop q1 q2 x y _ h hx hy
  obtain ⟨s', ρ', k1, k2, k3⟩ := ck_pu_i h ⟨hm.1, hm.2.1, hm.2.2.1, hm.2.2.2.1, hw⟩ hr
  exact hK _ s' ρ' _ _ _ k1 k2 k3 hJ
theorem ck_b2d {OP : ck_I → ck_I → (ck_R → Bool) → Bool} {g : Int32 → Int32 → Int32} (hm : ck_m ρ (n, e, A, st) L u) (hJ : J σ) (hK : ∀ pc' s' ρ' L' u' σ', K pc' s' = true → ck_x n s'.1 ρ ρ' → ck_m ρ' s' L' u' → J σ' → K' pc' L' u' σ') (h : ck_i2 st (fun x y r => ck_nz e y && OP x y (fun w => ck_pu w false n e A r (K (pc + 1)))) = true) (hop : ∀ q1 q2 (x y : Int32) f, OP q1 q2 f = true → ck_q ρ n q1 x.toInt → ck_q ρ n q2 y.toInt → ∃ r, f r = true ∧ ck_r ρ n r (g x y).toInt) : ab_i2 u (fun x y r => ¬ y = 0 ∧ K' (pc + 1) L (.inl (.inl (g x y)) :: r) σ) := by
  obtain ⟨q1, q2, r, x, y, w, h, rfl, hx, hy, hw⟩ := ck_i2_ok h hm.2.2.2.2
  obtain ⟨hz, h⟩ := ck_an h
  obtain ⟨res, h, hr⟩ := hop q1 q2 x y _ h hx hy
  obtain ⟨s', ρ', k1, k2, k3⟩ := ck_pu_i h ⟨hm.1, hm.2.1, hm.2.2.1, hm.2.2.2.1, hw⟩ hr
  exact ⟨fun h0 => ck_nz_ok hz hm.2.2.1 hy (by rw [h0]; rfl), hK _ s' ρ' _ _ _ k1 k2 k3 hJ⟩
theorem ck_bl2 {OP : ck_I → ck_I → (ck_R → Bool) → Bool} {g : Int64 → Int64 → Int64} (hm : ck_m ρ (n, e, A, st) L u) (hJ : J σ) (hK : ∀ pc' s' ρ' L' u' σ', K pc' s' = true → ck_x n s'.1 ρ ρ' → ck_m ρ' s' L' u' → J σ' → K' pc' L' u' σ') (h : ck_l2 st (fun x y r => OP x y (fun w => ck_pu w true n e A r (K (pc + 1)))) = true) (hop : ∀ q1 q2 (x y : Int64) f, OP q1 q2 f = true → ck_q ρ n q1 x.toInt → ck_q ρ n q2 y.toInt → ∃ r, f r = true ∧ ck_r ρ n r (g x y).toInt) : ab_l2 u (fun x y r => K' (pc + 1) L (.inl (.inr (g x y)) :: r) σ) := by
  obtain ⟨q1, q2, r, x, y, w, h, rfl, hx, hy, hw⟩ := ck_l2_ok h hm.2.2.2.2
  obtain ⟨res, h, hr⟩ := hop q1 q2 x y _ h hx hy
  obtain ⟨s', ρ', k1, k2, k3⟩ := ck_pu_l h ⟨hm.1, hm.2.1, hm.2.2.1, hm.2.2.2.1, hw⟩ hr
  exact hK _ s' ρ' _ _ _ k1 k2 k3 hJ
theorem ck_bl2d {OP : ck_I → ck_I → (ck_R → Bool) → Bool} {g : Int64 → Int64 → Int64} (hm : ck_m ρ (n, e, A, st) L u) (hJ : J σ) (hK : ∀ pc' s' ρ' L' u' σ', K pc' s' = true → ck_x n s'.1 ρ ρ' → ck_m ρ' s' L' u' → J σ' → K' pc' L' u' σ') (h : ck_l2 st (fun x y r => ck_nz e y && OP x y (fun w => ck_pu w true n e A r (K (pc + 1)))) = true) (hop : ∀ q1 q2 (x y : Int64) f, OP q1 q2 f = true → ck_q ρ n q1 x.toInt → ck_q ρ n q2 y.toInt → ∃ r, f r = true ∧ ck_r ρ n r (g x y).toInt) : ab_l2 u (fun x y r => ¬ y = 0 ∧ K' (pc + 1) L (.inl (.inr (g x y)) :: r) σ) := by
  obtain ⟨q1, q2, r, x, y, w, h, rfl, hx, hy, hw⟩ := ck_l2_ok h hm.2.2.2.2
  obtain ⟨hz, h⟩ := ck_an h
  obtain ⟨res, h, hr⟩ := hop q1 q2 x y _ h hx hy
  obtain ⟨s', ρ', k1, k2, k3⟩ := ck_pu_l h ⟨hm.1, hm.2.1, hm.2.2.1, hm.2.2.2.1, hw⟩ hr
  exact ⟨fun h0 => ck_nz_ok hz hm.2.2.1 hy (by rw [h0]; rfl), hK _ s' ρ' _ _ _ k1 k2 k3 hJ⟩
theorem ck_bra_ok {c : Jvm.ClassFile.Cond} {q1 q2 : ck_I} {a b : Int} {off : Int} {KK : Nat → ck_E → Bool} {C : Prop} {F : Nat → Prop} (h : ck_bra c e q1 q2 pc off KK = true) (he : ck_en ρ n e) (h1 : ck_q ρ n q1 a) (h2 : ck_q ρ n q2 b) (hC : C ↔ ck_ci c a b) (hF : ∀ p e', KK p e' = true → ck_en ρ n e' → F p) : ab_br C pc off F := by
  obtain ⟨h0, h⟩ := ck_an h
  obtain ⟨k1, k2⟩ := ck_cp_ok h he h1 h2
  refine ⟨of_decide_eq_true h0, fun hc => ?_, fun hc => ?_⟩
  · obtain ⟨e', a1, a2⟩ := k1 (hC.mp hc)
    exact hF _ e' a1 a2
  · obtain ⟨e', a1, a2⟩ := k2 (fun q => hc (hC.mpr q))
    exact hF _ e' a1 a2
theorem ck_tsw_ok {q : ck_I} {KK : Nat → ck_E → Bool} {x : Int} {F : Nat → Prop} (hn : 0 < n) (h0 : ρ 0 = 0) (he : ck_en ρ n e) (hq : ck_q ρ n q x) (hF : ∀ p e', KK p e' = true → ck_en ρ n e' → F p) : ∀ {os : List Int} {lo : Int}, ck_tsw os lo e q pc KK = true → ab_tsw os lo x (fun o => ab_jp pc o F)
  | [], _, _ => trivial
  | o :: t, lo, h => by
    obtain ⟨h1, h2⟩ := ck_an h
    obtain ⟨h3, h4⟩ := ck_an h1
    refine ⟨fun hx => ⟨of_decide_eq_true h3, ?_⟩, ck_tsw_ok hn h0 he hq hF h2⟩
    obtain ⟨e1, k1, he1⟩ := ck_le_ok (b := lo) h4 he hq ⟨hn, by show lo = ρ 0 + lo; omega⟩ (by omega)
    obtain ⟨e2, k2, he2⟩ := ck_le_ok (a := lo) k1 he1 ⟨hn, by show lo = ρ 0 + lo; omega⟩ hq (by omega)
    exact hF _ e2 k2 he2
theorem ck_vp {q : ck_I} {j : Int32} {m : Nat} (h : ck_in e (0, (m : Int) - 1, false) q = true) (he : ck_en ρ n e) (hq : ck_q ρ n q j.toInt) : vp_in j m := by
  obtain ⟨h1, h2, _⟩ := ck_in_ok h he hq
  have h1 : 0 ≤ j.toInt := h1
  have h2 : j.toInt ≤ (m : Int) - 1 := h2
  exact vp_in_iff.mpr ⟨h1, by omega⟩
end
