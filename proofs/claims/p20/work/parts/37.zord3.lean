/-! order: what the walk tells -/
def reB (f : Nat → Bool) (p r : Nat) : Bool := match r with
  | 0 => false
  | r + 1 => f p || reB f (p + 1) r
theorem re_s {f : Nat → Bool} {p n : Nat} (h : p < n) : reB f p (n - p) = (f p || reB f (p + 1) (n - (p + 1))) := by
  rw [show n - p = n - (p + 1) + 1 by omega]
  rfl
theorem re_i {f : Nat → Bool} : ∀ {r p : Nat}, reB f p r = true ↔ ∃ k, p ≤ k ∧ k < p + r ∧ f k = true
  | 0, p => ⟨fun h => (Bool.false_ne_true h).elim, fun ⟨k, h1, h2, _⟩ => by omega⟩
  | r + 1, p => by
    show (f p || reB f (p + 1) r) = true ↔ _
    rw [Bool.or_eq_true, re_i]
    refine ⟨fun h => ?_, fun ⟨k, h1, h2, hf⟩ => ?_⟩
    · rcases h with h | ⟨k, h1, h2, hf⟩
      · exact ⟨p, by omega, by omega, h⟩
      · exact ⟨k, by omega, by omega, hf⟩
    · by_cases e : k = p
      · rw [e] at hf; exact Or.inl hf
      · exact Or.inr ⟨k, by omega, by omega, hf⟩
def remB (f : Int → Bool) (C1 C2 : Nat → Int) (n1 n2 p1 p2 : Nat) : Bool := reB (fun k => f (C1 k)) p1 (n1 - p1) || reB (fun k => f (C2 k)) p2 (n2 - p2)
theorem rem_0 {f : Int → Bool} {C1 C2 : Nat → Int} {n1 n2 : Nat} : remB f C1 C2 n1 n2 n1 n2 = false := by
  unfold remB
  rw [Nat.sub_self, Nat.sub_self]
  rfl
theorem rem_s {f : Int → Bool} {C1 C2 : Nat → Int} {n1 n2 p1 p2 p1' p2' : Nat} {x : Int} (h1 : p1 < n1) (h2 : p2 < n2) (hx : x = min (C1 p1) (C2 p2)) (e1 : p1' = (if C1 p1 = x then p1 + 1 else p1)) (e2 : p2' = (if C2 p2 = x then p2 + 1 else p2)) : remB f C1 C2 n1 n2 p1 p2 = (f x || remB f C1 C2 n1 n2 p1' p2') := by
  by_cases a : C1 p1 = x
  · by_cases b : C2 p2 = x
    · rw [if_pos a] at e1
      rw [if_pos b] at e2
      unfold remB
      rw [re_s h1, re_s h2, e1, e2, a, b]
      cases f x <;> simp
    · rw [if_pos a] at e1
      rw [if_neg b] at e2
      unfold remB
      rw [re_s h1, e1, e2, a, Bool.or_assoc]
  · have b : C2 p2 = x := by omega
    rw [if_neg a] at e1
    rw [if_pos b] at e2
    unfold remB
    rw [re_s h2, e1, e2, b]
    cases f x <;> simp
theorem en_le {E W : Nat → Int} {n p : Nat} {H M : Int} (b : cvb E W n H) (h : p < n) (hM : 1 ≤ M) : cuI W (p + 1) * M ≤ H * M ∧ (p + 1 = n → cuI W (p + 1) * M = H * M) ∧ (p + 1 < n → cuI W (p + 1) * M < H * M ∧ cuI W (p + 1) * M ≤ cuI W (p + 1 + 1) * M) := by
  have c := b.c (show p + 1 ≤ n by omega)
  refine ⟨Int.mul_le_mul_of_nonneg_right c.2.1 (by omega), fun e => by rw [e, b.2.2.1], fun l => ⟨?_, ?_⟩⟩
  · have := cu_lt b.w l (Nat.le_refl n)
    rw [b.2.2.1] at this
    exact Int.mul_lt_mul_of_pos_right this (by omega)
  · exact Int.mul_le_mul_of_nonneg_right (cu_le b.w (Nat.le_succ _) (by omega)) (by omega)
def wkI (W1 W2 : Nat → Int) (H1 H2 : Int) (n1 n2 p1 p2 : Nat) (q : Int) : Prop := (p1 < n1 ∧ p2 < n2 ∧ cuI W1 p1 * H2 ≤ q ∧ cuI W2 p2 * H1 ≤ q ∧ q ≤ cuI W1 (p1 + 1) * H2 ∧ q ≤ cuI W2 (p2 + 1) * H1) ∨ (p1 = n1 ∧ p2 = n2)
theorem wk_inv {E1 W1 E2 W2 : Nat → Int} {n1 n2 p1 p2 p1' p2' : Nat} {H1 H2 q x : Int} (b1 : cvb E1 W1 n1 H1) (b2 : cvb E2 W2 n2 H2) (h1 : p1 < n1) (h2 : p2 < n2) (q1 : cuI W1 p1 * H2 ≤ q) (q2 : cuI W2 p2 * H1 ≤ q) (q3 : q ≤ cuI W1 (p1 + 1) * H2) (q4 : q ≤ cuI W2 (p2 + 1) * H1) (hx : x = min (cuI W1 (p1 + 1) * H2) (cuI W2 (p2 + 1) * H1)) (e1 : p1' = (if cuI W1 (p1 + 1) * H2 = x then p1 + 1 else p1)) (e2 : p2' = (if cuI W2 (p2 + 1) * H1 = x then p2 + 1 else p2)) : wkI W1 W2 H1 H2 n1 n2 p1' p2' x ∧ p1' ≤ n1 ∧ p2' ≤ n2 ∧ (n1 - p1') + (n2 - p2') < (n1 - p1) + (n2 - p2) := by
  have g1 := b1.2.2.2
  have g2 := b2.2.2.2
  obtain ⟨a1, a2, a3⟩ := en_le b1 h1 (M := H2) (by omega)
  obtain ⟨d1, d2, d3⟩ := en_le b2 h2 (M := H1) (by omega)
  rw [Int.mul_comm H2 H1] at d1 d2 d3
  unfold wkI
  by_cases a : cuI W1 (p1 + 1) * H2 = x
  · rw [if_pos a] at e1
    by_cases b : cuI W2 (p2 + 1) * H1 = x
    · rw [if_pos b] at e2
      subst e1 e2
      by_cases c : p1 + 1 = n1
      · have := a2 c
        have c2 : p2 + 1 = n2 := by
          by_cases c2 : p2 + 1 = n2
          · exact c2
          · have := (d3 (by omega)).1; omega
        exact ⟨Or.inr ⟨c, c2⟩, by omega, by omega, by omega⟩
      · have k := a3 (by omega)
        have c2 : p2 + 1 < n2 := by
          by_cases c2 : p2 + 1 = n2
          · have := d2 c2; omega
          · omega
        have k2 := d3 c2
        exact ⟨Or.inl ⟨by omega, c2, by omega, by omega, by omega, by omega⟩, by omega, by omega, by omega⟩
    · rw [if_neg b] at e2
      subst e1 e2
      have c : p1 + 1 < n1 := by
        by_cases c : p1 + 1 = n1
        · have := a2 c; omega
        · omega
      have k := a3 c
      exact ⟨Or.inl ⟨c, h2, by omega, by omega, by omega, by omega⟩, by omega, by omega, by omega⟩
  · have b : cuI W2 (p2 + 1) * H1 = x := by omega
    rw [if_neg a] at e1
    rw [if_pos b] at e2
    subst e1 e2
    have c : p2 + 1 < n2 := by
      by_cases c : p2 + 1 = n2
      · have := d2 c; omega
      · omega
    have k := d3 c
    exact ⟨Or.inl ⟨h1, c, by omega, by omega, by omega, by omega⟩, by omega, by omega, by omega⟩
def tdv (m l : Bool) : Int32 := if (m && l) = true then 0 else if m = true then 1 else if l = true then 2 else 3
def bi (b : Bool) : Int32 := if b = true then 1 else 0
theorem bi_or1 {b : Bool} : bi b ||| 1 = bi true := by cases b <;> rfl
theorem bi_or0 {b : Bool} : bi b ||| 0 = bi b := by cases b <;> rfl
theorem bi_z {b : Bool} : (bi b = 0) = (b = false) := by cases b <;> simp [bi]
/-- the sign at a place -/
def sgX (E1 W1 E2 W2 : Nat → Int) (n1 n2 : Nat) (H1 H2 T1 T2 x : Int) : Int32 := sg3 (hsH E1 W1 H2 x n1 * T1) (hsH E2 W2 H1 x n2 * T2)
def moX (s : Int → Int32) (x : Int) : Bool := !decide (s x ≤ 0)
def leX (s : Int → Int32) (x : Int) : Bool := !decide (0 ≤ s x)
def c1X (W1 : Nat → Int) (H2 : Int) (k : Nat) : Int := cuI W1 (k + 1) * H2
set_option maxRecDepth 100000 in
set_option maxHeartbeats 1000000 in
theorem sX6_toldF {σ : ab_S} {P : ab_P} {E1 W1 E2 W2 : Nat → Int} {n1 n2 : Nat} {H1 H2 A1 A2 T1 T2 : Int} {kd : Int32} (hR : rg_R σ) (b1 : cvb E1 W1 n1 H1) (b2 : cvb E2 W2 n2 H2) (m1 : 1 ≤ n1) (m2 : 1 ≤ n2) (c1 : cvc σ 0 E1 W1 n1 H1 A1) (c2 : cvc σ 1 E2 W2 n2 H2 A2) (A10 : 0 ≤ A1) (A11 : A1 ≤ 17962560) (A20 : 0 ≤ A2) (A21 : A2 ≤ 17962560) (eT1 : T1 = (if kd = 0 then H1 * A2 else 1)) (eT2 : T2 = (if kd = 0 then H2 * A1 else 1)) (hP : ∀ σ' : ab_S, fr wkS σ σ' → P (some (.inl (.inl (tdv (remB (moX (sgX E1 W1 E2 W2 n1 n2 H1 H2 T1 T2)) (c1X W1 H2) (c1X W2 H1) n1 n2 0 0) (remB (leX (sgX E1 W1 E2 W2 n1 n2 H1 H2 T1 T2)) (c1X W1 H2) (c1X W2 H1) n1 n2 0 0))))) σ') : ab_sp mX6_told cX6_told [.inr (some (5, 0)), .inl (.inl kd)] σ P := by
  have g1 := b1.2.2.2
  have g2 := b2.2.2.2
  have p0 : 0 ≤ H1 * A2 := Int.mul_nonneg (by omega) A20
  have p1 : H1 * A2 ≤ 72 * 17962560 := Int.mul_le_mul g1.2 A21 A20 (by decide)
  have p2 : 0 ≤ H2 * A1 := Int.mul_nonneg (by omega) A10
  have p3 : H2 * A1 ≤ 72 * 17962560 := Int.mul_le_mul g2.2 A11 A10 (by decide)
  have B1 : 0 ≤ T1 ∧ T1 ≤ 1293304320 := by rw [eT1]; split <;> omega
  have B2 : 0 ≤ T2 ∧ T2 ≤ 1293304320 := by rw [eT2]; split <;> omega
  obtain ⟨s, es⟩ : ∃ s, sgX E1 W1 E2 W2 n1 n2 H1 H2 T1 T2 = s := ⟨_, rfl⟩
  rw [es] at hP
  obtain ⟨M, eM⟩ : ∃ M, remB (moX s) (c1X W1 H2) (c1X W2 H1) n1 n2 0 0 = M := ⟨_, rfl⟩
  obtain ⟨L, eL⟩ : ∃ L, remB (leX s) (c1X W1 H2) (c1X W2 H1) n1 n2 0 0 = L := ⟨_, rfl⟩
  rw [eM, eL] at hP
  have out : ∀ (st : Int32) (m l : Bool) (c : ab_S), fr wkS σ c → (m && l) = false → M = m → L = l → ab_wp mX6_told cX6_told none P 72 [some (.inr (some (5, 0))), some (.inl (.inl kd)), some (.inl (.inl (bi m))), some (.inl (.inl (bi l))), some (.inl (.inl st))] [] c := by
    intro st m l c fc hml hm hl
    have F := hP c fc
    rw [hm, hl] at F
    cases m with
    | true =>
      cases l with
      | true => cases hml
      | false =>
        simp only [ab_loc, ab_cat, ab_kil, ab_al, ab_ln, ab_lnp, ab_rf, sh_0, sh_1, sh_2, sh_3, sh_4, sh_5, sh_6, sh_7, sh_8, sh_9, sh_10, sh_11, sh_12, sh_13, sh_14, sh_20, sh_21, sh_22, sh_23, sh_24, sh_25, sh_30, sh_31, sh_32, sh_40, sh_41, sh_42, sh_43, sh_44, sh_45, sh_46, sh_47, sh_48, sh_49, sh_50, sh_51, sh_52, sh_53, sh_54, sh_55, sh_56, sh_57, sh_58, sh_59, sh_60, ct_0, ct_1, ct_2, ct_3, ct_4, ct_5, ct_6, ct_7, ct_8, ct_9, ct_10, ct_11, ct_12, ct_13, ct_14, ct_20, ct_21, ct_22, ct_23, ct_24, ct_25, ct_30, ct_31, ct_32, ct_40, ct_41, ct_42, ct_43, ct_44, ct_45, ct_46, ct_47, ct_48, ct_49, ct_50, ct_51, ct_52, ct_53, ct_54, ct_55, ct_56, ct_57, ct_58, ct_59, ct_60, ki_m1, ki_0, ki_1, ki_2, ki_3, ki_4, ki_5, kb_m2, kb_m3, kb_m4, kb_m8, kb_m9, kb_10, kb_100, kb_16, kb_36, kb_6, kb_63, kb_8, kb_9, kb_99, ks_216, ks_2520, ks_256, ks_800, kl_0, kl_1, ↓reduceIte, reduceCtorEq, Nat.reduceAdd, Nat.reduceLT, Nat.reduceLeDiff, Nat.reduceEqDiff, List.map_cons, List.map_nil, List.sum_cons, List.sum_nil, List.cons_append, List.nil_append, Option.toList_some, Option.toList_none, true_and, and_true, true_or, or_true, not_true_eq_false, not_false_eq_true, Nat.lt_add_one, Nat.zero_le, eq_self, or_false, false_or, implies_true, forall_const, false_implies, forall_false, true_implies, and_self, Nat.zero_lt_one, Nat.add_zero, Nat.zero_add, Int32.reduceLT, Int32.reduceLE, Int32.reduceAdd, Int32.reduceSub, Int32.reduceMul, e10, e01, ite_self, ab_mx, ab_mi, ab_mb, ab_ml2, rX6_told_72, rX6_told_73, rX6_told_76, rX6_told_77, rX6_told_78, rX6_told_79, rX6_told_82, rX6_told_83, rX6_told_86, rX6_told_87, bi_z]
        exact F
    | false =>
      cases l with
      | true =>
        simp only [ab_loc, ab_cat, ab_kil, ab_al, ab_ln, ab_lnp, ab_rf, sh_0, sh_1, sh_2, sh_3, sh_4, sh_5, sh_6, sh_7, sh_8, sh_9, sh_10, sh_11, sh_12, sh_13, sh_14, sh_20, sh_21, sh_22, sh_23, sh_24, sh_25, sh_30, sh_31, sh_32, sh_40, sh_41, sh_42, sh_43, sh_44, sh_45, sh_46, sh_47, sh_48, sh_49, sh_50, sh_51, sh_52, sh_53, sh_54, sh_55, sh_56, sh_57, sh_58, sh_59, sh_60, ct_0, ct_1, ct_2, ct_3, ct_4, ct_5, ct_6, ct_7, ct_8, ct_9, ct_10, ct_11, ct_12, ct_13, ct_14, ct_20, ct_21, ct_22, ct_23, ct_24, ct_25, ct_30, ct_31, ct_32, ct_40, ct_41, ct_42, ct_43, ct_44, ct_45, ct_46, ct_47, ct_48, ct_49, ct_50, ct_51, ct_52, ct_53, ct_54, ct_55, ct_56, ct_57, ct_58, ct_59, ct_60, ki_m1, ki_0, ki_1, ki_2, ki_3, ki_4, ki_5, kb_m2, kb_m3, kb_m4, kb_m8, kb_m9, kb_10, kb_100, kb_16, kb_36, kb_6, kb_63, kb_8, kb_9, kb_99, ks_216, ks_2520, ks_256, ks_800, kl_0, kl_1, ↓reduceIte, reduceCtorEq, Nat.reduceAdd, Nat.reduceLT, Nat.reduceLeDiff, Nat.reduceEqDiff, List.map_cons, List.map_nil, List.sum_cons, List.sum_nil, List.cons_append, List.nil_append, Option.toList_some, Option.toList_none, true_and, and_true, true_or, or_true, not_true_eq_false, not_false_eq_true, Nat.lt_add_one, Nat.zero_le, eq_self, or_false, false_or, implies_true, forall_const, false_implies, forall_false, true_implies, and_self, Nat.zero_lt_one, Nat.add_zero, Nat.zero_add, Int32.reduceLT, Int32.reduceLE, Int32.reduceAdd, Int32.reduceSub, Int32.reduceMul, e10, e01, ite_self, ab_mx, ab_mi, ab_mb, ab_ml2, rX6_told_72, rX6_told_73, rX6_told_76, rX6_told_77, rX6_told_78, rX6_told_79, rX6_told_82, rX6_told_83, rX6_told_86, rX6_told_87, bi_z]
        exact F
      | false =>
        simp only [ab_loc, ab_cat, ab_kil, ab_al, ab_ln, ab_lnp, ab_rf, sh_0, sh_1, sh_2, sh_3, sh_4, sh_5, sh_6, sh_7, sh_8, sh_9, sh_10, sh_11, sh_12, sh_13, sh_14, sh_20, sh_21, sh_22, sh_23, sh_24, sh_25, sh_30, sh_31, sh_32, sh_40, sh_41, sh_42, sh_43, sh_44, sh_45, sh_46, sh_47, sh_48, sh_49, sh_50, sh_51, sh_52, sh_53, sh_54, sh_55, sh_56, sh_57, sh_58, sh_59, sh_60, ct_0, ct_1, ct_2, ct_3, ct_4, ct_5, ct_6, ct_7, ct_8, ct_9, ct_10, ct_11, ct_12, ct_13, ct_14, ct_20, ct_21, ct_22, ct_23, ct_24, ct_25, ct_30, ct_31, ct_32, ct_40, ct_41, ct_42, ct_43, ct_44, ct_45, ct_46, ct_47, ct_48, ct_49, ct_50, ct_51, ct_52, ct_53, ct_54, ct_55, ct_56, ct_57, ct_58, ct_59, ct_60, ki_m1, ki_0, ki_1, ki_2, ki_3, ki_4, ki_5, kb_m2, kb_m3, kb_m4, kb_m8, kb_m9, kb_10, kb_100, kb_16, kb_36, kb_6, kb_63, kb_8, kb_9, kb_99, ks_216, ks_2520, ks_256, ks_800, kl_0, kl_1, ↓reduceIte, reduceCtorEq, Nat.reduceAdd, Nat.reduceLT, Nat.reduceLeDiff, Nat.reduceEqDiff, List.map_cons, List.map_nil, List.sum_cons, List.sum_nil, List.cons_append, List.nil_append, Option.toList_some, Option.toList_none, true_and, and_true, true_or, or_true, not_true_eq_false, not_false_eq_true, Nat.lt_add_one, Nat.zero_le, eq_self, or_false, false_or, implies_true, forall_const, false_implies, forall_false, true_implies, and_self, Nat.zero_lt_one, Nat.add_zero, Nat.zero_add, Int32.reduceLT, Int32.reduceLE, Int32.reduceAdd, Int32.reduceSub, Int32.reduceMul, e10, e01, ite_self, ab_mx, ab_mi, ab_mb, ab_ml2, rX6_told_72, rX6_told_73, rX6_told_76, rX6_told_77, rX6_told_78, rX6_told_79, rX6_told_82, rX6_told_83, rX6_told_86, rX6_told_87, bi_z]
        exact F
  have loop : ∀ (r : Nat) (st : Int32) (m l : Bool) (p1 p2 : Nat) (q : Int) (c : ab_S), st.toInt + r = 16 → 0 ≤ st.toInt → (n1 - p1) + (n2 - p2) ≤ r → wkI W1 W2 H1 H2 n1 n2 p1 p2 q → (m && l) = false → fr wkS σ c → cvp c 0 E1 W1 p1 → cvp c 1 E2 W2 p2 → (c.2 5 0 2).toInt = T1 → (c.2 5 0 3).toInt = T2 → M = (m || remB (moX s) (c1X W1 H2) (c1X W2 H1) n1 n2 p1 p2) → L = (l || remB (leX s) (c1X W1 H2) (c1X W2 H1) n1 n2 p1 p2) → ab_wp mX6_told cX6_told none P 12 [some (.inr (some (5, 0))), some (.inl (.inl kd)), some (.inl (.inl (bi m))), some (.inl (.inl (bi l))), some (.inl (.inl st))] [] c := by
    intro r
    induction r with
    | zero =>
      intro st m l p1 p2 q c er s0 hr hw hml fc w1 w2 t1 t2 hM hL
      have e : p1 = n1 ∧ p2 = n2 := by
        rcases hw with h | h
        · omega
        · exact h
      rw [e.1, e.2, rem_0, Bool.or_false] at hM hL
      have q16 : (16 : Int32) ≤ st := Int32.le_iff_toInt_le.mpr (by rw [show (16 : Int32).toInt = 16 from rfl]; omega)
      have F := out st m l c fc hml hM hL
      rw [rX6_told_12]
      simp only [ab_loc, ab_cat, ab_kil, ab_al, ab_ln, ab_lnp, ab_rf, sh_0, sh_1, sh_2, sh_3, sh_4, sh_5, sh_6, sh_7, sh_8, sh_9, sh_10, sh_11, sh_12, sh_13, sh_14, sh_20, sh_21, sh_22, sh_23, sh_24, sh_25, sh_30, sh_31, sh_32, sh_40, sh_41, sh_42, sh_43, sh_44, sh_45, sh_46, sh_47, sh_48, sh_49, sh_50, sh_51, sh_52, sh_53, sh_54, sh_55, sh_56, sh_57, sh_58, sh_59, sh_60, ct_0, ct_1, ct_2, ct_3, ct_4, ct_5, ct_6, ct_7, ct_8, ct_9, ct_10, ct_11, ct_12, ct_13, ct_14, ct_20, ct_21, ct_22, ct_23, ct_24, ct_25, ct_30, ct_31, ct_32, ct_40, ct_41, ct_42, ct_43, ct_44, ct_45, ct_46, ct_47, ct_48, ct_49, ct_50, ct_51, ct_52, ct_53, ct_54, ct_55, ct_56, ct_57, ct_58, ct_59, ct_60, ki_m1, ki_0, ki_1, ki_2, ki_3, ki_4, ki_5, kb_m2, kb_m3, kb_m4, kb_m8, kb_m9, kb_10, kb_100, kb_16, kb_36, kb_6, kb_63, kb_8, kb_9, kb_99, ks_216, ks_2520, ks_256, ks_800, kl_0, kl_1, ↓reduceIte, reduceCtorEq, Nat.reduceAdd, Nat.reduceLT, Nat.reduceLeDiff, Nat.reduceEqDiff, List.map_cons, List.map_nil, List.sum_cons, List.sum_nil, List.cons_append, List.nil_append, Option.toList_some, Option.toList_none, true_and, and_true, true_or, or_true, not_true_eq_false, not_false_eq_true, Nat.lt_add_one, Nat.zero_le, eq_self, or_false, false_or, implies_true, forall_const, false_implies, forall_false, true_implies, and_self, Nat.zero_lt_one, Nat.add_zero, Nat.zero_add, Int32.reduceLT, Int32.reduceLE, Int32.reduceAdd, Int32.reduceSub, Int32.reduceMul, e10, e01, ite_self, ab_mx, ab_mi, ab_mb, ab_ml2, rX6_told_14, rX6_told_16, q16]
      exact F
    | succ r ih =>
      intro st m l p1 p2 q c er s0 hr hw hml fc w1 w2 t1 t2 hM hL
      have q16 : ¬ (16 : Int32) ≤ st := fun w => by have w := le32 w; rw [show (16 : Int32).toInt = 16 from rfl] at w; omega
      have est : (st + 1).toInt = st.toInt + 1 := i32_p1 (by omega)
      rcases hw with ⟨h1, h2, q1, q2, q3, q4⟩ | ⟨h1, h2⟩
      · rw [rX6_told_12]
        simp only [ab_loc, ab_cat, ab_kil, ab_al, ab_ln, ab_lnp, ab_rf, sh_0, sh_1, sh_2, sh_3, sh_4, sh_5, sh_6, sh_7, sh_8, sh_9, sh_10, sh_11, sh_12, sh_13, sh_14, sh_20, sh_21, sh_22, sh_23, sh_24, sh_25, sh_30, sh_31, sh_32, sh_40, sh_41, sh_42, sh_43, sh_44, sh_45, sh_46, sh_47, sh_48, sh_49, sh_50, sh_51, sh_52, sh_53, sh_54, sh_55, sh_56, sh_57, sh_58, sh_59, sh_60, ct_0, ct_1, ct_2, ct_3, ct_4, ct_5, ct_6, ct_7, ct_8, ct_9, ct_10, ct_11, ct_12, ct_13, ct_14, ct_20, ct_21, ct_22, ct_23, ct_24, ct_25, ct_30, ct_31, ct_32, ct_40, ct_41, ct_42, ct_43, ct_44, ct_45, ct_46, ct_47, ct_48, ct_49, ct_50, ct_51, ct_52, ct_53, ct_54, ct_55, ct_56, ct_57, ct_58, ct_59, ct_60, ki_m1, ki_0, ki_1, ki_2, ki_3, ki_4, ki_5, kb_m2, kb_m3, kb_m4, kb_m8, kb_m9, kb_10, kb_100, kb_16, kb_36, kb_6, kb_63, kb_8, kb_9, kb_99, ks_216, ks_2520, ks_256, ks_800, kl_0, kl_1, ↓reduceIte, reduceCtorEq, Nat.reduceAdd, Nat.reduceLT, Nat.reduceLeDiff, Nat.reduceEqDiff, List.map_cons, List.map_nil, List.sum_cons, List.sum_nil, List.cons_append, List.nil_append, Option.toList_some, Option.toList_none, true_and, and_true, true_or, or_true, not_true_eq_false, not_false_eq_true, Nat.lt_add_one, Nat.zero_le, eq_self, or_false, false_or, implies_true, forall_const, false_implies, forall_false, true_implies, and_self, Nat.zero_lt_one, Nat.add_zero, Nat.zero_add, Int32.reduceLT, Int32.reduceLE, Int32.reduceAdd, Int32.reduceSub, Int32.reduceMul, e10, e01, ite_self, ab_mx, ab_mi, ab_mb, ab_ml2, rX6_told_14, rX6_told_16, rX6_told_19, rX6_told_20, q16]
        refine sX6_tnbF fc.1 b1 b2 (c1.k fc) (c2.k fc) w1 w2 t1 t2 B1.1 B1.2 B2.1 B2.2 h1 h2 q1 q2 q3 q4 (fun d p1' p2' x fd d1 d2 k2 k3 hx e1 e2 kp ks => ?_)
        obtain ⟨I, l1, l2, lr⟩ := wk_inv b1 b2 h1 h2 q1 q2 q3 q4 hx e1 e2
        rw [rem_s h1 h2 hx e1 e2, ← Bool.or_assoc] at hM hL
        have ks : d.1 5 0 5 = s x := by rw [ks, ← es]; rfl
        have go : ((m || moX s x) && (l || leX s x)) = false → ab_wp mX6_told cX6_told none P 12 [some (.inr (some (5, 0))), some (.inl (.inl kd)), some (.inl (.inl (bi (m || moX s x)))), some (.inl (.inl (bi (l || leX s x)))), some (.inl (.inl (st + 1)))] [] d := fun hh => ih (st + 1) (m || moX s x) (l || leX s x) p1' p2' x d (by omega) (by omega) (by omega) I hh (fc.tr fd) d1 d2 (by rw [k2]; exact t1) (by rw [k3]; exact t2) hM hL
        have done : ((m || moX s x) && (l || leX s x)) = true → P (some (.inl (.inl 0))) d := fun hh => by
          have F := hP d (fc.tr fd)
          have hh := (Bool.and_eq_true _ _).mp hh
          rw [hM, hL, hh.1, hh.2] at F
          exact F
        unfold moX leX at go done
        by_cases a : s x ≤ 0
        · by_cases b : 0 ≤ s x
          · simp only [a, b, decide_true, Bool.not_true, Bool.or_false] at go
            have F := go hml
            simp only [ab_loc, ab_cat, ab_kil, ab_al, ab_ln, ab_lnp, ab_rf, sh_0, sh_1, sh_2, sh_3, sh_4, sh_5, sh_6, sh_7, sh_8, sh_9, sh_10, sh_11, sh_12, sh_13, sh_14, sh_20, sh_21, sh_22, sh_23, sh_24, sh_25, sh_30, sh_31, sh_32, sh_40, sh_41, sh_42, sh_43, sh_44, sh_45, sh_46, sh_47, sh_48, sh_49, sh_50, sh_51, sh_52, sh_53, sh_54, sh_55, sh_56, sh_57, sh_58, sh_59, sh_60, ct_0, ct_1, ct_2, ct_3, ct_4, ct_5, ct_6, ct_7, ct_8, ct_9, ct_10, ct_11, ct_12, ct_13, ct_14, ct_20, ct_21, ct_22, ct_23, ct_24, ct_25, ct_30, ct_31, ct_32, ct_40, ct_41, ct_42, ct_43, ct_44, ct_45, ct_46, ct_47, ct_48, ct_49, ct_50, ct_51, ct_52, ct_53, ct_54, ct_55, ct_56, ct_57, ct_58, ct_59, ct_60, ki_m1, ki_0, ki_1, ki_2, ki_3, ki_4, ki_5, kb_m2, kb_m3, kb_m4, kb_m8, kb_m9, kb_10, kb_100, kb_16, kb_36, kb_6, kb_63, kb_8, kb_9, kb_99, ks_216, ks_2520, ks_256, ks_800, kl_0, kl_1, ↓reduceIte, reduceCtorEq, Nat.reduceAdd, Nat.reduceLT, Nat.reduceLeDiff, Nat.reduceEqDiff, List.map_cons, List.map_nil, List.sum_cons, List.sum_nil, List.cons_append, List.nil_append, Option.toList_some, Option.toList_none, true_and, and_true, true_or, or_true, not_true_eq_false, not_false_eq_true, Nat.lt_add_one, Nat.zero_le, eq_self, or_false, false_or, implies_true, forall_const, false_implies, forall_false, true_implies, and_self, Nat.zero_lt_one, Nat.add_zero, Nat.zero_add, Int32.reduceLT, Int32.reduceLE, Int32.reduceAdd, Int32.reduceSub, Int32.reduceMul, e10, e01, ite_self, ab_mx, ab_mi, ab_mb, ab_ml2, rX6_told_23, rX6_told_26, rX6_told_27, rX6_told_28, rX6_told_31, rX6_told_34, rX6_told_35, rX6_told_38, rX6_told_39, rX6_told_40, rX6_told_41, rX6_told_42, rX6_told_43, rX6_told_46, rX6_told_49, rX6_told_50, rX6_told_53, rX6_told_54, rX6_told_55, rX6_told_56, rX6_told_57, rX6_told_60, rX6_told_61, rX6_told_64, rX6_told_65, rX6_told_66, rX6_told_69, ks, a, b, bi_or0, bi_z]
            cases m with
            | true => cases l with
              | true => cases hml
              | false => simp only [ab_loc, ab_cat, ab_kil, ab_al, ab_ln, ab_lnp, ab_rf, sh_0, sh_1, sh_2, sh_3, sh_4, sh_5, sh_6, sh_7, sh_8, sh_9, sh_10, sh_11, sh_12, sh_13, sh_14, sh_20, sh_21, sh_22, sh_23, sh_24, sh_25, sh_30, sh_31, sh_32, sh_40, sh_41, sh_42, sh_43, sh_44, sh_45, sh_46, sh_47, sh_48, sh_49, sh_50, sh_51, sh_52, sh_53, sh_54, sh_55, sh_56, sh_57, sh_58, sh_59, sh_60, ct_0, ct_1, ct_2, ct_3, ct_4, ct_5, ct_6, ct_7, ct_8, ct_9, ct_10, ct_11, ct_12, ct_13, ct_14, ct_20, ct_21, ct_22, ct_23, ct_24, ct_25, ct_30, ct_31, ct_32, ct_40, ct_41, ct_42, ct_43, ct_44, ct_45, ct_46, ct_47, ct_48, ct_49, ct_50, ct_51, ct_52, ct_53, ct_54, ct_55, ct_56, ct_57, ct_58, ct_59, ct_60, ki_m1, ki_0, ki_1, ki_2, ki_3, ki_4, ki_5, kb_m2, kb_m3, kb_m4, kb_m8, kb_m9, kb_10, kb_100, kb_16, kb_36, kb_6, kb_63, kb_8, kb_9, kb_99, ks_216, ks_2520, ks_256, ks_800, kl_0, kl_1, ↓reduceIte, reduceCtorEq, Nat.reduceAdd, Nat.reduceLT, Nat.reduceLeDiff, Nat.reduceEqDiff, List.map_cons, List.map_nil, List.sum_cons, List.sum_nil, List.cons_append, List.nil_append, Option.toList_some, Option.toList_none, true_and, and_true, true_or, or_true, not_true_eq_false, not_false_eq_true, Nat.lt_add_one, Nat.zero_le, eq_self, or_false, false_or, implies_true, forall_const, false_implies, forall_false, true_implies, and_self, Nat.zero_lt_one, Nat.add_zero, Nat.zero_add, Int32.reduceLT, Int32.reduceLE, Int32.reduceAdd, Int32.reduceSub, Int32.reduceMul, e10, e01, ite_self, ab_mx, ab_mi, ab_mb, ab_ml2, rX6_told_66, rX6_told_69]; exact F
            | false => simp only [ab_loc, ab_cat, ab_kil, ab_al, ab_ln, ab_lnp, ab_rf, sh_0, sh_1, sh_2, sh_3, sh_4, sh_5, sh_6, sh_7, sh_8, sh_9, sh_10, sh_11, sh_12, sh_13, sh_14, sh_20, sh_21, sh_22, sh_23, sh_24, sh_25, sh_30, sh_31, sh_32, sh_40, sh_41, sh_42, sh_43, sh_44, sh_45, sh_46, sh_47, sh_48, sh_49, sh_50, sh_51, sh_52, sh_53, sh_54, sh_55, sh_56, sh_57, sh_58, sh_59, sh_60, ct_0, ct_1, ct_2, ct_3, ct_4, ct_5, ct_6, ct_7, ct_8, ct_9, ct_10, ct_11, ct_12, ct_13, ct_14, ct_20, ct_21, ct_22, ct_23, ct_24, ct_25, ct_30, ct_31, ct_32, ct_40, ct_41, ct_42, ct_43, ct_44, ct_45, ct_46, ct_47, ct_48, ct_49, ct_50, ct_51, ct_52, ct_53, ct_54, ct_55, ct_56, ct_57, ct_58, ct_59, ct_60, ki_m1, ki_0, ki_1, ki_2, ki_3, ki_4, ki_5, kb_m2, kb_m3, kb_m4, kb_m8, kb_m9, kb_10, kb_100, kb_16, kb_36, kb_6, kb_63, kb_8, kb_9, kb_99, ks_216, ks_2520, ks_256, ks_800, kl_0, kl_1, ↓reduceIte, reduceCtorEq, Nat.reduceAdd, Nat.reduceLT, Nat.reduceLeDiff, Nat.reduceEqDiff, List.map_cons, List.map_nil, List.sum_cons, List.sum_nil, List.cons_append, List.nil_append, Option.toList_some, Option.toList_none, true_and, and_true, true_or, or_true, not_true_eq_false, not_false_eq_true, Nat.lt_add_one, Nat.zero_le, eq_self, or_false, false_or, implies_true, forall_const, false_implies, forall_false, true_implies, and_self, Nat.zero_lt_one, Nat.add_zero, Nat.zero_add, Int32.reduceLT, Int32.reduceLE, Int32.reduceAdd, Int32.reduceSub, Int32.reduceMul, e10, e01, ite_self, ab_mx, ab_mi, ab_mb, ab_ml2, rX6_told_66, rX6_told_69]; exact F
          · simp only [a, b, decide_true, decide_false, Bool.not_true, Bool.not_false, Bool.or_false, Bool.or_true, Bool.and_true] at go done
            simp only [ab_loc, ab_cat, ab_kil, ab_al, ab_ln, ab_lnp, ab_rf, sh_0, sh_1, sh_2, sh_3, sh_4, sh_5, sh_6, sh_7, sh_8, sh_9, sh_10, sh_11, sh_12, sh_13, sh_14, sh_20, sh_21, sh_22, sh_23, sh_24, sh_25, sh_30, sh_31, sh_32, sh_40, sh_41, sh_42, sh_43, sh_44, sh_45, sh_46, sh_47, sh_48, sh_49, sh_50, sh_51, sh_52, sh_53, sh_54, sh_55, sh_56, sh_57, sh_58, sh_59, sh_60, ct_0, ct_1, ct_2, ct_3, ct_4, ct_5, ct_6, ct_7, ct_8, ct_9, ct_10, ct_11, ct_12, ct_13, ct_14, ct_20, ct_21, ct_22, ct_23, ct_24, ct_25, ct_30, ct_31, ct_32, ct_40, ct_41, ct_42, ct_43, ct_44, ct_45, ct_46, ct_47, ct_48, ct_49, ct_50, ct_51, ct_52, ct_53, ct_54, ct_55, ct_56, ct_57, ct_58, ct_59, ct_60, ki_m1, ki_0, ki_1, ki_2, ki_3, ki_4, ki_5, kb_m2, kb_m3, kb_m4, kb_m8, kb_m9, kb_10, kb_100, kb_16, kb_36, kb_6, kb_63, kb_8, kb_9, kb_99, ks_216, ks_2520, ks_256, ks_800, kl_0, kl_1, ↓reduceIte, reduceCtorEq, Nat.reduceAdd, Nat.reduceLT, Nat.reduceLeDiff, Nat.reduceEqDiff, List.map_cons, List.map_nil, List.sum_cons, List.sum_nil, List.cons_append, List.nil_append, Option.toList_some, Option.toList_none, true_and, and_true, true_or, or_true, not_true_eq_false, not_false_eq_true, Nat.lt_add_one, Nat.zero_le, eq_self, or_false, false_or, implies_true, forall_const, false_implies, forall_false, true_implies, and_self, Nat.zero_lt_one, Nat.add_zero, Nat.zero_add, Int32.reduceLT, Int32.reduceLE, Int32.reduceAdd, Int32.reduceSub, Int32.reduceMul, e10, e01, ite_self, ab_mx, ab_mi, ab_mb, ab_ml2, rX6_told_23, rX6_told_26, rX6_told_27, rX6_told_28, rX6_told_31, rX6_told_34, rX6_told_35, rX6_told_38, rX6_told_39, rX6_told_40, rX6_told_41, rX6_told_42, rX6_told_43, rX6_told_46, rX6_told_49, rX6_told_50, rX6_told_53, rX6_told_54, rX6_told_55, rX6_told_56, rX6_told_57, rX6_told_60, rX6_told_61, rX6_told_64, rX6_told_65, rX6_told_66, rX6_told_69, ks, a, b, bi_or0, bi_or1, bi_z]
            cases m with
            | true => exact done rfl
            | false => exact go rfl
        · by_cases b : 0 ≤ s x
          · simp only [a, b, decide_true, decide_false, Bool.not_true, Bool.not_false, Bool.or_false, Bool.or_true, Bool.true_and] at go done
            simp only [ab_loc, ab_cat, ab_kil, ab_al, ab_ln, ab_lnp, ab_rf, sh_0, sh_1, sh_2, sh_3, sh_4, sh_5, sh_6, sh_7, sh_8, sh_9, sh_10, sh_11, sh_12, sh_13, sh_14, sh_20, sh_21, sh_22, sh_23, sh_24, sh_25, sh_30, sh_31, sh_32, sh_40, sh_41, sh_42, sh_43, sh_44, sh_45, sh_46, sh_47, sh_48, sh_49, sh_50, sh_51, sh_52, sh_53, sh_54, sh_55, sh_56, sh_57, sh_58, sh_59, sh_60, ct_0, ct_1, ct_2, ct_3, ct_4, ct_5, ct_6, ct_7, ct_8, ct_9, ct_10, ct_11, ct_12, ct_13, ct_14, ct_20, ct_21, ct_22, ct_23, ct_24, ct_25, ct_30, ct_31, ct_32, ct_40, ct_41, ct_42, ct_43, ct_44, ct_45, ct_46, ct_47, ct_48, ct_49, ct_50, ct_51, ct_52, ct_53, ct_54, ct_55, ct_56, ct_57, ct_58, ct_59, ct_60, ki_m1, ki_0, ki_1, ki_2, ki_3, ki_4, ki_5, kb_m2, kb_m3, kb_m4, kb_m8, kb_m9, kb_10, kb_100, kb_16, kb_36, kb_6, kb_63, kb_8, kb_9, kb_99, ks_216, ks_2520, ks_256, ks_800, kl_0, kl_1, ↓reduceIte, reduceCtorEq, Nat.reduceAdd, Nat.reduceLT, Nat.reduceLeDiff, Nat.reduceEqDiff, List.map_cons, List.map_nil, List.sum_cons, List.sum_nil, List.cons_append, List.nil_append, Option.toList_some, Option.toList_none, true_and, and_true, true_or, or_true, not_true_eq_false, not_false_eq_true, Nat.lt_add_one, Nat.zero_le, eq_self, or_false, false_or, implies_true, forall_const, false_implies, forall_false, true_implies, and_self, Nat.zero_lt_one, Nat.add_zero, Nat.zero_add, Int32.reduceLT, Int32.reduceLE, Int32.reduceAdd, Int32.reduceSub, Int32.reduceMul, e10, e01, ite_self, ab_mx, ab_mi, ab_mb, ab_ml2, rX6_told_23, rX6_told_26, rX6_told_27, rX6_told_28, rX6_told_31, rX6_told_34, rX6_told_35, rX6_told_38, rX6_told_39, rX6_told_40, rX6_told_41, rX6_told_42, rX6_told_43, rX6_told_46, rX6_told_49, rX6_told_50, rX6_told_53, rX6_told_54, rX6_told_55, rX6_told_56, rX6_told_57, rX6_told_60, rX6_told_61, rX6_told_64, rX6_told_65, rX6_told_66, rX6_told_69, ks, a, b, bi_or0, bi_or1, bi_z]
            cases l with
            | true => exact done rfl
            | false => exact go rfl
          · exact absurd (Int32.le_iff_toInt_le.mpr (by
              have h1 : ¬ (s x).toInt ≤ 0 := fun w => a (Int32.le_iff_toInt_le.mpr w)
              rw [t0i]; omega)) b
      · subst h1 h2
        rw [rem_0, Bool.or_false] at hM hL
        have F := out st m l c fc hml hM hL
        rw [rX6_told_12]
        simp only [ab_loc, ab_cat, ab_kil, ab_al, ab_ln, ab_lnp, ab_rf, sh_0, sh_1, sh_2, sh_3, sh_4, sh_5, sh_6, sh_7, sh_8, sh_9, sh_10, sh_11, sh_12, sh_13, sh_14, sh_20, sh_21, sh_22, sh_23, sh_24, sh_25, sh_30, sh_31, sh_32, sh_40, sh_41, sh_42, sh_43, sh_44, sh_45, sh_46, sh_47, sh_48, sh_49, sh_50, sh_51, sh_52, sh_53, sh_54, sh_55, sh_56, sh_57, sh_58, sh_59, sh_60, ct_0, ct_1, ct_2, ct_3, ct_4, ct_5, ct_6, ct_7, ct_8, ct_9, ct_10, ct_11, ct_12, ct_13, ct_14, ct_20, ct_21, ct_22, ct_23, ct_24, ct_25, ct_30, ct_31, ct_32, ct_40, ct_41, ct_42, ct_43, ct_44, ct_45, ct_46, ct_47, ct_48, ct_49, ct_50, ct_51, ct_52, ct_53, ct_54, ct_55, ct_56, ct_57, ct_58, ct_59, ct_60, ki_m1, ki_0, ki_1, ki_2, ki_3, ki_4, ki_5, kb_m2, kb_m3, kb_m4, kb_m8, kb_m9, kb_10, kb_100, kb_16, kb_36, kb_6, kb_63, kb_8, kb_9, kb_99, ks_216, ks_2520, ks_256, ks_800, kl_0, kl_1, ↓reduceIte, reduceCtorEq, Nat.reduceAdd, Nat.reduceLT, Nat.reduceLeDiff, Nat.reduceEqDiff, List.map_cons, List.map_nil, List.sum_cons, List.sum_nil, List.cons_append, List.nil_append, Option.toList_some, Option.toList_none, true_and, and_true, true_or, or_true, not_true_eq_false, not_false_eq_true, Nat.lt_add_one, Nat.zero_le, eq_self, or_false, false_or, implies_true, forall_const, false_implies, forall_false, true_implies, and_self, Nat.zero_lt_one, Nat.add_zero, Nat.zero_add, Int32.reduceLT, Int32.reduceLE, Int32.reduceAdd, Int32.reduceSub, Int32.reduceMul, e10, e01, ite_self, ab_mx, ab_mi, ab_mb, ab_ml2, rX6_told_14, rX6_told_16, rX6_told_19, rX6_told_20, q16]
        refine sX6_tnb0 (c1.k fc) w1 (Nat.lt_irrefl _) ?_
        simp only [ab_loc, ab_cat, ab_kil, ab_al, ab_ln, ab_lnp, ab_rf, sh_0, sh_1, sh_2, sh_3, sh_4, sh_5, sh_6, sh_7, sh_8, sh_9, sh_10, sh_11, sh_12, sh_13, sh_14, sh_20, sh_21, sh_22, sh_23, sh_24, sh_25, sh_30, sh_31, sh_32, sh_40, sh_41, sh_42, sh_43, sh_44, sh_45, sh_46, sh_47, sh_48, sh_49, sh_50, sh_51, sh_52, sh_53, sh_54, sh_55, sh_56, sh_57, sh_58, sh_59, sh_60, ct_0, ct_1, ct_2, ct_3, ct_4, ct_5, ct_6, ct_7, ct_8, ct_9, ct_10, ct_11, ct_12, ct_13, ct_14, ct_20, ct_21, ct_22, ct_23, ct_24, ct_25, ct_30, ct_31, ct_32, ct_40, ct_41, ct_42, ct_43, ct_44, ct_45, ct_46, ct_47, ct_48, ct_49, ct_50, ct_51, ct_52, ct_53, ct_54, ct_55, ct_56, ct_57, ct_58, ct_59, ct_60, ki_m1, ki_0, ki_1, ki_2, ki_3, ki_4, ki_5, kb_m2, kb_m3, kb_m4, kb_m8, kb_m9, kb_10, kb_100, kb_16, kb_36, kb_6, kb_63, kb_8, kb_9, kb_99, ks_216, ks_2520, ks_256, ks_800, kl_0, kl_1, ↓reduceIte, reduceCtorEq, Nat.reduceAdd, Nat.reduceLT, Nat.reduceLeDiff, Nat.reduceEqDiff, List.map_cons, List.map_nil, List.sum_cons, List.sum_nil, List.cons_append, List.nil_append, Option.toList_some, Option.toList_none, true_and, and_true, true_or, or_true, not_true_eq_false, not_false_eq_true, Nat.lt_add_one, Nat.zero_le, eq_self, or_false, false_or, implies_true, forall_const, false_implies, forall_false, true_implies, and_self, Nat.zero_lt_one, Nat.add_zero, Nat.zero_add, Int32.reduceLT, Int32.reduceLE, Int32.reduceAdd, Int32.reduceSub, Int32.reduceMul, e10, e01, ite_self, ab_mx, ab_mi, ab_mb, ab_ml2, rX6_told_23]
        exact F
  simp only [ab_loc, ab_cat, ab_kil, ab_al, ab_ln, ab_lnp, ab_rf, sh_0, sh_1, sh_2, sh_3, sh_4, sh_5, sh_6, sh_7, sh_8, sh_9, sh_10, sh_11, sh_12, sh_13, sh_14, sh_20, sh_21, sh_22, sh_23, sh_24, sh_25, sh_30, sh_31, sh_32, sh_40, sh_41, sh_42, sh_43, sh_44, sh_45, sh_46, sh_47, sh_48, sh_49, sh_50, sh_51, sh_52, sh_53, sh_54, sh_55, sh_56, sh_57, sh_58, sh_59, sh_60, ct_0, ct_1, ct_2, ct_3, ct_4, ct_5, ct_6, ct_7, ct_8, ct_9, ct_10, ct_11, ct_12, ct_13, ct_14, ct_20, ct_21, ct_22, ct_23, ct_24, ct_25, ct_30, ct_31, ct_32, ct_40, ct_41, ct_42, ct_43, ct_44, ct_45, ct_46, ct_47, ct_48, ct_49, ct_50, ct_51, ct_52, ct_53, ct_54, ct_55, ct_56, ct_57, ct_58, ct_59, ct_60, ki_m1, ki_0, ki_1, ki_2, ki_3, ki_4, ki_5, kb_m2, kb_m3, kb_m4, kb_m8, kb_m9, kb_10, kb_100, kb_16, kb_36, kb_6, kb_63, kb_8, kb_9, kb_99, ks_216, ks_2520, ks_256, ks_800, kl_0, kl_1, ↓reduceIte, reduceCtorEq, Nat.reduceAdd, Nat.reduceLT, Nat.reduceLeDiff, Nat.reduceEqDiff, List.map_cons, List.map_nil, List.sum_cons, List.sum_nil, List.cons_append, List.nil_append, Option.toList_some, Option.toList_none, true_and, and_true, true_or, or_true, not_true_eq_false, not_false_eq_true, Nat.lt_add_one, Nat.zero_le, eq_self, or_false, false_or, implies_true, forall_const, false_implies, forall_false, true_implies, and_self, Nat.zero_lt_one, Nat.add_zero, Nat.zero_add, Int32.reduceLT, Int32.reduceLE, Int32.reduceAdd, Int32.reduceSub, Int32.reduceMul, e10, e01, ite_self, ab_mx, ab_mi, ab_mb, ab_ml2, uX6_told, rX6_told_0, rX6_told_1, rX6_told_2, rX6_told_3, rX6_told_4, rX6_told_5, rX6_told_6]
  refine sX6_startF hR b1 b2 c1 c2 A10 A11 A20 A21 (fun d fd d1 d2 k1 k2 => ?_)
  have z1 := en_le b1 (show 0 < n1 by omega) (M := H2) (by omega)
  have y1 := b1.c (show 0 + 1 ≤ n1 by omega)
  have y2 := b2.c (show 0 + 1 ≤ n2 by omega)
  have F := loop 16 0 false false 0 0 0 d rfl (by decide) (by have := b1.1; have := b2.1; omega) (Or.inl ⟨by omega, by omega, by show 0 * H2 ≤ 0; omega, by show 0 * H1 ≤ 0; omega, Int.mul_nonneg y1.1 (by omega), Int.mul_nonneg y2.1 (by omega)⟩) rfl fd d1 d2 (k1.trans eT1.symm) (k2.trans eT2.symm) (by rw [Bool.false_or]; exact eM.symm) (by rw [Bool.false_or]; exact eL.symm)
  simp only [ab_loc, ab_cat, ab_kil, ab_al, ab_ln, ab_lnp, ab_rf, sh_0, sh_1, sh_2, sh_3, sh_4, sh_5, sh_6, sh_7, sh_8, sh_9, sh_10, sh_11, sh_12, sh_13, sh_14, sh_20, sh_21, sh_22, sh_23, sh_24, sh_25, sh_30, sh_31, sh_32, sh_40, sh_41, sh_42, sh_43, sh_44, sh_45, sh_46, sh_47, sh_48, sh_49, sh_50, sh_51, sh_52, sh_53, sh_54, sh_55, sh_56, sh_57, sh_58, sh_59, sh_60, ct_0, ct_1, ct_2, ct_3, ct_4, ct_5, ct_6, ct_7, ct_8, ct_9, ct_10, ct_11, ct_12, ct_13, ct_14, ct_20, ct_21, ct_22, ct_23, ct_24, ct_25, ct_30, ct_31, ct_32, ct_40, ct_41, ct_42, ct_43, ct_44, ct_45, ct_46, ct_47, ct_48, ct_49, ct_50, ct_51, ct_52, ct_53, ct_54, ct_55, ct_56, ct_57, ct_58, ct_59, ct_60, ki_m1, ki_0, ki_1, ki_2, ki_3, ki_4, ki_5, kb_m2, kb_m3, kb_m4, kb_m8, kb_m9, kb_10, kb_100, kb_16, kb_36, kb_6, kb_63, kb_8, kb_9, kb_99, ks_216, ks_2520, ks_256, ks_800, kl_0, kl_1, ↓reduceIte, reduceCtorEq, Nat.reduceAdd, Nat.reduceLT, Nat.reduceLeDiff, Nat.reduceEqDiff, List.map_cons, List.map_nil, List.sum_cons, List.sum_nil, List.cons_append, List.nil_append, Option.toList_some, Option.toList_none, true_and, and_true, true_or, or_true, not_true_eq_false, not_false_eq_true, Nat.lt_add_one, Nat.zero_le, eq_self, or_false, false_or, implies_true, forall_const, false_implies, forall_false, true_implies, and_self, Nat.zero_lt_one, Nat.add_zero, Nat.zero_add, Int32.reduceLT, Int32.reduceLE, Int32.reduceAdd, Int32.reduceSub, Int32.reduceMul, e10, e01, ite_self, ab_mx, ab_mi, ab_mb, ab_ml2, rX6_told_9, rX6_told_10]
  exact F
