/-! ===== the tax of both, and whether a town is known: what they answer ===== -/
def rg_R (σ : ab_S) : Prop := ∀ k i j, (ck_rn k j).1 ≤ (σ.1 k i j).toInt ∧ (σ.1 k i j).toInt ≤ (ck_rn k j).2
def tI (g : Nat → Int32) (i : Nat) : Int := (g i).toInt
set_option maxRecDepth 100000 in
theorem sX1_nextFrom {σ : ab_S} {P : ab_P} (hr : rg_R σ) {x1 : Int32} (hP : ∀ x : Int32, x.toInt = nx (tI (σ.1 3 0)) x1.toInt (σ.1 2 0 0).toInt.toNat → P (some (.inl (.inl x))) σ) : ab_sp mX1_nextFrom cX1_nextFrom [.inr (some (2, 0)), .inl (.inl x1)] σ P := by
  have hn : 0 ≤ (σ.1 2 0 0).toInt ∧ (σ.1 2 0 0).toInt ≤ 4 := hr 2 0 0
  have key : ∀ (n : Nat) (v k : Int32), ((σ.1 2 0 0).toInt - k.toInt).toNat = n → 0 ≤ k.toInt → k.toInt ≤ (σ.1 2 0 0).toInt → v.toInt = nx (tI (σ.1 3 0)) x1.toInt k.toInt.toNat → ab_wp mX1_nextFrom cX1_nextFrom none P 5 [some (.inr (some (2, 0))), some (.inl (.inl x1)), some (.inl (.inl v)), some (.inl (.inl k))] [] σ := by
    intro n
    induction n with
    | zero =>
      intro v k en k0 k1 hv
      have c2 : σ.1 2 0 0 ≤ k := Int32.le_iff_toInt_le.mpr (by omega)
      have e : k.toInt = (σ.1 2 0 0).toInt := by omega
      rw [e] at hv
      rw [rX1_nextFrom_5]
      simp only [ab_loc, ab_cat, ab_kil, ab_al, ab_ln, ab_lnp, ab_rf, sh_0, sh_1, sh_2, sh_3, sh_4, sh_5, sh_6, sh_7, sh_8, sh_9, sh_10, sh_11, sh_12, sh_13, sh_14, sh_20, sh_21, sh_22, sh_23, sh_24, sh_25, sh_30, sh_31, sh_32, sh_40, sh_41, sh_42, sh_43, sh_44, sh_45, sh_46, sh_47, sh_48, sh_49, sh_50, sh_51, sh_52, sh_53, sh_54, sh_55, sh_56, sh_57, sh_58, sh_59, sh_60, ct_0, ct_1, ct_2, ct_3, ct_4, ct_5, ct_6, ct_7, ct_8, ct_9, ct_10, ct_11, ct_12, ct_13, ct_14, ct_20, ct_21, ct_22, ct_23, ct_24, ct_25, ct_30, ct_31, ct_32, ct_40, ct_41, ct_42, ct_43, ct_44, ct_45, ct_46, ct_47, ct_48, ct_49, ct_50, ct_51, ct_52, ct_53, ct_54, ct_55, ct_56, ct_57, ct_58, ct_59, ct_60, ki_m1, ki_0, ki_1, ki_2, ki_3, ki_4, ki_5, kb_m2, kb_m3, kb_m4, kb_m8, kb_m9, kb_10, kb_100, kb_16, kb_36, kb_6, kb_63, kb_8, kb_9, kb_99, ks_216, ks_2520, ks_256, ks_800, kl_0, kl_1, ↓reduceIte, reduceCtorEq, Nat.reduceAdd, Nat.reduceLT, Nat.reduceLeDiff, Nat.reduceEqDiff, List.map_cons, List.map_nil, List.sum_cons, List.sum_nil, List.cons_append, List.nil_append, Option.toList_some, Option.toList_none, true_and, and_true, true_or, or_true, not_true_eq_false, not_false_eq_true, Nat.lt_add_one, Nat.zero_le, eq_self, or_false, false_or, implies_true, forall_const, false_implies, forall_false, true_implies, and_self, Nat.zero_lt_one, Nat.add_zero, Nat.zero_add, Int32.reduceLT, Int32.reduceLE, Int32.reduceAdd, Int32.reduceSub, Int32.reduceMul, e10, e01, ite_self, ab_mx, ab_mi, ab_mb, ab_ml2, rX1_nextFrom_6, rX1_nextFrom_7, rX1_nextFrom_10, rX1_nextFrom_13, rX1_nextFrom_14, rX1_nextFrom_17, rX1_nextFrom_18, rX1_nextFrom_19, rX1_nextFrom_20, rX1_nextFrom_23, rX1_nextFrom_24, rX1_nextFrom_25, rX1_nextFrom_28, rX1_nextFrom_29, rX1_nextFrom_30, rX1_nextFrom_33, rX1_nextFrom_34, rX1_nextFrom_37, rX1_nextFrom_40, rX1_nextFrom_41, c2]
      exact hP _ hv
    | succ n ih =>
      intro v k en k0 k1 hv
      have c2 : ¬ σ.1 2 0 0 ≤ k := fun q => by have q := le32 q; omega
      have vk : vp_in k 4 := vp_of k0 (by omega)
      have ek : (k + 1).toInt = k.toInt + 1 := i32_p1 (by omega)
      have e2 : (k + 1).toInt.toNat = k.toInt.toNat + 1 := by omega
      have ih1 := fun v hv => ih v (k + 1) (by omega) (by omega) (by omega) hv
      rw [e2] at ih1
      have en : k.toNatClampNeg = k.toInt.toNat := rfl
      rw [rX1_nextFrom_5]
      simp only [ab_loc, ab_cat, ab_kil, ab_al, ab_ln, ab_lnp, ab_rf, sh_0, sh_1, sh_2, sh_3, sh_4, sh_5, sh_6, sh_7, sh_8, sh_9, sh_10, sh_11, sh_12, sh_13, sh_14, sh_20, sh_21, sh_22, sh_23, sh_24, sh_25, sh_30, sh_31, sh_32, sh_40, sh_41, sh_42, sh_43, sh_44, sh_45, sh_46, sh_47, sh_48, sh_49, sh_50, sh_51, sh_52, sh_53, sh_54, sh_55, sh_56, sh_57, sh_58, sh_59, sh_60, ct_0, ct_1, ct_2, ct_3, ct_4, ct_5, ct_6, ct_7, ct_8, ct_9, ct_10, ct_11, ct_12, ct_13, ct_14, ct_20, ct_21, ct_22, ct_23, ct_24, ct_25, ct_30, ct_31, ct_32, ct_40, ct_41, ct_42, ct_43, ct_44, ct_45, ct_46, ct_47, ct_48, ct_49, ct_50, ct_51, ct_52, ct_53, ct_54, ct_55, ct_56, ct_57, ct_58, ct_59, ct_60, ki_m1, ki_0, ki_1, ki_2, ki_3, ki_4, ki_5, kb_m2, kb_m3, kb_m4, kb_m8, kb_m9, kb_10, kb_100, kb_16, kb_36, kb_6, kb_63, kb_8, kb_9, kb_99, ks_216, ks_2520, ks_256, ks_800, kl_0, kl_1, ↓reduceIte, reduceCtorEq, Nat.reduceAdd, Nat.reduceLT, Nat.reduceLeDiff, Nat.reduceEqDiff, List.map_cons, List.map_nil, List.sum_cons, List.sum_nil, List.cons_append, List.nil_append, Option.toList_some, Option.toList_none, true_and, and_true, true_or, or_true, not_true_eq_false, not_false_eq_true, Nat.lt_add_one, Nat.zero_le, eq_self, or_false, false_or, implies_true, forall_const, false_implies, forall_false, true_implies, and_self, Nat.zero_lt_one, Nat.add_zero, Nat.zero_add, Int32.reduceLT, Int32.reduceLE, Int32.reduceAdd, Int32.reduceSub, Int32.reduceMul, e10, e01, ite_self, ab_mx, ab_mi, ab_mb, ab_ml2, rX1_nextFrom_6, rX1_nextFrom_7, rX1_nextFrom_10, rX1_nextFrom_13, rX1_nextFrom_14, rX1_nextFrom_17, rX1_nextFrom_18, rX1_nextFrom_19, rX1_nextFrom_20, rX1_nextFrom_23, rX1_nextFrom_24, rX1_nextFrom_25, rX1_nextFrom_28, rX1_nextFrom_29, rX1_nextFrom_30, rX1_nextFrom_33, rX1_nextFrom_34, rX1_nextFrom_37, c2, vk]
      by_cases c3 : σ.1 3 0 k.toNatClampNeg ≤ x1
      · rw [if_pos c3]
        refine ih1 v ?_
        show v.toInt = if x1.toInt < tI (σ.1 3 0) k.toInt.toNat then _ else _
        rw [if_neg (show ¬ x1.toInt < tI (σ.1 3 0) k.toInt.toNat from Int.not_lt.mpr (le32 c3))]
        exact hv
      · rw [if_neg c3]
        refine ih1 _ ?_
        have c4 := nle32 c3
        show _ = if x1.toInt < tI (σ.1 3 0) k.toInt.toNat then _ else _
        rw [if_pos (show x1.toInt < tI (σ.1 3 0) k.toInt.toNat from c4), ← hv]
        have e5 : tI (σ.1 3 0) k.toInt.toNat = (σ.1 3 0 k.toNatClampNeg).toInt := rfl
        rw [e5]
        by_cases c5 : σ.1 3 0 k.toNatClampNeg < v
        · rw [if_pos c5]
          have := lt32 c5
          omega
        · rw [if_neg c5]
          have := nlt32 c5
          omega
  have K := key (σ.1 2 0 0).toInt.toNat 100 0 (by rw [t0i]; omega) (by decide) (by rw [t0i]; exact hn.1) rfl
  simp only [ab_loc, ab_cat, ab_kil, ab_al, ab_ln, ab_lnp, ab_rf, sh_0, sh_1, sh_2, sh_3, sh_4, sh_5, sh_6, sh_7, sh_8, sh_9, sh_10, sh_11, sh_12, sh_13, sh_14, sh_20, sh_21, sh_22, sh_23, sh_24, sh_25, sh_30, sh_31, sh_32, sh_40, sh_41, sh_42, sh_43, sh_44, sh_45, sh_46, sh_47, sh_48, sh_49, sh_50, sh_51, sh_52, sh_53, sh_54, sh_55, sh_56, sh_57, sh_58, sh_59, sh_60, ct_0, ct_1, ct_2, ct_3, ct_4, ct_5, ct_6, ct_7, ct_8, ct_9, ct_10, ct_11, ct_12, ct_13, ct_14, ct_20, ct_21, ct_22, ct_23, ct_24, ct_25, ct_30, ct_31, ct_32, ct_40, ct_41, ct_42, ct_43, ct_44, ct_45, ct_46, ct_47, ct_48, ct_49, ct_50, ct_51, ct_52, ct_53, ct_54, ct_55, ct_56, ct_57, ct_58, ct_59, ct_60, ki_m1, ki_0, ki_1, ki_2, ki_3, ki_4, ki_5, kb_m2, kb_m3, kb_m4, kb_m8, kb_m9, kb_10, kb_100, kb_16, kb_36, kb_6, kb_63, kb_8, kb_9, kb_99, ks_216, ks_2520, ks_256, ks_800, kl_0, kl_1, ↓reduceIte, reduceCtorEq, Nat.reduceAdd, Nat.reduceLT, Nat.reduceLeDiff, Nat.reduceEqDiff, List.map_cons, List.map_nil, List.sum_cons, List.sum_nil, List.cons_append, List.nil_append, Option.toList_some, Option.toList_none, true_and, and_true, true_or, or_true, not_true_eq_false, not_false_eq_true, Nat.lt_add_one, Nat.zero_le, eq_self, or_false, false_or, implies_true, forall_const, false_implies, forall_false, true_implies, and_self, Nat.zero_lt_one, Nat.add_zero, Nat.zero_add, Int32.reduceLT, Int32.reduceLE, Int32.reduceAdd, Int32.reduceSub, Int32.reduceMul, e10, e01, ite_self, ab_mx, ab_mi, ab_mb, ab_ml2, uX1_nextFrom, rX1_nextFrom_0, rX1_nextFrom_2, rX1_nextFrom_3, rX1_nextFrom_4]
  exact K
set_option maxRecDepth 100000 in
theorem sX1_isToldAgain {σ : ab_S} {P : ab_P} (hr : rg_R σ) {x1 : Int32} (l1 : 0 ≤ x1.toInt) (m1 : x1.toInt ≤ 3) (hP : P (some (.inl (.inl (if agb (tI (σ.1 3 0)) x1.toInt.toNat (σ.1 2 0 0).toInt.toNat = true then 1 else 0)))) σ) : ab_sp mX1_isToldAgain cX1_isToldAgain [.inr (some (2, 0)), .inl (.inl x1)] σ P := by
  have hn : 0 ≤ (σ.1 2 0 0).toInt ∧ (σ.1 2 0 0).toInt ≤ 4 := hr 2 0 0
  have v1 : vp_in x1 4 := vp_of l1 (by omega)
  have key : ∀ (n : Nat) (k : Int32), (4 - k.toInt).toNat = n → x1.toInt + 1 ≤ k.toInt → k.toInt ≤ 4 → (∀ j : Nat, x1.toInt.toNat < j → (j : Int) < k.toInt → j < (σ.1 2 0 0).toInt.toNat → ¬ tI (σ.1 3 0) j = tI (σ.1 3 0) x1.toInt.toNat) → ab_wp mX1_isToldAgain cX1_isToldAgain none P 4 [some (.inr (some (2, 0))), some (.inl (.inl x1)), some (.inl (.inl k))] [] σ := by
    have fin : ∀ (k : Int32), σ.1 2 0 0 ≤ k → (∀ j : Nat, x1.toInt.toNat < j → (j : Int) < k.toInt → j < (σ.1 2 0 0).toInt.toNat → ¬ tI (σ.1 3 0) j = tI (σ.1 3 0) x1.toInt.toNat) → agb (tI (σ.1 3 0)) x1.toInt.toNat (σ.1 2 0 0).toInt.toNat = false := by
      intro k c2 hj
      cases c : agb (tI (σ.1 3 0)) x1.toInt.toNat (σ.1 2 0 0).toInt.toNat with
      | false => rfl
      | true =>
        obtain ⟨j, j1, j2, j3⟩ := agb_ok.mp c
        have c2 := le32 c2
        exact absurd j3 (hj j j1 (by omega) j2)
    intro n
    induction n with
    | zero =>
      intro k en k0 k1 hj
      have c2 : σ.1 2 0 0 ≤ k := Int32.le_iff_toInt_le.mpr (by omega)
      have F := fin k c2 hj
      rw [F, if_neg (by decide)] at hP
      rw [rX1_isToldAgain_4]
      simp only [ab_loc, ab_cat, ab_kil, ab_al, ab_ln, ab_lnp, ab_rf, sh_0, sh_1, sh_2, sh_3, sh_4, sh_5, sh_6, sh_7, sh_8, sh_9, sh_10, sh_11, sh_12, sh_13, sh_14, sh_20, sh_21, sh_22, sh_23, sh_24, sh_25, sh_30, sh_31, sh_32, sh_40, sh_41, sh_42, sh_43, sh_44, sh_45, sh_46, sh_47, sh_48, sh_49, sh_50, sh_51, sh_52, sh_53, sh_54, sh_55, sh_56, sh_57, sh_58, sh_59, sh_60, ct_0, ct_1, ct_2, ct_3, ct_4, ct_5, ct_6, ct_7, ct_8, ct_9, ct_10, ct_11, ct_12, ct_13, ct_14, ct_20, ct_21, ct_22, ct_23, ct_24, ct_25, ct_30, ct_31, ct_32, ct_40, ct_41, ct_42, ct_43, ct_44, ct_45, ct_46, ct_47, ct_48, ct_49, ct_50, ct_51, ct_52, ct_53, ct_54, ct_55, ct_56, ct_57, ct_58, ct_59, ct_60, ki_m1, ki_0, ki_1, ki_2, ki_3, ki_4, ki_5, kb_m2, kb_m3, kb_m4, kb_m8, kb_m9, kb_10, kb_100, kb_16, kb_36, kb_6, kb_63, kb_8, kb_9, kb_99, ks_216, ks_2520, ks_256, ks_800, kl_0, kl_1, ↓reduceIte, reduceCtorEq, Nat.reduceAdd, Nat.reduceLT, Nat.reduceLeDiff, Nat.reduceEqDiff, List.map_cons, List.map_nil, List.sum_cons, List.sum_nil, List.cons_append, List.nil_append, Option.toList_some, Option.toList_none, true_and, and_true, true_or, or_true, not_true_eq_false, not_false_eq_true, Nat.lt_add_one, Nat.zero_le, eq_self, or_false, false_or, implies_true, forall_const, false_implies, forall_false, true_implies, and_self, Nat.zero_lt_one, Nat.add_zero, Nat.zero_add, Int32.reduceLT, Int32.reduceLE, Int32.reduceAdd, Int32.reduceSub, Int32.reduceMul, e10, e01, ite_self, ab_mx, ab_mi, ab_mb, ab_ml2, rX1_isToldAgain_5, rX1_isToldAgain_6, rX1_isToldAgain_9, rX1_isToldAgain_12, rX1_isToldAgain_13, rX1_isToldAgain_16, rX1_isToldAgain_17, rX1_isToldAgain_18, rX1_isToldAgain_19, rX1_isToldAgain_22, rX1_isToldAgain_23, rX1_isToldAgain_24, rX1_isToldAgain_27, rX1_isToldAgain_28, rX1_isToldAgain_29, rX1_isToldAgain_32, rX1_isToldAgain_35, rX1_isToldAgain_36, c2]
      exact hP
    | succ n ih =>
      intro k en k0 k1 hj
      by_cases c2 : σ.1 2 0 0 ≤ k
      · have F := fin k c2 hj
        rw [F, if_neg (by decide)] at hP
        rw [rX1_isToldAgain_4]
        simp only [ab_loc, ab_cat, ab_kil, ab_al, ab_ln, ab_lnp, ab_rf, sh_0, sh_1, sh_2, sh_3, sh_4, sh_5, sh_6, sh_7, sh_8, sh_9, sh_10, sh_11, sh_12, sh_13, sh_14, sh_20, sh_21, sh_22, sh_23, sh_24, sh_25, sh_30, sh_31, sh_32, sh_40, sh_41, sh_42, sh_43, sh_44, sh_45, sh_46, sh_47, sh_48, sh_49, sh_50, sh_51, sh_52, sh_53, sh_54, sh_55, sh_56, sh_57, sh_58, sh_59, sh_60, ct_0, ct_1, ct_2, ct_3, ct_4, ct_5, ct_6, ct_7, ct_8, ct_9, ct_10, ct_11, ct_12, ct_13, ct_14, ct_20, ct_21, ct_22, ct_23, ct_24, ct_25, ct_30, ct_31, ct_32, ct_40, ct_41, ct_42, ct_43, ct_44, ct_45, ct_46, ct_47, ct_48, ct_49, ct_50, ct_51, ct_52, ct_53, ct_54, ct_55, ct_56, ct_57, ct_58, ct_59, ct_60, ki_m1, ki_0, ki_1, ki_2, ki_3, ki_4, ki_5, kb_m2, kb_m3, kb_m4, kb_m8, kb_m9, kb_10, kb_100, kb_16, kb_36, kb_6, kb_63, kb_8, kb_9, kb_99, ks_216, ks_2520, ks_256, ks_800, kl_0, kl_1, ↓reduceIte, reduceCtorEq, Nat.reduceAdd, Nat.reduceLT, Nat.reduceLeDiff, Nat.reduceEqDiff, List.map_cons, List.map_nil, List.sum_cons, List.sum_nil, List.cons_append, List.nil_append, Option.toList_some, Option.toList_none, true_and, and_true, true_or, or_true, not_true_eq_false, not_false_eq_true, Nat.lt_add_one, Nat.zero_le, eq_self, or_false, false_or, implies_true, forall_const, false_implies, forall_false, true_implies, and_self, Nat.zero_lt_one, Nat.add_zero, Nat.zero_add, Int32.reduceLT, Int32.reduceLE, Int32.reduceAdd, Int32.reduceSub, Int32.reduceMul, e10, e01, ite_self, ab_mx, ab_mi, ab_mb, ab_ml2, rX1_isToldAgain_5, rX1_isToldAgain_6, rX1_isToldAgain_9, rX1_isToldAgain_12, rX1_isToldAgain_13, rX1_isToldAgain_16, rX1_isToldAgain_17, rX1_isToldAgain_18, rX1_isToldAgain_19, rX1_isToldAgain_22, rX1_isToldAgain_23, rX1_isToldAgain_24, rX1_isToldAgain_27, rX1_isToldAgain_28, rX1_isToldAgain_29, rX1_isToldAgain_32, rX1_isToldAgain_35, rX1_isToldAgain_36, c2]
        exact hP
      · have c1 := nle32 c2
        have vk : vp_in k 4 := vp_of (by omega) (by omega)
        by_cases c3 : σ.1 3 0 k.toNatClampNeg = σ.1 3 0 x1.toNatClampNeg
        · have F : agb (tI (σ.1 3 0)) x1.toInt.toNat (σ.1 2 0 0).toInt.toNat = true := agb_ok.mpr ⟨k.toInt.toNat, by omega, by omega, congrArg Int32.toInt c3⟩
          have q3 : (σ.1 3 0 k.toNatClampNeg = σ.1 3 0 x1.toNatClampNeg) = True := eq_true c3
          rw [F, if_pos rfl] at hP
          rw [rX1_isToldAgain_4]
          simp only [ab_loc, ab_cat, ab_kil, ab_al, ab_ln, ab_lnp, ab_rf, sh_0, sh_1, sh_2, sh_3, sh_4, sh_5, sh_6, sh_7, sh_8, sh_9, sh_10, sh_11, sh_12, sh_13, sh_14, sh_20, sh_21, sh_22, sh_23, sh_24, sh_25, sh_30, sh_31, sh_32, sh_40, sh_41, sh_42, sh_43, sh_44, sh_45, sh_46, sh_47, sh_48, sh_49, sh_50, sh_51, sh_52, sh_53, sh_54, sh_55, sh_56, sh_57, sh_58, sh_59, sh_60, ct_0, ct_1, ct_2, ct_3, ct_4, ct_5, ct_6, ct_7, ct_8, ct_9, ct_10, ct_11, ct_12, ct_13, ct_14, ct_20, ct_21, ct_22, ct_23, ct_24, ct_25, ct_30, ct_31, ct_32, ct_40, ct_41, ct_42, ct_43, ct_44, ct_45, ct_46, ct_47, ct_48, ct_49, ct_50, ct_51, ct_52, ct_53, ct_54, ct_55, ct_56, ct_57, ct_58, ct_59, ct_60, ki_m1, ki_0, ki_1, ki_2, ki_3, ki_4, ki_5, kb_m2, kb_m3, kb_m4, kb_m8, kb_m9, kb_10, kb_100, kb_16, kb_36, kb_6, kb_63, kb_8, kb_9, kb_99, ks_216, ks_2520, ks_256, ks_800, kl_0, kl_1, ↓reduceIte, reduceCtorEq, Nat.reduceAdd, Nat.reduceLT, Nat.reduceLeDiff, Nat.reduceEqDiff, List.map_cons, List.map_nil, List.sum_cons, List.sum_nil, List.cons_append, List.nil_append, Option.toList_some, Option.toList_none, true_and, and_true, true_or, or_true, not_true_eq_false, not_false_eq_true, Nat.lt_add_one, Nat.zero_le, eq_self, or_false, false_or, implies_true, forall_const, false_implies, forall_false, true_implies, and_self, Nat.zero_lt_one, Nat.add_zero, Nat.zero_add, Int32.reduceLT, Int32.reduceLE, Int32.reduceAdd, Int32.reduceSub, Int32.reduceMul, e10, e01, ite_self, ab_mx, ab_mi, ab_mb, ab_ml2, rX1_isToldAgain_5, rX1_isToldAgain_6, rX1_isToldAgain_9, rX1_isToldAgain_12, rX1_isToldAgain_13, rX1_isToldAgain_16, rX1_isToldAgain_17, rX1_isToldAgain_18, rX1_isToldAgain_19, rX1_isToldAgain_22, rX1_isToldAgain_23, rX1_isToldAgain_24, rX1_isToldAgain_27, rX1_isToldAgain_28, rX1_isToldAgain_29, rX1_isToldAgain_32, rX1_isToldAgain_35, rX1_isToldAgain_36, c2, vk, v1, q3]
          exact hP
        · have q3 : (σ.1 3 0 k.toNatClampNeg = σ.1 3 0 x1.toNatClampNeg) = False := eq_false c3
          have ek : (k + 1).toInt = k.toInt + 1 := i32_p1 (by omega)
          have K := ih (k + 1) (by omega) (by omega) (by omega) (fun j j1 j2 j3 => by
            by_cases e : j = k.toInt.toNat
            · rw [e]
              exact fun w => c3 (Int32.toInt_inj.mp w)
            · exact hj j j1 (by omega) j3)
          rw [rX1_isToldAgain_4]
          simp only [ab_loc, ab_cat, ab_kil, ab_al, ab_ln, ab_lnp, ab_rf, sh_0, sh_1, sh_2, sh_3, sh_4, sh_5, sh_6, sh_7, sh_8, sh_9, sh_10, sh_11, sh_12, sh_13, sh_14, sh_20, sh_21, sh_22, sh_23, sh_24, sh_25, sh_30, sh_31, sh_32, sh_40, sh_41, sh_42, sh_43, sh_44, sh_45, sh_46, sh_47, sh_48, sh_49, sh_50, sh_51, sh_52, sh_53, sh_54, sh_55, sh_56, sh_57, sh_58, sh_59, sh_60, ct_0, ct_1, ct_2, ct_3, ct_4, ct_5, ct_6, ct_7, ct_8, ct_9, ct_10, ct_11, ct_12, ct_13, ct_14, ct_20, ct_21, ct_22, ct_23, ct_24, ct_25, ct_30, ct_31, ct_32, ct_40, ct_41, ct_42, ct_43, ct_44, ct_45, ct_46, ct_47, ct_48, ct_49, ct_50, ct_51, ct_52, ct_53, ct_54, ct_55, ct_56, ct_57, ct_58, ct_59, ct_60, ki_m1, ki_0, ki_1, ki_2, ki_3, ki_4, ki_5, kb_m2, kb_m3, kb_m4, kb_m8, kb_m9, kb_10, kb_100, kb_16, kb_36, kb_6, kb_63, kb_8, kb_9, kb_99, ks_216, ks_2520, ks_256, ks_800, kl_0, kl_1, ↓reduceIte, reduceCtorEq, Nat.reduceAdd, Nat.reduceLT, Nat.reduceLeDiff, Nat.reduceEqDiff, List.map_cons, List.map_nil, List.sum_cons, List.sum_nil, List.cons_append, List.nil_append, Option.toList_some, Option.toList_none, true_and, and_true, true_or, or_true, not_true_eq_false, not_false_eq_true, Nat.lt_add_one, Nat.zero_le, eq_self, or_false, false_or, implies_true, forall_const, false_implies, forall_false, true_implies, and_self, Nat.zero_lt_one, Nat.add_zero, Nat.zero_add, Int32.reduceLT, Int32.reduceLE, Int32.reduceAdd, Int32.reduceSub, Int32.reduceMul, e10, e01, ite_self, ab_mx, ab_mi, ab_mb, ab_ml2, rX1_isToldAgain_5, rX1_isToldAgain_6, rX1_isToldAgain_9, rX1_isToldAgain_12, rX1_isToldAgain_13, rX1_isToldAgain_16, rX1_isToldAgain_17, rX1_isToldAgain_18, rX1_isToldAgain_19, rX1_isToldAgain_22, rX1_isToldAgain_23, rX1_isToldAgain_24, rX1_isToldAgain_27, rX1_isToldAgain_28, rX1_isToldAgain_29, rX1_isToldAgain_32, c2, vk, v1, q3]
          exact K
  have e1 : (x1 + 1).toInt = x1.toInt + 1 := i32_p1 (by omega)
  have K := key (4 - (x1 + 1).toInt).toNat (x1 + 1) rfl (by omega) (by omega) (fun j j1 j2 j3 => by omega)
  simp only [ab_loc, ab_cat, ab_kil, ab_al, ab_ln, ab_lnp, ab_rf, sh_0, sh_1, sh_2, sh_3, sh_4, sh_5, sh_6, sh_7, sh_8, sh_9, sh_10, sh_11, sh_12, sh_13, sh_14, sh_20, sh_21, sh_22, sh_23, sh_24, sh_25, sh_30, sh_31, sh_32, sh_40, sh_41, sh_42, sh_43, sh_44, sh_45, sh_46, sh_47, sh_48, sh_49, sh_50, sh_51, sh_52, sh_53, sh_54, sh_55, sh_56, sh_57, sh_58, sh_59, sh_60, ct_0, ct_1, ct_2, ct_3, ct_4, ct_5, ct_6, ct_7, ct_8, ct_9, ct_10, ct_11, ct_12, ct_13, ct_14, ct_20, ct_21, ct_22, ct_23, ct_24, ct_25, ct_30, ct_31, ct_32, ct_40, ct_41, ct_42, ct_43, ct_44, ct_45, ct_46, ct_47, ct_48, ct_49, ct_50, ct_51, ct_52, ct_53, ct_54, ct_55, ct_56, ct_57, ct_58, ct_59, ct_60, ki_m1, ki_0, ki_1, ki_2, ki_3, ki_4, ki_5, kb_m2, kb_m3, kb_m4, kb_m8, kb_m9, kb_10, kb_100, kb_16, kb_36, kb_6, kb_63, kb_8, kb_9, kb_99, ks_216, ks_2520, ks_256, ks_800, kl_0, kl_1, ↓reduceIte, reduceCtorEq, Nat.reduceAdd, Nat.reduceLT, Nat.reduceLeDiff, Nat.reduceEqDiff, List.map_cons, List.map_nil, List.sum_cons, List.sum_nil, List.cons_append, List.nil_append, Option.toList_some, Option.toList_none, true_and, and_true, true_or, or_true, not_true_eq_false, not_false_eq_true, Nat.lt_add_one, Nat.zero_le, eq_self, or_false, false_or, implies_true, forall_const, false_implies, forall_false, true_implies, and_self, Nat.zero_lt_one, Nat.add_zero, Nat.zero_add, Int32.reduceLT, Int32.reduceLE, Int32.reduceAdd, Int32.reduceSub, Int32.reduceMul, e10, e01, ite_self, ab_mx, ab_mi, ab_mb, ab_ml2, uX1_isToldAgain, rX1_isToldAgain_0, rX1_isToldAgain_1, rX1_isToldAgain_2, rX1_isToldAgain_3]
  exact K
theorem nx_100 {F : Nat → Int} {a : Int} : ∀ {n : Nat}, nx F a n ≤ 100
  | 0 => Int.le_refl _
  | n + 1 => by
    have ih := nx_100 (F := F) (a := a) (n := n)
    unfold nx
    split <;> omega
/-- one band's part of the tax -/
theorem tk_s {b h N r : Int32} {F R : Nat → Int} {n i : Nat} (hb : F i = b.toInt) (hR : R i = r.toInt) (hN : N.toInt = nx F (F i) n) (b0 : 0 ≤ b.toInt) (b1 : b.toInt ≤ 99) (h0 : 0 ≤ h.toInt) (h1 : h.toInt ≤ 99) (r0 : 0 ≤ r.toInt) (r1 : r.toInt ≤ 10) : ((if N < h then N else h) - b).toInt = wt F n h.toInt i ∧ (0 < wt F n h.toInt i → (r * ((if N < h then N else h) - b)).toInt = R i * wt F n h.toInt i ∧ 0 ≤ R i * wt F n h.toInt i ∧ R i * wt F n h.toInt i ≤ 990) := by
  have g1 : F i < nx F (F i) n := nx_gt (by omega)
  have g2 : nx F (F i) n ≤ 100 := nx_100
  have e1 : (if N < h then N else h).toInt = min h.toInt (nx F (F i) n) := by
    by_cases c : N < h
    · rw [if_pos c]
      have := lt32 c
      omega
    · rw [if_neg c]
      have := nlt32 c
      omega
  have e2 : ((if N < h then N else h) - b).toInt = wt F n h.toInt i := by
    rw [i32_sub (by rw [e1]; omega) (by rw [e1]; omega), e1]
    unfold wt
    omega
  refine ⟨e2, fun w => ?_⟩
  have w2 : wt F n h.toInt i ≤ 99 := by unfold wt; omega
  have p0 : 0 ≤ r.toInt * wt F n h.toInt i := Int.mul_nonneg r0 (by omega)
  have p1 : r.toInt * wt F n h.toInt i ≤ 10 * 99 := Int.mul_le_mul r1 w2 (by omega) (by decide)
  rw [hR]
  refine ⟨?_, p0, p1⟩
  rw [i32_mul (by rw [e2]; omega) (by rw [e2]; omega), e2]
set_option maxRecDepth 100000 in
theorem sX1_taken {σ : ab_S} {P : ab_P} (hr : rg_R σ) {x1 : Int32} (l1 : 0 ≤ x1.toInt) (m1 : x1.toInt ≤ 99) (hP : ∀ x : Int32, x.toInt = tk (tI (σ.1 3 0)) (tI (σ.1 4 0)) (σ.1 2 0 0).toInt.toNat x1.toInt / 10 → P (some (.inl (.inl x))) σ) : ab_sp mX1_taken cX1_taken [.inr (some (2, 0)), .inl (.inl x1)] σ P := by
  have hn : 0 ≤ (σ.1 2 0 0).toInt ∧ (σ.1 2 0 0).toInt ≤ 4 := hr 2 0 0
  have key : ∀ (n : Nat) (v k : Int32) (l4 : Option ab_V), ((σ.1 2 0 0).toInt - k.toInt).toNat = n → 0 ≤ k.toInt → k.toInt ≤ (σ.1 2 0 0).toInt → v.toInt = isum (tkt (tI (σ.1 3 0)) (tI (σ.1 4 0)) (σ.1 2 0 0).toInt.toNat x1.toInt) k.toInt.toNat → 0 ≤ v.toInt → v.toInt ≤ 990 * k.toInt → ab_wp mX1_taken cX1_taken none P 4 [some (.inr (some (2, 0))), some (.inl (.inl x1)), some (.inl (.inl v)), some (.inl (.inl k)), l4] [] σ := by
    intro n
    induction n with
    | zero =>
      intro v k l4 en k0 k1 hv v0 v1
      have c2 : σ.1 2 0 0 ≤ k := Int32.le_iff_toInt_le.mpr (by omega)
      have e : k.toInt = (σ.1 2 0 0).toInt := by omega
      rw [e] at hv
      have d1 : ¬ (10 : Int32) = 0 := by decide
      have F := hP (v / 10) (by rw [i32_div v0 (by decide), hv]; rfl)
      rw [rX1_taken_4]
      simp only [ab_loc, ab_cat, ab_kil, ab_al, ab_ln, ab_lnp, ab_rf, sh_0, sh_1, sh_2, sh_3, sh_4, sh_5, sh_6, sh_7, sh_8, sh_9, sh_10, sh_11, sh_12, sh_13, sh_14, sh_20, sh_21, sh_22, sh_23, sh_24, sh_25, sh_30, sh_31, sh_32, sh_40, sh_41, sh_42, sh_43, sh_44, sh_45, sh_46, sh_47, sh_48, sh_49, sh_50, sh_51, sh_52, sh_53, sh_54, sh_55, sh_56, sh_57, sh_58, sh_59, sh_60, ct_0, ct_1, ct_2, ct_3, ct_4, ct_5, ct_6, ct_7, ct_8, ct_9, ct_10, ct_11, ct_12, ct_13, ct_14, ct_20, ct_21, ct_22, ct_23, ct_24, ct_25, ct_30, ct_31, ct_32, ct_40, ct_41, ct_42, ct_43, ct_44, ct_45, ct_46, ct_47, ct_48, ct_49, ct_50, ct_51, ct_52, ct_53, ct_54, ct_55, ct_56, ct_57, ct_58, ct_59, ct_60, ki_m1, ki_0, ki_1, ki_2, ki_3, ki_4, ki_5, kb_m2, kb_m3, kb_m4, kb_m8, kb_m9, kb_10, kb_100, kb_16, kb_36, kb_6, kb_63, kb_8, kb_9, kb_99, ks_216, ks_2520, ks_256, ks_800, kl_0, kl_1, ↓reduceIte, reduceCtorEq, Nat.reduceAdd, Nat.reduceLT, Nat.reduceLeDiff, Nat.reduceEqDiff, List.map_cons, List.map_nil, List.sum_cons, List.sum_nil, List.cons_append, List.nil_append, Option.toList_some, Option.toList_none, true_and, and_true, true_or, or_true, not_true_eq_false, not_false_eq_true, Nat.lt_add_one, Nat.zero_le, eq_self, or_false, false_or, implies_true, forall_const, false_implies, forall_false, true_implies, and_self, Nat.zero_lt_one, Nat.add_zero, Nat.zero_add, Int32.reduceLT, Int32.reduceLE, Int32.reduceAdd, Int32.reduceSub, Int32.reduceMul, e10, e01, ite_self, ab_mx, ab_mi, ab_mb, ab_ml2, rX1_taken_5, rX1_taken_6, rX1_taken_9, rX1_taken_12, rX1_taken_13, rX1_taken_14, rX1_taken_15, rX1_taken_18, rX1_taken_19, rX1_taken_20, rX1_taken_23, rX1_taken_26, rX1_taken_27, rX1_taken_30, rX1_taken_31, rX1_taken_32, rX1_taken_33, rX1_taken_35, rX1_taken_37, rX1_taken_40, rX1_taken_41, rX1_taken_42, rX1_taken_45, rX1_taken_48, rX1_taken_49, rX1_taken_50, rX1_taken_53, rX1_taken_54, rX1_taken_55, rX1_taken_57, rX1_taken_58, rX1_taken_59, rX1_taken_60, rX1_taken_63, rX1_taken_66, rX1_taken_67, rX1_taken_69, rX1_taken_70, c2, d1]
      exact F
    | succ n ih =>
      intro v k l4 en k0 k1 hv v0 v1
      have c2 : ¬ σ.1 2 0 0 ≤ k := fun q => by have q := le32 q; omega
      have vk : vp_in k 4 := vp_of k0 (by omega)
      have ek : (k + 1).toInt = k.toInt + 1 := i32_p1 (by omega)
      have e2 : (k + 1).toInt.toNat = k.toInt.toNat + 1 := by omega
      have ih1 := fun v l4 hv v0 v1 => ih v (k + 1) l4 (by omega) (by omega) (by omega) hv v0 v1
      rw [e2, ek] at ih1
      have en : k.toNatClampNeg = k.toInt.toNat := rfl
      have hb : 0 ≤ (σ.1 3 0 k.toNatClampNeg).toInt ∧ (σ.1 3 0 k.toNatClampNeg).toInt ≤ 99 := hr 3 0 _
      have hq : 0 ≤ (σ.1 4 0 k.toNatClampNeg).toInt ∧ (σ.1 4 0 k.toNatClampNeg).toInt ≤ 10 := hr 4 0 _
      rw [rX1_taken_4]
      simp only [ab_loc, ab_cat, ab_kil, ab_al, ab_ln, ab_lnp, ab_rf, sh_0, sh_1, sh_2, sh_3, sh_4, sh_5, sh_6, sh_7, sh_8, sh_9, sh_10, sh_11, sh_12, sh_13, sh_14, sh_20, sh_21, sh_22, sh_23, sh_24, sh_25, sh_30, sh_31, sh_32, sh_40, sh_41, sh_42, sh_43, sh_44, sh_45, sh_46, sh_47, sh_48, sh_49, sh_50, sh_51, sh_52, sh_53, sh_54, sh_55, sh_56, sh_57, sh_58, sh_59, sh_60, ct_0, ct_1, ct_2, ct_3, ct_4, ct_5, ct_6, ct_7, ct_8, ct_9, ct_10, ct_11, ct_12, ct_13, ct_14, ct_20, ct_21, ct_22, ct_23, ct_24, ct_25, ct_30, ct_31, ct_32, ct_40, ct_41, ct_42, ct_43, ct_44, ct_45, ct_46, ct_47, ct_48, ct_49, ct_50, ct_51, ct_52, ct_53, ct_54, ct_55, ct_56, ct_57, ct_58, ct_59, ct_60, ki_m1, ki_0, ki_1, ki_2, ki_3, ki_4, ki_5, kb_m2, kb_m3, kb_m4, kb_m8, kb_m9, kb_10, kb_100, kb_16, kb_36, kb_6, kb_63, kb_8, kb_9, kb_99, ks_216, ks_2520, ks_256, ks_800, kl_0, kl_1, ↓reduceIte, reduceCtorEq, Nat.reduceAdd, Nat.reduceLT, Nat.reduceLeDiff, Nat.reduceEqDiff, List.map_cons, List.map_nil, List.sum_cons, List.sum_nil, List.cons_append, List.nil_append, Option.toList_some, Option.toList_none, true_and, and_true, true_or, or_true, not_true_eq_false, not_false_eq_true, Nat.lt_add_one, Nat.zero_le, eq_self, or_false, false_or, implies_true, forall_const, false_implies, forall_false, true_implies, and_self, Nat.zero_lt_one, Nat.add_zero, Nat.zero_add, Int32.reduceLT, Int32.reduceLE, Int32.reduceAdd, Int32.reduceSub, Int32.reduceMul, e10, e01, ite_self, ab_mx, ab_mi, ab_mb, ab_ml2, rX1_taken_5, rX1_taken_6, rX1_taken_9, rX1_taken_12, rX1_taken_13, rX1_taken_14, rX1_taken_15, rX1_taken_18, rX1_taken_19, rX1_taken_20, c2, vk]
      refine sX1_nextFrom hr (fun N hN => ?_)
      have T := tk_s (b := σ.1 3 0 k.toNatClampNeg) (h := x1) (r := σ.1 4 0 k.toNatClampNeg) (i := k.toInt.toNat) (F := tI (σ.1 3 0)) (R := tI (σ.1 4 0)) rfl rfl hN hb.1 hb.2 l1 m1 hq.1 hq.2
      obtain ⟨w, hw⟩ : ∃ w, (if N < x1 then N else x1) - σ.1 3 0 k.toNatClampNeg = w := ⟨_, rfl⟩
      have hw2 := hw
      rw [hw] at T
      simp only [ab_loc, ab_cat, ab_kil, ab_al, ab_ln, ab_lnp, ab_rf, sh_0, sh_1, sh_2, sh_3, sh_4, sh_5, sh_6, sh_7, sh_8, sh_9, sh_10, sh_11, sh_12, sh_13, sh_14, sh_20, sh_21, sh_22, sh_23, sh_24, sh_25, sh_30, sh_31, sh_32, sh_40, sh_41, sh_42, sh_43, sh_44, sh_45, sh_46, sh_47, sh_48, sh_49, sh_50, sh_51, sh_52, sh_53, sh_54, sh_55, sh_56, sh_57, sh_58, sh_59, sh_60, ct_0, ct_1, ct_2, ct_3, ct_4, ct_5, ct_6, ct_7, ct_8, ct_9, ct_10, ct_11, ct_12, ct_13, ct_14, ct_20, ct_21, ct_22, ct_23, ct_24, ct_25, ct_30, ct_31, ct_32, ct_40, ct_41, ct_42, ct_43, ct_44, ct_45, ct_46, ct_47, ct_48, ct_49, ct_50, ct_51, ct_52, ct_53, ct_54, ct_55, ct_56, ct_57, ct_58, ct_59, ct_60, ki_m1, ki_0, ki_1, ki_2, ki_3, ki_4, ki_5, kb_m2, kb_m3, kb_m4, kb_m8, kb_m9, kb_10, kb_100, kb_16, kb_36, kb_6, kb_63, kb_8, kb_9, kb_99, ks_216, ks_2520, ks_256, ks_800, kl_0, kl_1, ↓reduceIte, reduceCtorEq, Nat.reduceAdd, Nat.reduceLT, Nat.reduceLeDiff, Nat.reduceEqDiff, List.map_cons, List.map_nil, List.sum_cons, List.sum_nil, List.cons_append, List.nil_append, Option.toList_some, Option.toList_none, true_and, and_true, true_or, or_true, not_true_eq_false, not_false_eq_true, Nat.lt_add_one, Nat.zero_le, eq_self, or_false, false_or, implies_true, forall_const, false_implies, forall_false, true_implies, and_self, Nat.zero_lt_one, Nat.add_zero, Nat.zero_add, Int32.reduceLT, Int32.reduceLE, Int32.reduceAdd, Int32.reduceSub, Int32.reduceMul, e10, e01, ite_self, ab_mx, ab_mi, ab_mb, ab_ml2, rX1_taken_23, rX1_taken_26, rX1_taken_27, rX1_taken_30, rX1_taken_31, rX1_taken_32, rX1_taken_33, rX1_taken_35, rX1_taken_37, rX1_taken_40, rX1_taken_41, rX1_taken_42, vk, hw]
      have Z : ¬ (0 < wt (tI (σ.1 3 0)) (σ.1 2 0 0).toInt.toNat x1.toInt k.toInt.toNat ∧ agb (tI (σ.1 3 0)) k.toInt.toNat (σ.1 2 0 0).toInt.toNat = false) → v.toInt = isum (tkt (tI (σ.1 3 0)) (tI (σ.1 4 0)) (σ.1 2 0 0).toInt.toNat x1.toInt) (k.toInt.toNat + 1) := fun q => by
        show v.toInt = isum _ k.toInt.toNat + tkt _ _ _ _ k.toInt.toNat
        rw [show tkt (tI (σ.1 3 0)) (tI (σ.1 4 0)) (σ.1 2 0 0).toInt.toNat x1.toInt k.toInt.toNat = 0 from if_neg q, hv]
        omega
      by_cases c3 : w ≤ 0
      · have z3 := le32 c3
        rw [t0i, T.1] at z3
        simp only [ab_loc, ab_cat, ab_kil, ab_al, ab_ln, ab_lnp, ab_rf, sh_0, sh_1, sh_2, sh_3, sh_4, sh_5, sh_6, sh_7, sh_8, sh_9, sh_10, sh_11, sh_12, sh_13, sh_14, sh_20, sh_21, sh_22, sh_23, sh_24, sh_25, sh_30, sh_31, sh_32, sh_40, sh_41, sh_42, sh_43, sh_44, sh_45, sh_46, sh_47, sh_48, sh_49, sh_50, sh_51, sh_52, sh_53, sh_54, sh_55, sh_56, sh_57, sh_58, sh_59, sh_60, ct_0, ct_1, ct_2, ct_3, ct_4, ct_5, ct_6, ct_7, ct_8, ct_9, ct_10, ct_11, ct_12, ct_13, ct_14, ct_20, ct_21, ct_22, ct_23, ct_24, ct_25, ct_30, ct_31, ct_32, ct_40, ct_41, ct_42, ct_43, ct_44, ct_45, ct_46, ct_47, ct_48, ct_49, ct_50, ct_51, ct_52, ct_53, ct_54, ct_55, ct_56, ct_57, ct_58, ct_59, ct_60, ki_m1, ki_0, ki_1, ki_2, ki_3, ki_4, ki_5, kb_m2, kb_m3, kb_m4, kb_m8, kb_m9, kb_10, kb_100, kb_16, kb_36, kb_6, kb_63, kb_8, kb_9, kb_99, ks_216, ks_2520, ks_256, ks_800, kl_0, kl_1, ↓reduceIte, reduceCtorEq, Nat.reduceAdd, Nat.reduceLT, Nat.reduceLeDiff, Nat.reduceEqDiff, List.map_cons, List.map_nil, List.sum_cons, List.sum_nil, List.cons_append, List.nil_append, Option.toList_some, Option.toList_none, true_and, and_true, true_or, or_true, not_true_eq_false, not_false_eq_true, Nat.lt_add_one, Nat.zero_le, eq_self, or_false, false_or, implies_true, forall_const, false_implies, forall_false, true_implies, and_self, Nat.zero_lt_one, Nat.add_zero, Nat.zero_add, Int32.reduceLT, Int32.reduceLE, Int32.reduceAdd, Int32.reduceSub, Int32.reduceMul, e10, e01, ite_self, ab_mx, ab_mi, ab_mb, ab_ml2, rX1_taken_60, rX1_taken_63, c3]
        exact ih1 v _ (Z (fun q => by have := q.1; omega)) v0 (by omega)
      · have z3 := nle32 c3
        rw [t0i, T.1] at z3
        have T2 := T.2 z3
        simp only [c3, ↓reduceIte]
        refine sX1_isToldAgain hr k0 (by omega) ?_
        cases c4 : agb (tI (σ.1 3 0)) k.toInt.toNat (σ.1 2 0 0).toInt.toNat with
        | true =>
          simp only [ab_loc, ab_cat, ab_kil, ab_al, ab_ln, ab_lnp, ab_rf, sh_0, sh_1, sh_2, sh_3, sh_4, sh_5, sh_6, sh_7, sh_8, sh_9, sh_10, sh_11, sh_12, sh_13, sh_14, sh_20, sh_21, sh_22, sh_23, sh_24, sh_25, sh_30, sh_31, sh_32, sh_40, sh_41, sh_42, sh_43, sh_44, sh_45, sh_46, sh_47, sh_48, sh_49, sh_50, sh_51, sh_52, sh_53, sh_54, sh_55, sh_56, sh_57, sh_58, sh_59, sh_60, ct_0, ct_1, ct_2, ct_3, ct_4, ct_5, ct_6, ct_7, ct_8, ct_9, ct_10, ct_11, ct_12, ct_13, ct_14, ct_20, ct_21, ct_22, ct_23, ct_24, ct_25, ct_30, ct_31, ct_32, ct_40, ct_41, ct_42, ct_43, ct_44, ct_45, ct_46, ct_47, ct_48, ct_49, ct_50, ct_51, ct_52, ct_53, ct_54, ct_55, ct_56, ct_57, ct_58, ct_59, ct_60, ki_m1, ki_0, ki_1, ki_2, ki_3, ki_4, ki_5, kb_m2, kb_m3, kb_m4, kb_m8, kb_m9, kb_10, kb_100, kb_16, kb_36, kb_6, kb_63, kb_8, kb_9, kb_99, ks_216, ks_2520, ks_256, ks_800, kl_0, kl_1, ↓reduceIte, reduceCtorEq, Nat.reduceAdd, Nat.reduceLT, Nat.reduceLeDiff, Nat.reduceEqDiff, List.map_cons, List.map_nil, List.sum_cons, List.sum_nil, List.cons_append, List.nil_append, Option.toList_some, Option.toList_none, true_and, and_true, true_or, or_true, not_true_eq_false, not_false_eq_true, Nat.lt_add_one, Nat.zero_le, eq_self, or_false, false_or, implies_true, forall_const, false_implies, forall_false, true_implies, and_self, Nat.zero_lt_one, Nat.add_zero, Nat.zero_add, Int32.reduceLT, Int32.reduceLE, Int32.reduceAdd, Int32.reduceSub, Int32.reduceMul, e10, e01, ite_self, ab_mx, ab_mi, ab_mb, ab_ml2, rX1_taken_45, rX1_taken_48, rX1_taken_49, rX1_taken_50, rX1_taken_53, rX1_taken_54, rX1_taken_55, rX1_taken_57, rX1_taken_58, rX1_taken_59, rX1_taken_60, rX1_taken_63, vk]
          exact ih1 v _ (Z (fun q => by rw [c4] at q; cases q.2)) v0 (by omega)
        | false =>
          have e9 : (v + σ.1 4 0 k.toNatClampNeg * w).toInt = v.toInt + tI (σ.1 4 0) k.toInt.toNat * wt (tI (σ.1 3 0)) (σ.1 2 0 0).toInt.toNat x1.toInt k.toInt.toNat := by rw [i32_add (by rw [T2.1]; omega) (by rw [T2.1]; omega), T2.1]
          have K := ih1 (v + σ.1 4 0 k.toNatClampNeg * w) (some (.inl (.inl w))) (by
            rw [e9]
            show _ = isum _ k.toInt.toNat + tkt _ _ _ _ k.toInt.toNat
            rw [show tkt (tI (σ.1 3 0)) (tI (σ.1 4 0)) (σ.1 2 0 0).toInt.toNat x1.toInt k.toInt.toNat = tI (σ.1 4 0) k.toInt.toNat * wt (tI (σ.1 3 0)) (σ.1 2 0 0).toInt.toNat x1.toInt k.toInt.toNat from if_pos ⟨z3, c4⟩, hv]) (by rw [e9]; omega) (by rw [e9]; omega)
          simp only [ab_loc, ab_cat, ab_kil, ab_al, ab_ln, ab_lnp, ab_rf, sh_0, sh_1, sh_2, sh_3, sh_4, sh_5, sh_6, sh_7, sh_8, sh_9, sh_10, sh_11, sh_12, sh_13, sh_14, sh_20, sh_21, sh_22, sh_23, sh_24, sh_25, sh_30, sh_31, sh_32, sh_40, sh_41, sh_42, sh_43, sh_44, sh_45, sh_46, sh_47, sh_48, sh_49, sh_50, sh_51, sh_52, sh_53, sh_54, sh_55, sh_56, sh_57, sh_58, sh_59, sh_60, ct_0, ct_1, ct_2, ct_3, ct_4, ct_5, ct_6, ct_7, ct_8, ct_9, ct_10, ct_11, ct_12, ct_13, ct_14, ct_20, ct_21, ct_22, ct_23, ct_24, ct_25, ct_30, ct_31, ct_32, ct_40, ct_41, ct_42, ct_43, ct_44, ct_45, ct_46, ct_47, ct_48, ct_49, ct_50, ct_51, ct_52, ct_53, ct_54, ct_55, ct_56, ct_57, ct_58, ct_59, ct_60, ki_m1, ki_0, ki_1, ki_2, ki_3, ki_4, ki_5, kb_m2, kb_m3, kb_m4, kb_m8, kb_m9, kb_10, kb_100, kb_16, kb_36, kb_6, kb_63, kb_8, kb_9, kb_99, ks_216, ks_2520, ks_256, ks_800, kl_0, kl_1, ↓reduceIte, reduceCtorEq, Nat.reduceAdd, Nat.reduceLT, Nat.reduceLeDiff, Nat.reduceEqDiff, List.map_cons, List.map_nil, List.sum_cons, List.sum_nil, List.cons_append, List.nil_append, Option.toList_some, Option.toList_none, true_and, and_true, true_or, or_true, not_true_eq_false, not_false_eq_true, Nat.lt_add_one, Nat.zero_le, eq_self, or_false, false_or, implies_true, forall_const, false_implies, forall_false, true_implies, and_self, Nat.zero_lt_one, Nat.add_zero, Nat.zero_add, Int32.reduceLT, Int32.reduceLE, Int32.reduceAdd, Int32.reduceSub, Int32.reduceMul, e10, e01, ite_self, ab_mx, ab_mi, ab_mb, ab_ml2, rX1_taken_45, rX1_taken_48, rX1_taken_49, rX1_taken_50, rX1_taken_53, rX1_taken_54, rX1_taken_55, rX1_taken_57, rX1_taken_58, rX1_taken_59, rX1_taken_60, rX1_taken_63, vk, Bool.false_eq_true]
          exact K
  have K := key (σ.1 2 0 0).toInt.toNat 0 0 none (by rw [t0i]; omega) (by decide) (by rw [t0i]; exact hn.1) rfl (by decide) (by decide)
  simp only [ab_loc, ab_cat, ab_kil, ab_al, ab_ln, ab_lnp, ab_rf, sh_0, sh_1, sh_2, sh_3, sh_4, sh_5, sh_6, sh_7, sh_8, sh_9, sh_10, sh_11, sh_12, sh_13, sh_14, sh_20, sh_21, sh_22, sh_23, sh_24, sh_25, sh_30, sh_31, sh_32, sh_40, sh_41, sh_42, sh_43, sh_44, sh_45, sh_46, sh_47, sh_48, sh_49, sh_50, sh_51, sh_52, sh_53, sh_54, sh_55, sh_56, sh_57, sh_58, sh_59, sh_60, ct_0, ct_1, ct_2, ct_3, ct_4, ct_5, ct_6, ct_7, ct_8, ct_9, ct_10, ct_11, ct_12, ct_13, ct_14, ct_20, ct_21, ct_22, ct_23, ct_24, ct_25, ct_30, ct_31, ct_32, ct_40, ct_41, ct_42, ct_43, ct_44, ct_45, ct_46, ct_47, ct_48, ct_49, ct_50, ct_51, ct_52, ct_53, ct_54, ct_55, ct_56, ct_57, ct_58, ct_59, ct_60, ki_m1, ki_0, ki_1, ki_2, ki_3, ki_4, ki_5, kb_m2, kb_m3, kb_m4, kb_m8, kb_m9, kb_10, kb_100, kb_16, kb_36, kb_6, kb_63, kb_8, kb_9, kb_99, ks_216, ks_2520, ks_256, ks_800, kl_0, kl_1, ↓reduceIte, reduceCtorEq, Nat.reduceAdd, Nat.reduceLT, Nat.reduceLeDiff, Nat.reduceEqDiff, List.map_cons, List.map_nil, List.sum_cons, List.sum_nil, List.cons_append, List.nil_append, Option.toList_some, Option.toList_none, true_and, and_true, true_or, or_true, not_true_eq_false, not_false_eq_true, Nat.lt_add_one, Nat.zero_le, eq_self, or_false, false_or, implies_true, forall_const, false_implies, forall_false, true_implies, and_self, Nat.zero_lt_one, Nat.add_zero, Nat.zero_add, Int32.reduceLT, Int32.reduceLE, Int32.reduceAdd, Int32.reduceSub, Int32.reduceMul, e10, e01, ite_self, ab_mx, ab_mi, ab_mb, ab_ml2, uX1_taken, rX1_taken_0, rX1_taken_1, rX1_taken_2, rX1_taken_3]
  exact K
