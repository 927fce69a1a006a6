/-! ===== in least terms: Euclid's way on both sides ===== -/
def gI (a b : Int) : Int := (Nat.gcd a.toNat b.toNat : Nat)
theorem gI_z {a : Int} (h : 0 ≤ a) : gI a 0 = a := by
  unfold gI
  rw [show (0 : Int).toNat = 0 from rfl, Nat.gcd_zero_right]
  omega
theorem gI_s {a b : Int} (ha : 0 ≤ a) (hb : 1 ≤ b) : gI b (a % b) = gI a b := by
  unfold gI
  have e : (a % b).toNat = a.toNat % b.toNat := by
    have h := Int.toNat_emod ha (show 0 ≤ b by omega)
    exact h
  rw [e, Nat.gcd_comm a.toNat b.toNat, Nat.gcd_comm b.toNat (a.toNat % b.toNat)]
  congr 1
  exact (Nat.gcd_rec b.toNat a.toNat).symm
theorem gI_p {a b : Int} (hb : 1 ≤ b) : 1 ≤ gI a b := by
  unfold gI
  have := Nat.gcd_pos_of_pos_right a.toNat (show 0 < b.toNat by omega)
  omega
theorem z64 : (0 : Int64).toInt = 0 := rfl
theorem ne64 {x : Int64} (h : ¬ x = 0) (h0 : 0 ≤ x.toInt) : 1 ≤ x.toInt := by
  have : ¬ x.toInt = 0 := fun e => h (Int64.toInt_inj.mp e)
  omega
theorem rm_lt {a b : Int} (hb : 1 ≤ b) (h : 1 ≤ a % b) (hab : 0 ≤ a) : b % (a % b) * 2 < b := by
  have h1 : a % b < b := Int.emod_lt_of_pos _ (by omega)
  have h2 : b % (a % b) < a % b := Int.emod_lt_of_pos _ (by omega)
  have h3 : 0 ≤ b % (a % b) := Int.emod_nonneg _ (by omega)
  have h4 := Int.emod_add_mul_ediv b (a % b)
  have h5 : 1 ≤ b / (a % b) := (Int.le_ediv_iff_mul_le (by omega)).mpr (by omega)
  have h6 : a % b ≤ a % b * (b / (a % b)) := by
    have := Int.mul_le_mul_of_nonneg_left h5 (show 0 ≤ a % b by omega)
    omega
  omega
set_option maxRecDepth 100000 in
theorem sX8_common {σ : ab_S} {P : ab_P} {a b : Int64} (a0 : 0 ≤ a.toInt) (b0 : 1 ≤ b.toInt) (hP : ∀ y : Int64, y.toInt = gI a.toInt b.toInt → P (some (.inl (.inr y))) σ) : ab_sp mX8_common cX8_common [.inl (.inr a), .inl (.inr b)] σ P := by
  have key : ∀ (n : Nat) (x y : Int64) (l8 : Option ab_V), y.toInt.toNat ≤ n → 0 ≤ x.toInt → 0 ≤ y.toInt → gI x.toInt y.toInt = gI a.toInt b.toInt → ab_wp mX8_common cX8_common none P 17 [some (.inl (.inr a)), none, some (.inl (.inr b)), none, some (.inl (.inr x)), none, some (.inl (.inr y)), none, l8, none] [] σ := by
    intro n
    induction n with
    | zero =>
      intro x y l8 hn x0 y0 hg
      have hy : y = 0 := Int64.toInt_inj.mp (by rw [z64]; omega)
      subst hy
      rw [z64, gI_z x0] at hg
      have F := hP x hg
      rw [rX8_common_17]
      simp only [ab_loc, ab_cat, ab_kil, ab_al, ab_ln, ab_lnp, ab_rf, sh_0, sh_1, sh_2, sh_3, sh_4, sh_5, sh_6, sh_7, sh_8, sh_9, sh_10, sh_11, sh_12, sh_13, sh_14, sh_20, sh_21, sh_22, sh_23, sh_24, sh_25, sh_30, sh_31, sh_32, sh_40, sh_41, sh_42, sh_43, sh_44, sh_45, sh_46, sh_47, sh_48, sh_49, sh_50, sh_51, sh_52, sh_53, sh_54, sh_55, sh_56, sh_57, sh_58, sh_59, sh_60, ct_0, ct_1, ct_2, ct_3, ct_4, ct_5, ct_6, ct_7, ct_8, ct_9, ct_10, ct_11, ct_12, ct_13, ct_14, ct_20, ct_21, ct_22, ct_23, ct_24, ct_25, ct_30, ct_31, ct_32, ct_40, ct_41, ct_42, ct_43, ct_44, ct_45, ct_46, ct_47, ct_48, ct_49, ct_50, ct_51, ct_52, ct_53, ct_54, ct_55, ct_56, ct_57, ct_58, ct_59, ct_60, ki_m1, ki_0, ki_1, ki_2, ki_3, ki_4, ki_5, kb_m2, kb_m3, kb_m4, kb_m8, kb_m9, kb_10, kb_100, kb_16, kb_36, kb_6, kb_63, kb_8, kb_9, kb_99, ks_216, ks_2520, ks_256, ks_800, kl_0, kl_1, ↓reduceIte, reduceCtorEq, Nat.reduceAdd, Nat.reduceLT, Nat.reduceLeDiff, Nat.reduceEqDiff, List.map_cons, List.map_nil, List.sum_cons, List.sum_nil, List.cons_append, List.nil_append, Option.toList_some, Option.toList_none, true_and, and_true, true_or, or_true, not_true_eq_false, not_false_eq_true, Nat.lt_add_one, Nat.zero_le, eq_self, or_false, false_or, implies_true, forall_const, false_implies, forall_false, true_implies, and_self, Nat.zero_lt_one, Nat.add_zero, Nat.zero_add, Int32.reduceLT, Int32.reduceLE, Int32.reduceAdd, Int32.reduceSub, Int32.reduceMul, e10, e01, ite_self, ab_mx, ab_mi, ab_mb, ab_ml2, rX8_common_19, rX8_common_20, rX8_common_21, rX8_common_24, rX8_common_26, rX8_common_28, rX8_common_29, rX8_common_31, rX8_common_33, rX8_common_35, rX8_common_37, rX8_common_39, rX8_common_42, rX8_common_44, lg_cmp_eq]
      exact F
    | succ n ih =>
      intro x y l8 hn x0 y0 hg
      rw [rX8_common_17]
      by_cases hy : y = 0
      · subst hy
        rw [z64, gI_z x0] at hg
        have F := hP x hg
        simp only [ab_loc, ab_cat, ab_kil, ab_al, ab_ln, ab_lnp, ab_rf, sh_0, sh_1, sh_2, sh_3, sh_4, sh_5, sh_6, sh_7, sh_8, sh_9, sh_10, sh_11, sh_12, sh_13, sh_14, sh_20, sh_21, sh_22, sh_23, sh_24, sh_25, sh_30, sh_31, sh_32, sh_40, sh_41, sh_42, sh_43, sh_44, sh_45, sh_46, sh_47, sh_48, sh_49, sh_50, sh_51, sh_52, sh_53, sh_54, sh_55, sh_56, sh_57, sh_58, sh_59, sh_60, ct_0, ct_1, ct_2, ct_3, ct_4, ct_5, ct_6, ct_7, ct_8, ct_9, ct_10, ct_11, ct_12, ct_13, ct_14, ct_20, ct_21, ct_22, ct_23, ct_24, ct_25, ct_30, ct_31, ct_32, ct_40, ct_41, ct_42, ct_43, ct_44, ct_45, ct_46, ct_47, ct_48, ct_49, ct_50, ct_51, ct_52, ct_53, ct_54, ct_55, ct_56, ct_57, ct_58, ct_59, ct_60, ki_m1, ki_0, ki_1, ki_2, ki_3, ki_4, ki_5, kb_m2, kb_m3, kb_m4, kb_m8, kb_m9, kb_10, kb_100, kb_16, kb_36, kb_6, kb_63, kb_8, kb_9, kb_99, ks_216, ks_2520, ks_256, ks_800, kl_0, kl_1, ↓reduceIte, reduceCtorEq, Nat.reduceAdd, Nat.reduceLT, Nat.reduceLeDiff, Nat.reduceEqDiff, List.map_cons, List.map_nil, List.sum_cons, List.sum_nil, List.cons_append, List.nil_append, Option.toList_some, Option.toList_none, true_and, and_true, true_or, or_true, not_true_eq_false, not_false_eq_true, Nat.lt_add_one, Nat.zero_le, eq_self, or_false, false_or, implies_true, forall_const, false_implies, forall_false, true_implies, and_self, Nat.zero_lt_one, Nat.add_zero, Nat.zero_add, Int32.reduceLT, Int32.reduceLE, Int32.reduceAdd, Int32.reduceSub, Int32.reduceMul, e10, e01, ite_self, ab_mx, ab_mi, ab_mb, ab_ml2, rX8_common_19, rX8_common_20, rX8_common_21, rX8_common_24, rX8_common_26, rX8_common_28, rX8_common_29, rX8_common_31, rX8_common_33, rX8_common_35, rX8_common_37, rX8_common_39, rX8_common_42, rX8_common_44, lg_cmp_eq]
        exact F
      · have y1 := ne64 hy y0
        have er := i64_rem x0 y1
        have r1 : x.toInt % y.toInt < y.toInt := Int.emod_lt_of_pos _ (by omega)
        have r0 : 0 ≤ x.toInt % y.toInt := Int.emod_nonneg _ (by omega)
        have K := ih y (x - x / y * y) (some (.inl (.inr (x - x / y * y)))) (by rw [er]; omega) y0 (by rw [er]; exact r0) (by rw [er, gI_s x0 y1]; exact hg)
        simp only [ab_loc, ab_cat, ab_kil, ab_al, ab_ln, ab_lnp, ab_rf, sh_0, sh_1, sh_2, sh_3, sh_4, sh_5, sh_6, sh_7, sh_8, sh_9, sh_10, sh_11, sh_12, sh_13, sh_14, sh_20, sh_21, sh_22, sh_23, sh_24, sh_25, sh_30, sh_31, sh_32, sh_40, sh_41, sh_42, sh_43, sh_44, sh_45, sh_46, sh_47, sh_48, sh_49, sh_50, sh_51, sh_52, sh_53, sh_54, sh_55, sh_56, sh_57, sh_58, sh_59, sh_60, ct_0, ct_1, ct_2, ct_3, ct_4, ct_5, ct_6, ct_7, ct_8, ct_9, ct_10, ct_11, ct_12, ct_13, ct_14, ct_20, ct_21, ct_22, ct_23, ct_24, ct_25, ct_30, ct_31, ct_32, ct_40, ct_41, ct_42, ct_43, ct_44, ct_45, ct_46, ct_47, ct_48, ct_49, ct_50, ct_51, ct_52, ct_53, ct_54, ct_55, ct_56, ct_57, ct_58, ct_59, ct_60, ki_m1, ki_0, ki_1, ki_2, ki_3, ki_4, ki_5, kb_m2, kb_m3, kb_m4, kb_m8, kb_m9, kb_10, kb_100, kb_16, kb_36, kb_6, kb_63, kb_8, kb_9, kb_99, ks_216, ks_2520, ks_256, ks_800, kl_0, kl_1, ↓reduceIte, reduceCtorEq, Nat.reduceAdd, Nat.reduceLT, Nat.reduceLeDiff, Nat.reduceEqDiff, List.map_cons, List.map_nil, List.sum_cons, List.sum_nil, List.cons_append, List.nil_append, Option.toList_some, Option.toList_none, true_and, and_true, true_or, or_true, not_true_eq_false, not_false_eq_true, Nat.lt_add_one, Nat.zero_le, eq_self, or_false, false_or, implies_true, forall_const, false_implies, forall_false, true_implies, and_self, Nat.zero_lt_one, Nat.add_zero, Nat.zero_add, Int32.reduceLT, Int32.reduceLE, Int32.reduceAdd, Int32.reduceSub, Int32.reduceMul, e10, e01, ite_self, ab_mx, ab_mi, ab_mb, ab_ml2, rX8_common_19, rX8_common_20, rX8_common_21, rX8_common_24, rX8_common_26, rX8_common_28, rX8_common_29, rX8_common_31, rX8_common_33, rX8_common_35, rX8_common_37, rX8_common_39, rX8_common_42, rX8_common_44, lg_cmp_eq, hy]
        exact K
  have c : ¬ a < 0 := fun q => by have q := Int64.lt_iff_toInt_lt.mp q; rw [z64] at q; omega
  have c2 : (0 : Int64) ≤ a := Int64.not_lt.mp c
  have K := key b.toInt.toNat a b none (Nat.le_refl _) a0 (by omega) rfl
  simp only [ab_loc, ab_cat, ab_kil, ab_al, ab_ln, ab_lnp, ab_rf, sh_0, sh_1, sh_2, sh_3, sh_4, sh_5, sh_6, sh_7, sh_8, sh_9, sh_10, sh_11, sh_12, sh_13, sh_14, sh_20, sh_21, sh_22, sh_23, sh_24, sh_25, sh_30, sh_31, sh_32, sh_40, sh_41, sh_42, sh_43, sh_44, sh_45, sh_46, sh_47, sh_48, sh_49, sh_50, sh_51, sh_52, sh_53, sh_54, sh_55, sh_56, sh_57, sh_58, sh_59, sh_60, ct_0, ct_1, ct_2, ct_3, ct_4, ct_5, ct_6, ct_7, ct_8, ct_9, ct_10, ct_11, ct_12, ct_13, ct_14, ct_20, ct_21, ct_22, ct_23, ct_24, ct_25, ct_30, ct_31, ct_32, ct_40, ct_41, ct_42, ct_43, ct_44, ct_45, ct_46, ct_47, ct_48, ct_49, ct_50, ct_51, ct_52, ct_53, ct_54, ct_55, ct_56, ct_57, ct_58, ct_59, ct_60, ki_m1, ki_0, ki_1, ki_2, ki_3, ki_4, ki_5, kb_m2, kb_m3, kb_m4, kb_m8, kb_m9, kb_10, kb_100, kb_16, kb_36, kb_6, kb_63, kb_8, kb_9, kb_99, ks_216, ks_2520, ks_256, ks_800, kl_0, kl_1, ↓reduceIte, reduceCtorEq, Nat.reduceAdd, Nat.reduceLT, Nat.reduceLeDiff, Nat.reduceEqDiff, List.map_cons, List.map_nil, List.sum_cons, List.sum_nil, List.cons_append, List.nil_append, Option.toList_some, Option.toList_none, true_and, and_true, true_or, or_true, not_true_eq_false, not_false_eq_true, Nat.lt_add_one, Nat.zero_le, eq_self, or_false, false_or, implies_true, forall_const, false_implies, forall_false, true_implies, and_self, Nat.zero_lt_one, Nat.add_zero, Nat.zero_add, Int32.reduceLT, Int32.reduceLE, Int32.reduceAdd, Int32.reduceSub, Int32.reduceMul, e10, e01, ite_self, ab_mx, ab_mi, ab_mb, ab_ml2, uX8_common, rX8_common_0, rX8_common_1, rX8_common_2, rX8_common_3, rX8_common_6, rX8_common_7, rX8_common_8, rX8_common_11, rX8_common_12, rX8_common_14, rX8_common_15, lg_cmp_ge, c2]
  exact K
def ltv (u : Bool) (a b : Int) : Int := (if u = true then a else b) / gI a b
set_option maxRecDepth 100000 in
theorem sX8_told {σ : ab_S} {P : ab_P} {a b : Int64} {u : Bool} (a0 : 0 ≤ a.toInt) (b0 : 1 ≤ b.toInt) (hP : ∀ y : Int64, y.toInt = ltv u a.toInt b.toInt → P (some (.inl (.inr y))) σ) : ab_sp mX8_told cX8_told [.inl (.inr a), .inl (.inr b), .inl (.inl (if u = true then 1 else 0))] σ P := by
  have g1 := gI_p (a := a.toInt) b0
  simp only [ab_loc, ab_cat, ab_kil, ab_al, ab_ln, ab_lnp, ab_rf, sh_0, sh_1, sh_2, sh_3, sh_4, sh_5, sh_6, sh_7, sh_8, sh_9, sh_10, sh_11, sh_12, sh_13, sh_14, sh_20, sh_21, sh_22, sh_23, sh_24, sh_25, sh_30, sh_31, sh_32, sh_40, sh_41, sh_42, sh_43, sh_44, sh_45, sh_46, sh_47, sh_48, sh_49, sh_50, sh_51, sh_52, sh_53, sh_54, sh_55, sh_56, sh_57, sh_58, sh_59, sh_60, ct_0, ct_1, ct_2, ct_3, ct_4, ct_5, ct_6, ct_7, ct_8, ct_9, ct_10, ct_11, ct_12, ct_13, ct_14, ct_20, ct_21, ct_22, ct_23, ct_24, ct_25, ct_30, ct_31, ct_32, ct_40, ct_41, ct_42, ct_43, ct_44, ct_45, ct_46, ct_47, ct_48, ct_49, ct_50, ct_51, ct_52, ct_53, ct_54, ct_55, ct_56, ct_57, ct_58, ct_59, ct_60, ki_m1, ki_0, ki_1, ki_2, ki_3, ki_4, ki_5, kb_m2, kb_m3, kb_m4, kb_m8, kb_m9, kb_10, kb_100, kb_16, kb_36, kb_6, kb_63, kb_8, kb_9, kb_99, ks_216, ks_2520, ks_256, ks_800, kl_0, kl_1, ↓reduceIte, reduceCtorEq, Nat.reduceAdd, Nat.reduceLT, Nat.reduceLeDiff, Nat.reduceEqDiff, List.map_cons, List.map_nil, List.sum_cons, List.sum_nil, List.cons_append, List.nil_append, Option.toList_some, Option.toList_none, true_and, and_true, true_or, or_true, not_true_eq_false, not_false_eq_true, Nat.lt_add_one, Nat.zero_le, eq_self, or_false, false_or, implies_true, forall_const, false_implies, forall_false, true_implies, and_self, Nat.zero_lt_one, Nat.add_zero, Nat.zero_add, Int32.reduceLT, Int32.reduceLE, Int32.reduceAdd, Int32.reduceSub, Int32.reduceMul, e10, e01, ite_self, ab_mx, ab_mi, ab_mb, ab_ml2, uX8_told, rX8_told_0, rX8_told_1, rX8_told_2]
  refine sX8_common a0 b0 (fun y hy => ?_)
  have yz : ¬ y = 0 := fun e => by rw [e, z64] at hy; omega
  unfold ltv at hP
  cases u with
  | true =>
    have F := hP (a / y) (by rw [i64_div a0 (by omega), hy]; rfl)
    simp only [ab_loc, ab_cat, ab_kil, ab_al, ab_ln, ab_lnp, ab_rf, sh_0, sh_1, sh_2, sh_3, sh_4, sh_5, sh_6, sh_7, sh_8, sh_9, sh_10, sh_11, sh_12, sh_13, sh_14, sh_20, sh_21, sh_22, sh_23, sh_24, sh_25, sh_30, sh_31, sh_32, sh_40, sh_41, sh_42, sh_43, sh_44, sh_45, sh_46, sh_47, sh_48, sh_49, sh_50, sh_51, sh_52, sh_53, sh_54, sh_55, sh_56, sh_57, sh_58, sh_59, sh_60, ct_0, ct_1, ct_2, ct_3, ct_4, ct_5, ct_6, ct_7, ct_8, ct_9, ct_10, ct_11, ct_12, ct_13, ct_14, ct_20, ct_21, ct_22, ct_23, ct_24, ct_25, ct_30, ct_31, ct_32, ct_40, ct_41, ct_42, ct_43, ct_44, ct_45, ct_46, ct_47, ct_48, ct_49, ct_50, ct_51, ct_52, ct_53, ct_54, ct_55, ct_56, ct_57, ct_58, ct_59, ct_60, ki_m1, ki_0, ki_1, ki_2, ki_3, ki_4, ki_5, kb_m2, kb_m3, kb_m4, kb_m8, kb_m9, kb_10, kb_100, kb_16, kb_36, kb_6, kb_63, kb_8, kb_9, kb_99, ks_216, ks_2520, ks_256, ks_800, kl_0, kl_1, ↓reduceIte, reduceCtorEq, Nat.reduceAdd, Nat.reduceLT, Nat.reduceLeDiff, Nat.reduceEqDiff, List.map_cons, List.map_nil, List.sum_cons, List.sum_nil, List.cons_append, List.nil_append, Option.toList_some, Option.toList_none, true_and, and_true, true_or, or_true, not_true_eq_false, not_false_eq_true, Nat.lt_add_one, Nat.zero_le, eq_self, or_false, false_or, implies_true, forall_const, false_implies, forall_false, true_implies, and_self, Nat.zero_lt_one, Nat.add_zero, Nat.zero_add, Int32.reduceLT, Int32.reduceLE, Int32.reduceAdd, Int32.reduceSub, Int32.reduceMul, e10, e01, ite_self, ab_mx, ab_mi, ab_mb, ab_ml2, rX8_told_5, rX8_told_7, rX8_told_9, rX8_told_12, rX8_told_13, rX8_told_15, rX8_told_16, rX8_told_19, rX8_told_20, rX8_told_22, rX8_told_23, yz]
    exact F
  | false =>
    have F := hP (b / y) (by rw [i64_div (by omega) (by omega), hy]; rfl)
    simp only [ab_loc, ab_cat, ab_kil, ab_al, ab_ln, ab_lnp, ab_rf, sh_0, sh_1, sh_2, sh_3, sh_4, sh_5, sh_6, sh_7, sh_8, sh_9, sh_10, sh_11, sh_12, sh_13, sh_14, sh_20, sh_21, sh_22, sh_23, sh_24, sh_25, sh_30, sh_31, sh_32, sh_40, sh_41, sh_42, sh_43, sh_44, sh_45, sh_46, sh_47, sh_48, sh_49, sh_50, sh_51, sh_52, sh_53, sh_54, sh_55, sh_56, sh_57, sh_58, sh_59, sh_60, ct_0, ct_1, ct_2, ct_3, ct_4, ct_5, ct_6, ct_7, ct_8, ct_9, ct_10, ct_11, ct_12, ct_13, ct_14, ct_20, ct_21, ct_22, ct_23, ct_24, ct_25, ct_30, ct_31, ct_32, ct_40, ct_41, ct_42, ct_43, ct_44, ct_45, ct_46, ct_47, ct_48, ct_49, ct_50, ct_51, ct_52, ct_53, ct_54, ct_55, ct_56, ct_57, ct_58, ct_59, ct_60, ki_m1, ki_0, ki_1, ki_2, ki_3, ki_4, ki_5, kb_m2, kb_m3, kb_m4, kb_m8, kb_m9, kb_10, kb_100, kb_16, kb_36, kb_6, kb_63, kb_8, kb_9, kb_99, ks_216, ks_2520, ks_256, ks_800, kl_0, kl_1, ↓reduceIte, reduceCtorEq, Nat.reduceAdd, Nat.reduceLT, Nat.reduceLeDiff, Nat.reduceEqDiff, List.map_cons, List.map_nil, List.sum_cons, List.sum_nil, List.cons_append, List.nil_append, Option.toList_some, Option.toList_none, true_and, and_true, true_or, or_true, not_true_eq_false, not_false_eq_true, Nat.lt_add_one, Nat.zero_le, eq_self, or_false, false_or, implies_true, forall_const, false_implies, forall_false, true_implies, and_self, Nat.zero_lt_one, Nat.add_zero, Nat.zero_add, Int32.reduceLT, Int32.reduceLE, Int32.reduceAdd, Int32.reduceSub, Int32.reduceMul, e10, e01, ite_self, ab_mx, ab_mi, ab_mb, ab_ml2, rX8_told_5, rX8_told_7, rX8_told_9, rX8_told_12, rX8_told_13, rX8_told_15, rX8_told_16, rX8_told_19, rX8_told_20, rX8_told_22, rX8_told_23, yz, Bool.false_eq_true]
    exact F
set_option maxRecDepth 100000 in
theorem sX7_commonDivisor {σ : ab_S} {P : ab_P} {a b : Int64} (a0 : 0 ≤ a.toInt) (b0 : 1 ≤ b.toInt) (b1 : b.toInt < 2 ^ 49) (hP : ∀ y : Int64, y.toInt = gI a.toInt b.toInt → P (some (.inl (.inr y))) σ) : ab_sp mX7_commonDivisor cX7_commonDivisor [.inl (.inr a), .inl (.inr b)] σ P := by
  have e100 : (100 : Int32).toInt = 100 := rfl
  have out : ∀ (x : Int64) (t : Int32) (l5 : Option ab_V), x.toInt = gI a.toInt b.toInt → ab_wp mX7_commonDivisor cX7_commonDivisor none P 3 [some (.inl (.inr x)), none, some (.inl (.inr 0)), none, some (.inl (.inl t)), l5, none] [] σ := by
    intro x t l5 hx
    have F := hP x hx
    by_cases c : (100 : Int32) ≤ t
    · simp only [ab_loc, ab_cat, ab_kil, ab_al, ab_ln, ab_lnp, ab_rf, sh_0, sh_1, sh_2, sh_3, sh_4, sh_5, sh_6, sh_7, sh_8, sh_9, sh_10, sh_11, sh_12, sh_13, sh_14, sh_20, sh_21, sh_22, sh_23, sh_24, sh_25, sh_30, sh_31, sh_32, sh_40, sh_41, sh_42, sh_43, sh_44, sh_45, sh_46, sh_47, sh_48, sh_49, sh_50, sh_51, sh_52, sh_53, sh_54, sh_55, sh_56, sh_57, sh_58, sh_59, sh_60, ct_0, ct_1, ct_2, ct_3, ct_4, ct_5, ct_6, ct_7, ct_8, ct_9, ct_10, ct_11, ct_12, ct_13, ct_14, ct_20, ct_21, ct_22, ct_23, ct_24, ct_25, ct_30, ct_31, ct_32, ct_40, ct_41, ct_42, ct_43, ct_44, ct_45, ct_46, ct_47, ct_48, ct_49, ct_50, ct_51, ct_52, ct_53, ct_54, ct_55, ct_56, ct_57, ct_58, ct_59, ct_60, ki_m1, ki_0, ki_1, ki_2, ki_3, ki_4, ki_5, kb_m2, kb_m3, kb_m4, kb_m8, kb_m9, kb_10, kb_100, kb_16, kb_36, kb_6, kb_63, kb_8, kb_9, kb_99, ks_216, ks_2520, ks_256, ks_800, kl_0, kl_1, ↓reduceIte, reduceCtorEq, Nat.reduceAdd, Nat.reduceLT, Nat.reduceLeDiff, Nat.reduceEqDiff, List.map_cons, List.map_nil, List.sum_cons, List.sum_nil, List.cons_append, List.nil_append, Option.toList_some, Option.toList_none, true_and, and_true, true_or, or_true, not_true_eq_false, not_false_eq_true, Nat.lt_add_one, Nat.zero_le, eq_self, or_false, false_or, implies_true, forall_const, false_implies, forall_false, true_implies, and_self, Nat.zero_lt_one, Nat.add_zero, Nat.zero_add, Int32.reduceLT, Int32.reduceLE, Int32.reduceAdd, Int32.reduceSub, Int32.reduceMul, e10, e01, ite_self, ab_mx, ab_mi, ab_mb, ab_ml2, rX7_commonDivisor_3, rX7_commonDivisor_5, rX7_commonDivisor_7, rX7_commonDivisor_32, rX7_commonDivisor_33, c]
      exact F
    · simp only [ab_loc, ab_cat, ab_kil, ab_al, ab_ln, ab_lnp, ab_rf, sh_0, sh_1, sh_2, sh_3, sh_4, sh_5, sh_6, sh_7, sh_8, sh_9, sh_10, sh_11, sh_12, sh_13, sh_14, sh_20, sh_21, sh_22, sh_23, sh_24, sh_25, sh_30, sh_31, sh_32, sh_40, sh_41, sh_42, sh_43, sh_44, sh_45, sh_46, sh_47, sh_48, sh_49, sh_50, sh_51, sh_52, sh_53, sh_54, sh_55, sh_56, sh_57, sh_58, sh_59, sh_60, ct_0, ct_1, ct_2, ct_3, ct_4, ct_5, ct_6, ct_7, ct_8, ct_9, ct_10, ct_11, ct_12, ct_13, ct_14, ct_20, ct_21, ct_22, ct_23, ct_24, ct_25, ct_30, ct_31, ct_32, ct_40, ct_41, ct_42, ct_43, ct_44, ct_45, ct_46, ct_47, ct_48, ct_49, ct_50, ct_51, ct_52, ct_53, ct_54, ct_55, ct_56, ct_57, ct_58, ct_59, ct_60, ki_m1, ki_0, ki_1, ki_2, ki_3, ki_4, ki_5, kb_m2, kb_m3, kb_m4, kb_m8, kb_m9, kb_10, kb_100, kb_16, kb_36, kb_6, kb_63, kb_8, kb_9, kb_99, ks_216, ks_2520, ks_256, ks_800, kl_0, kl_1, ↓reduceIte, reduceCtorEq, Nat.reduceAdd, Nat.reduceLT, Nat.reduceLeDiff, Nat.reduceEqDiff, List.map_cons, List.map_nil, List.sum_cons, List.sum_nil, List.cons_append, List.nil_append, Option.toList_some, Option.toList_none, true_and, and_true, true_or, or_true, not_true_eq_false, not_false_eq_true, Nat.lt_add_one, Nat.zero_le, eq_self, or_false, false_or, implies_true, forall_const, false_implies, forall_false, true_implies, and_self, Nat.zero_lt_one, Nat.add_zero, Nat.zero_add, Int32.reduceLT, Int32.reduceLE, Int32.reduceAdd, Int32.reduceSub, Int32.reduceMul, e10, e01, ite_self, ab_mx, ab_mi, ab_mb, ab_ml2, rX7_commonDivisor_3, rX7_commonDivisor_5, rX7_commonDivisor_7, rX7_commonDivisor_10, rX7_commonDivisor_11, rX7_commonDivisor_12, rX7_commonDivisor_13, rX7_commonDivisor_32, rX7_commonDivisor_33, c, lg_cmp_eq]
      exact F
  have step : ∀ (x y : Int64) (t : Int32) (l5 : Option ab_V), ¬ y = 0 → t.toInt < 100 → ab_wp mX7_commonDivisor cX7_commonDivisor none P 3 [some (.inl (.inr y)), none, some (.inl (.inr (x - x / y * y))), none, some (.inl (.inl (t + 1))), some (.inl (.inr (x - x / y * y))), none] [] σ → ab_wp mX7_commonDivisor cX7_commonDivisor none P 3 [some (.inl (.inr x)), none, some (.inl (.inr y)), none, some (.inl (.inl t)), l5, none] [] σ := by
    intro x y t l5 hy ht K
    have c : ¬ (100 : Int32) ≤ t := fun q => by have q := le32 q; rw [e100] at q; omega
    rw [rX7_commonDivisor_3]
    simp only [ab_loc, ab_cat, ab_kil, ab_al, ab_ln, ab_lnp, ab_rf, sh_0, sh_1, sh_2, sh_3, sh_4, sh_5, sh_6, sh_7, sh_8, sh_9, sh_10, sh_11, sh_12, sh_13, sh_14, sh_20, sh_21, sh_22, sh_23, sh_24, sh_25, sh_30, sh_31, sh_32, sh_40, sh_41, sh_42, sh_43, sh_44, sh_45, sh_46, sh_47, sh_48, sh_49, sh_50, sh_51, sh_52, sh_53, sh_54, sh_55, sh_56, sh_57, sh_58, sh_59, sh_60, ct_0, ct_1, ct_2, ct_3, ct_4, ct_5, ct_6, ct_7, ct_8, ct_9, ct_10, ct_11, ct_12, ct_13, ct_14, ct_20, ct_21, ct_22, ct_23, ct_24, ct_25, ct_30, ct_31, ct_32, ct_40, ct_41, ct_42, ct_43, ct_44, ct_45, ct_46, ct_47, ct_48, ct_49, ct_50, ct_51, ct_52, ct_53, ct_54, ct_55, ct_56, ct_57, ct_58, ct_59, ct_60, ki_m1, ki_0, ki_1, ki_2, ki_3, ki_4, ki_5, kb_m2, kb_m3, kb_m4, kb_m8, kb_m9, kb_10, kb_100, kb_16, kb_36, kb_6, kb_63, kb_8, kb_9, kb_99, ks_216, ks_2520, ks_256, ks_800, kl_0, kl_1, ↓reduceIte, reduceCtorEq, Nat.reduceAdd, Nat.reduceLT, Nat.reduceLeDiff, Nat.reduceEqDiff, List.map_cons, List.map_nil, List.sum_cons, List.sum_nil, List.cons_append, List.nil_append, Option.toList_some, Option.toList_none, true_and, and_true, true_or, or_true, not_true_eq_false, not_false_eq_true, Nat.lt_add_one, Nat.zero_le, eq_self, or_false, false_or, implies_true, forall_const, false_implies, forall_false, true_implies, and_self, Nat.zero_lt_one, Nat.add_zero, Nat.zero_add, Int32.reduceLT, Int32.reduceLE, Int32.reduceAdd, Int32.reduceSub, Int32.reduceMul, e10, e01, ite_self, ab_mx, ab_mi, ab_mb, ab_ml2, rX7_commonDivisor_5, rX7_commonDivisor_7, rX7_commonDivisor_10, rX7_commonDivisor_11, rX7_commonDivisor_12, rX7_commonDivisor_13, rX7_commonDivisor_16, rX7_commonDivisor_17, rX7_commonDivisor_18, rX7_commonDivisor_19, rX7_commonDivisor_21, rX7_commonDivisor_22, rX7_commonDivisor_23, rX7_commonDivisor_25, rX7_commonDivisor_26, rX7_commonDivisor_29, c, lg_cmp_eq, hy]
    exact K
  have key : ∀ (m : Nat) (x y : Int64) (t : Int32) (l5 : Option ab_V), y.toInt < 2 ^ m → 0 ≤ x.toInt → 0 ≤ y.toInt → 0 ≤ t.toInt → t.toInt + 2 * m ≤ 100 → gI x.toInt y.toInt = gI a.toInt b.toInt → ab_wp mX7_commonDivisor cX7_commonDivisor none P 3 [some (.inl (.inr x)), none, some (.inl (.inr y)), none, some (.inl (.inl t)), l5, none] [] σ := by
    intro m
    induction m with
    | zero =>
      intro x y t l5 hm x0 y0 t0 ht hg
      have hy : y = 0 := Int64.toInt_inj.mp (by rw [z64]; simp at hm; omega)
      subst hy
      rw [z64, gI_z x0] at hg
      exact out x t l5 hg
    | succ m ih =>
      intro x y t l5 hm x0 y0 t0 ht hg
      by_cases hy : y = 0
      · subst hy
        rw [z64, gI_z x0] at hg
        exact out x t l5 hg
      · have y1 := ne64 hy y0
        have er := i64_rem x0 y1
        have r1 : x.toInt % y.toInt < y.toInt := Int.emod_lt_of_pos _ (by omega)
        have r0 : 0 ≤ x.toInt % y.toInt := Int.emod_nonneg _ (by omega)
        have et : (t + 1).toInt = t.toInt + 1 := i32_p1 (by omega)
        refine step x y t l5 hy (by omega) ?_
        have hg2 : gI y.toInt (x - x / y * y).toInt = gI a.toInt b.toInt := by rw [er, gI_s x0 y1]; exact hg
        obtain ⟨r, hr⟩ : ∃ r, x - x / y * y = r := ⟨_, rfl⟩
        rw [hr] at er hg2 ⊢
        by_cases hz : r = 0
        · subst hz
          rw [z64, gI_z y0] at hg2
          exact out y (t + 1) _ hg2
        · have q1 := ne64 hz (by omega)
          have er2 := i64_rem y0 q1
          have lt2 := rm_lt y1 (by omega) x0
          have s0 : 0 ≤ y.toInt % r.toInt := Int.emod_nonneg _ (by omega)
          have pw : (2 : Int) ^ (m + 1) = 2 ^ m * 2 := Int.pow_succ 2 m
          refine step y r (t + 1) _ hz (by omega) ?_
          have et2 : (t + 1 + 1).toInt = t.toInt + 2 := by rw [i32_p1 (by omega), et]; omega
          refine ih r (y - y / r * r) (t + 1 + 1) _ ?_ (by omega) (by rw [er2]; exact s0) (by omega) (by omega) (by rw [er2, gI_s y0 q1]; exact hg2)
          rw [er2, er]
          rw [pw] at hm
          omega
  have K := key 49 a b 0 none b1 a0 (by omega) (by decide) (by decide) rfl
  simp only [ab_loc, ab_cat, ab_kil, ab_al, ab_ln, ab_lnp, ab_rf, sh_0, sh_1, sh_2, sh_3, sh_4, sh_5, sh_6, sh_7, sh_8, sh_9, sh_10, sh_11, sh_12, sh_13, sh_14, sh_20, sh_21, sh_22, sh_23, sh_24, sh_25, sh_30, sh_31, sh_32, sh_40, sh_41, sh_42, sh_43, sh_44, sh_45, sh_46, sh_47, sh_48, sh_49, sh_50, sh_51, sh_52, sh_53, sh_54, sh_55, sh_56, sh_57, sh_58, sh_59, sh_60, ct_0, ct_1, ct_2, ct_3, ct_4, ct_5, ct_6, ct_7, ct_8, ct_9, ct_10, ct_11, ct_12, ct_13, ct_14, ct_20, ct_21, ct_22, ct_23, ct_24, ct_25, ct_30, ct_31, ct_32, ct_40, ct_41, ct_42, ct_43, ct_44, ct_45, ct_46, ct_47, ct_48, ct_49, ct_50, ct_51, ct_52, ct_53, ct_54, ct_55, ct_56, ct_57, ct_58, ct_59, ct_60, ki_m1, ki_0, ki_1, ki_2, ki_3, ki_4, ki_5, kb_m2, kb_m3, kb_m4, kb_m8, kb_m9, kb_10, kb_100, kb_16, kb_36, kb_6, kb_63, kb_8, kb_9, kb_99, ks_216, ks_2520, ks_256, ks_800, kl_0, kl_1, ↓reduceIte, reduceCtorEq, Nat.reduceAdd, Nat.reduceLT, Nat.reduceLeDiff, Nat.reduceEqDiff, List.map_cons, List.map_nil, List.sum_cons, List.sum_nil, List.cons_append, List.nil_append, Option.toList_some, Option.toList_none, true_and, and_true, true_or, or_true, not_true_eq_false, not_false_eq_true, Nat.lt_add_one, Nat.zero_le, eq_self, or_false, false_or, implies_true, forall_const, false_implies, forall_false, true_implies, and_self, Nat.zero_lt_one, Nat.add_zero, Nat.zero_add, Int32.reduceLT, Int32.reduceLE, Int32.reduceAdd, Int32.reduceSub, Int32.reduceMul, e10, e01, ite_self, ab_mx, ab_mi, ab_mb, ab_ml2, uX7_commonDivisor, rX7_commonDivisor_0, rX7_commonDivisor_1]
  exact K
set_option maxRecDepth 100000 in
theorem sX7_inLeastTerms {σ : ab_S} {P : ab_P} {a b : Int64} {u : Bool} (a0 : 0 ≤ a.toInt) (b0 : 1 ≤ b.toInt) (b1 : b.toInt < 2 ^ 49) (hP : ∀ y : Int64, y.toInt = ltv u a.toInt b.toInt → P (some (.inl (.inr y))) σ) : ab_sp mX7_inLeastTerms cX7_inLeastTerms [.inl (.inr a), .inl (.inr b), .inl (.inl (if u = true then 1 else 0))] σ P := by
  have g1 := gI_p (a := a.toInt) b0
  simp only [ab_loc, ab_cat, ab_kil, ab_al, ab_ln, ab_lnp, ab_rf, sh_0, sh_1, sh_2, sh_3, sh_4, sh_5, sh_6, sh_7, sh_8, sh_9, sh_10, sh_11, sh_12, sh_13, sh_14, sh_20, sh_21, sh_22, sh_23, sh_24, sh_25, sh_30, sh_31, sh_32, sh_40, sh_41, sh_42, sh_43, sh_44, sh_45, sh_46, sh_47, sh_48, sh_49, sh_50, sh_51, sh_52, sh_53, sh_54, sh_55, sh_56, sh_57, sh_58, sh_59, sh_60, ct_0, ct_1, ct_2, ct_3, ct_4, ct_5, ct_6, ct_7, ct_8, ct_9, ct_10, ct_11, ct_12, ct_13, ct_14, ct_20, ct_21, ct_22, ct_23, ct_24, ct_25, ct_30, ct_31, ct_32, ct_40, ct_41, ct_42, ct_43, ct_44, ct_45, ct_46, ct_47, ct_48, ct_49, ct_50, ct_51, ct_52, ct_53, ct_54, ct_55, ct_56, ct_57, ct_58, ct_59, ct_60, ki_m1, ki_0, ki_1, ki_2, ki_3, ki_4, ki_5, kb_m2, kb_m3, kb_m4, kb_m8, kb_m9, kb_10, kb_100, kb_16, kb_36, kb_6, kb_63, kb_8, kb_9, kb_99, ks_216, ks_2520, ks_256, ks_800, kl_0, kl_1, ↓reduceIte, reduceCtorEq, Nat.reduceAdd, Nat.reduceLT, Nat.reduceLeDiff, Nat.reduceEqDiff, List.map_cons, List.map_nil, List.sum_cons, List.sum_nil, List.cons_append, List.nil_append, Option.toList_some, Option.toList_none, true_and, and_true, true_or, or_true, not_true_eq_false, not_false_eq_true, Nat.lt_add_one, Nat.zero_le, eq_self, or_false, false_or, implies_true, forall_const, false_implies, forall_false, true_implies, and_self, Nat.zero_lt_one, Nat.add_zero, Nat.zero_add, Int32.reduceLT, Int32.reduceLE, Int32.reduceAdd, Int32.reduceSub, Int32.reduceMul, e10, e01, ite_self, ab_mx, ab_mi, ab_mb, ab_ml2, uX7_inLeastTerms, rX7_inLeastTerms_0, rX7_inLeastTerms_1, rX7_inLeastTerms_2]
  refine sX7_commonDivisor a0 b0 b1 (fun y hy => ?_)
  have yz : ¬ y = 0 := fun e => by rw [e, z64] at hy; omega
  have c : (1 : Int64) ≤ y := Int64.le_iff_toInt_le.mpr (by rw [show (1 : Int64).toInt = 1 from rfl]; omega)
  unfold ltv at hP
  cases u with
  | true =>
    have F := hP (a / y) (by rw [i64_div a0 (by omega), hy]; rfl)
    simp only [ab_loc, ab_cat, ab_kil, ab_al, ab_ln, ab_lnp, ab_rf, sh_0, sh_1, sh_2, sh_3, sh_4, sh_5, sh_6, sh_7, sh_8, sh_9, sh_10, sh_11, sh_12, sh_13, sh_14, sh_20, sh_21, sh_22, sh_23, sh_24, sh_25, sh_30, sh_31, sh_32, sh_40, sh_41, sh_42, sh_43, sh_44, sh_45, sh_46, sh_47, sh_48, sh_49, sh_50, sh_51, sh_52, sh_53, sh_54, sh_55, sh_56, sh_57, sh_58, sh_59, sh_60, ct_0, ct_1, ct_2, ct_3, ct_4, ct_5, ct_6, ct_7, ct_8, ct_9, ct_10, ct_11, ct_12, ct_13, ct_14, ct_20, ct_21, ct_22, ct_23, ct_24, ct_25, ct_30, ct_31, ct_32, ct_40, ct_41, ct_42, ct_43, ct_44, ct_45, ct_46, ct_47, ct_48, ct_49, ct_50, ct_51, ct_52, ct_53, ct_54, ct_55, ct_56, ct_57, ct_58, ct_59, ct_60, ki_m1, ki_0, ki_1, ki_2, ki_3, ki_4, ki_5, kb_m2, kb_m3, kb_m4, kb_m8, kb_m9, kb_10, kb_100, kb_16, kb_36, kb_6, kb_63, kb_8, kb_9, kb_99, ks_216, ks_2520, ks_256, ks_800, kl_0, kl_1, ↓reduceIte, reduceCtorEq, Nat.reduceAdd, Nat.reduceLT, Nat.reduceLeDiff, Nat.reduceEqDiff, List.map_cons, List.map_nil, List.sum_cons, List.sum_nil, List.cons_append, List.nil_append, Option.toList_some, Option.toList_none, true_and, and_true, true_or, or_true, not_true_eq_false, not_false_eq_true, Nat.lt_add_one, Nat.zero_le, eq_self, or_false, false_or, implies_true, forall_const, false_implies, forall_false, true_implies, and_self, Nat.zero_lt_one, Nat.add_zero, Nat.zero_add, Int32.reduceLT, Int32.reduceLE, Int32.reduceAdd, Int32.reduceSub, Int32.reduceMul, e10, e01, ite_self, ab_mx, ab_mi, ab_mb, ab_ml2, rX7_inLeastTerms_5, rX7_inLeastTerms_7, rX7_inLeastTerms_9, rX7_inLeastTerms_10, rX7_inLeastTerms_11, rX7_inLeastTerms_14, rX7_inLeastTerms_16, rX7_inLeastTerms_19, rX7_inLeastTerms_20, rX7_inLeastTerms_23, rX7_inLeastTerms_24, rX7_inLeastTerms_25, rX7_inLeastTerms_27, rX7_inLeastTerms_30, rX7_inLeastTerms_31, rX7_inLeastTerms_34, rX7_inLeastTerms_35, rX7_inLeastTerms_37, rX7_inLeastTerms_38, yz, lg_cmp_ge, c]
    exact F
  | false =>
    have F := hP (b / y) (by rw [i64_div (by omega) (by omega), hy]; rfl)
    simp only [ab_loc, ab_cat, ab_kil, ab_al, ab_ln, ab_lnp, ab_rf, sh_0, sh_1, sh_2, sh_3, sh_4, sh_5, sh_6, sh_7, sh_8, sh_9, sh_10, sh_11, sh_12, sh_13, sh_14, sh_20, sh_21, sh_22, sh_23, sh_24, sh_25, sh_30, sh_31, sh_32, sh_40, sh_41, sh_42, sh_43, sh_44, sh_45, sh_46, sh_47, sh_48, sh_49, sh_50, sh_51, sh_52, sh_53, sh_54, sh_55, sh_56, sh_57, sh_58, sh_59, sh_60, ct_0, ct_1, ct_2, ct_3, ct_4, ct_5, ct_6, ct_7, ct_8, ct_9, ct_10, ct_11, ct_12, ct_13, ct_14, ct_20, ct_21, ct_22, ct_23, ct_24, ct_25, ct_30, ct_31, ct_32, ct_40, ct_41, ct_42, ct_43, ct_44, ct_45, ct_46, ct_47, ct_48, ct_49, ct_50, ct_51, ct_52, ct_53, ct_54, ct_55, ct_56, ct_57, ct_58, ct_59, ct_60, ki_m1, ki_0, ki_1, ki_2, ki_3, ki_4, ki_5, kb_m2, kb_m3, kb_m4, kb_m8, kb_m9, kb_10, kb_100, kb_16, kb_36, kb_6, kb_63, kb_8, kb_9, kb_99, ks_216, ks_2520, ks_256, ks_800, kl_0, kl_1, ↓reduceIte, reduceCtorEq, Nat.reduceAdd, Nat.reduceLT, Nat.reduceLeDiff, Nat.reduceEqDiff, List.map_cons, List.map_nil, List.sum_cons, List.sum_nil, List.cons_append, List.nil_append, Option.toList_some, Option.toList_none, true_and, and_true, true_or, or_true, not_true_eq_false, not_false_eq_true, Nat.lt_add_one, Nat.zero_le, eq_self, or_false, false_or, implies_true, forall_const, false_implies, forall_false, true_implies, and_self, Nat.zero_lt_one, Nat.add_zero, Nat.zero_add, Int32.reduceLT, Int32.reduceLE, Int32.reduceAdd, Int32.reduceSub, Int32.reduceMul, e10, e01, ite_self, ab_mx, ab_mi, ab_mb, ab_ml2, rX7_inLeastTerms_5, rX7_inLeastTerms_7, rX7_inLeastTerms_9, rX7_inLeastTerms_10, rX7_inLeastTerms_11, rX7_inLeastTerms_14, rX7_inLeastTerms_16, rX7_inLeastTerms_19, rX7_inLeastTerms_20, rX7_inLeastTerms_23, rX7_inLeastTerms_24, rX7_inLeastTerms_25, rX7_inLeastTerms_27, rX7_inLeastTerms_30, rX7_inLeastTerms_31, rX7_inLeastTerms_34, rX7_inLeastTerms_35, rX7_inLeastTerms_37, rX7_inLeastTerms_38, yz, lg_cmp_ge, c, Bool.false_eq_true]
    exact F
/-! the square of a sum -/
theorem cs_a {g : Nat → Int} {x : Int} : ∀ {n : Nat}, isum (fun i => (g i - x) * (g i - x)) n = isum (sqf g) n - 2 * x * isum g n + n * (x * x)
  | 0 => by simp [isum]
  | n + 1 => by
    have ih := cs_a (g := g) (x := x) (n := n)
    show isum (fun i => (g i - x) * (g i - x)) n + (g n - x) * (g n - x) = isum (sqf g) n + g n * g n - 2 * x * (isum g n + g n) + ((n + 1 : Nat) : Int) * (x * x)
    rw [ih]
    have e1 : (g n - x) * (g n - x) = g n * g n - 2 * x * g n + x * x := by
      rw [Int.sub_mul, Int.mul_sub, Int.mul_sub, Int.mul_comm x (g n), Int.mul_assoc 2 x (g n), Int.mul_comm x (g n)]
      omega
    have e2 : 2 * x * (isum g n + g n) = 2 * x * isum g n + 2 * x * g n := Int.mul_add _ _ _
    have e3 : ((n + 1 : Nat) : Int) * (x * x) = n * (x * x) + x * x := by rw [Int.natCast_add, Int.add_mul]; simp
    rw [e1, e2, e3]
    omega
theorem cs_p {g : Nat → Int} {x : Int} {n : Nat} : 0 ≤ isum (fun i => (g i - x) * (g i - x)) n := by
  induction n with
  | zero => exact Int.le_refl 0
  | succ n ih =>
    show 0 ≤ isum (fun i => (g i - x) * (g i - x)) n + (g n - x) * (g n - x)
    have : 0 ≤ (g n - x) * (g n - x) := by
      rcases Int.le_total 0 (g n - x) with h | h
      · exact Int.mul_nonneg h h
      · have := Int.mul_nonneg_of_nonpos_of_nonpos h h
        exact this
    omega
theorem cs_i {g : Nat → Int} : ∀ {n : Nat}, isum g n * isum g n ≤ n * isum (sqf g) n
  | 0 => by simp [isum]
  | n + 1 => by
    have ih := cs_i (g := g) (n := n)
    have p := cs_p (g := g) (x := g n) (n := n)
    rw [cs_a] at p
    show (isum g n + g n) * (isum g n + g n) ≤ ((n + 1 : Nat) : Int) * (isum (sqf g) n + g n * g n)
    have e1 : (isum g n + g n) * (isum g n + g n) = isum g n * isum g n + 2 * g n * isum g n + g n * g n := by
      rw [Int.add_mul, Int.mul_add, Int.mul_add, Int.mul_comm (isum g n) (g n), Int.mul_assoc 2]
      omega
    have e2 : ((n + 1 : Nat) : Int) * (isum (sqf g) n + g n * g n) = n * isum (sqf g) n + n * (g n * g n) + isum (sqf g) n + g n * g n := by
      rw [Int.natCast_add, Int.add_mul, Int.mul_add]
      simp
      omega
    rw [e1, e2]
    omega
