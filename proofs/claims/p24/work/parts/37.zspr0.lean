/-! spread: the families of a part, how many, their sum, the sum of their squares -/
def cnf (m : Nat → Int32) (p : Int32) (j : Nat) : Int := if m j = p then 1 else 0
def smf (m g : Nat → Int32) (p : Int32) (j : Nat) : Int := if m j = p then (g j).toInt else 0
def sqp (m g : Nat → Int32) (p : Int32) (j : Nat) : Int := if m j = p then (g j).toInt * (g j).toInt else 0
theorem cn_b {m : Nat → Int32} {p : Int32} {j : Nat} : 0 ≤ cnf m p j ∧ cnf m p j ≤ 1 := by
  unfold cnf
  split <;> omega
theorem sm_b {m g : Nat → Int32} {p : Int32} {j : Nat} (h : 0 ≤ (g j).toInt ∧ (g j).toInt ≤ 99) : 0 ≤ smf m g p j ∧ smf m g p j ≤ 99 := by
  unfold smf
  split <;> omega
theorem sqp_b {m g : Nat → Int32} {p : Int32} {j : Nat} (h : 0 ≤ (g j).toInt ∧ (g j).toInt ≤ 99) : 0 ≤ sqp m g p j ∧ sqp m g p j ≤ 9801 := by
  unfold sqp
  split
  · exact sq_b (g := tI g) h
  · omega
set_option maxRecDepth 100000 in
theorem sX5_familiesOf {σ : ab_S} {P : ab_P} {i : Nat} {p : Int32} (hi : i < 4) (hr : rg_R σ) (hP : ∀ y : Int32, y.toInt = isum (cnf (σ.1 24 i) p) (σ.1 20 i 0).toInt.toNat → P (some (.inl (.inl y))) σ) : ab_sp mX5_familiesOf cX5_familiesOf [.inr (some (20, i)), .inl (.inl p)] σ P := by
  have hn : 0 ≤ (σ.1 20 i 0).toInt ∧ (σ.1 20 i 0).toInt ≤ 8 := hr 20 i 0
  have key : ∀ (m : Nat) (f a : Int32), ((σ.1 20 i 0).toInt - f.toInt).toNat = m → 0 ≤ f.toInt → f.toInt ≤ (σ.1 20 i 0).toInt → a.toInt = isum (cnf (σ.1 24 i) p) f.toInt.toNat → ab_wp mX5_familiesOf cX5_familiesOf none P 4 [some (.inr (some (20, i))), some (.inl (.inl p)), some (.inl (.inl a)), some (.inl (.inl f))] [] σ := by
    intro m
    induction m with
    | zero =>
      intro f a em f0 f1 ha
      have c2 : σ.1 20 i 0 ≤ f := Int32.le_iff_toInt_le.mpr (by omega)
      rw [show f.toInt.toNat = (σ.1 20 i 0).toInt.toNat by omega] at ha
      have F := hP a ha
      rw [rX5_familiesOf_4]
      simp only [ab_loc, ab_cat, ab_kil, ab_al, ab_ln, ab_lnp, ab_rf, sh_0, sh_1, sh_2, sh_3, sh_4, sh_5, sh_6, sh_7, sh_8, sh_9, sh_10, sh_11, sh_12, sh_13, sh_14, sh_20, sh_21, sh_22, sh_23, sh_24, sh_25, sh_30, sh_31, sh_32, sh_40, sh_41, sh_42, sh_43, sh_44, sh_45, sh_46, sh_47, sh_48, sh_49, sh_50, sh_51, sh_52, sh_53, sh_54, sh_55, sh_56, sh_57, sh_58, sh_59, sh_60, ct_0, ct_1, ct_2, ct_3, ct_4, ct_5, ct_6, ct_7, ct_8, ct_9, ct_10, ct_11, ct_12, ct_13, ct_14, ct_20, ct_21, ct_22, ct_23, ct_24, ct_25, ct_30, ct_31, ct_32, ct_40, ct_41, ct_42, ct_43, ct_44, ct_45, ct_46, ct_47, ct_48, ct_49, ct_50, ct_51, ct_52, ct_53, ct_54, ct_55, ct_56, ct_57, ct_58, ct_59, ct_60, ki_m1, ki_0, ki_1, ki_2, ki_3, ki_4, ki_5, kb_m2, kb_m3, kb_m4, kb_m8, kb_m9, kb_10, kb_100, kb_16, kb_36, kb_6, kb_63, kb_8, kb_9, kb_99, ks_216, ks_2520, ks_256, ks_800, kl_0, kl_1, ↓reduceIte, reduceCtorEq, Nat.reduceAdd, Nat.reduceLT, Nat.reduceLeDiff, Nat.reduceEqDiff, List.map_cons, List.map_nil, List.sum_cons, List.sum_nil, List.cons_append, List.nil_append, Option.toList_some, Option.toList_none, true_and, and_true, true_or, or_true, not_true_eq_false, not_false_eq_true, Nat.lt_add_one, Nat.zero_le, eq_self, or_false, false_or, implies_true, forall_const, false_implies, forall_false, true_implies, and_self, Nat.zero_lt_one, Nat.add_zero, Nat.zero_add, Int32.reduceLT, Int32.reduceLE, Int32.reduceAdd, Int32.reduceSub, Int32.reduceMul, e10, e01, ite_self, ab_mx, ab_mi, ab_mb, ab_ml2, rX5_familiesOf_5, rX5_familiesOf_6, rX5_familiesOf_9, rX5_familiesOf_12, rX5_familiesOf_13, rX5_familiesOf_16, rX5_familiesOf_17, rX5_familiesOf_18, rX5_familiesOf_19, rX5_familiesOf_22, rX5_familiesOf_25, rX5_familiesOf_28, rX5_familiesOf_31, rX5_familiesOf_32, c2, hi]
      exact F
    | succ m ih =>
      intro f a em f0 f1 ha
      have c2 : ¬ σ.1 20 i 0 ≤ f := fun q => by have q := le32 q; omega
      have vf : vp_in f 8 := vp_of f0 (by omega)
      have ef : (f + 1).toInt = f.toInt + 1 := i32_p1 (by omega)
      have K := fun a => ih (f + 1) a (by omega) (by omega) (by omega)
      rw [show (f + 1).toInt.toNat = f.toInt.toNat + 1 by omega] at K
      have bd := isum_b (g := cnf (σ.1 24 i) p) (c := 1) (n := f.toInt.toNat) (fun _ _ => cn_b)
      have e : cnf (σ.1 24 i) p f.toInt.toNat = if σ.1 24 i f.toNatClampNeg = p then 1 else 0 := rfl
      rw [rX5_familiesOf_4]
      by_cases c : σ.1 24 i f.toNatClampNeg = p
      · have K1 := K (a + 1) (by
          show _ = isum (cnf (σ.1 24 i) p) f.toInt.toNat + cnf (σ.1 24 i) p f.toInt.toNat
          rw [e, if_pos c, i32_p1 (by omega), ha])
        simp only [ab_loc, ab_cat, ab_kil, ab_al, ab_ln, ab_lnp, ab_rf, sh_0, sh_1, sh_2, sh_3, sh_4, sh_5, sh_6, sh_7, sh_8, sh_9, sh_10, sh_11, sh_12, sh_13, sh_14, sh_20, sh_21, sh_22, sh_23, sh_24, sh_25, sh_30, sh_31, sh_32, sh_40, sh_41, sh_42, sh_43, sh_44, sh_45, sh_46, sh_47, sh_48, sh_49, sh_50, sh_51, sh_52, sh_53, sh_54, sh_55, sh_56, sh_57, sh_58, sh_59, sh_60, ct_0, ct_1, ct_2, ct_3, ct_4, ct_5, ct_6, ct_7, ct_8, ct_9, ct_10, ct_11, ct_12, ct_13, ct_14, ct_20, ct_21, ct_22, ct_23, ct_24, ct_25, ct_30, ct_31, ct_32, ct_40, ct_41, ct_42, ct_43, ct_44, ct_45, ct_46, ct_47, ct_48, ct_49, ct_50, ct_51, ct_52, ct_53, ct_54, ct_55, ct_56, ct_57, ct_58, ct_59, ct_60, ki_m1, ki_0, ki_1, ki_2, ki_3, ki_4, ki_5, kb_m2, kb_m3, kb_m4, kb_m8, kb_m9, kb_10, kb_100, kb_16, kb_36, kb_6, kb_63, kb_8, kb_9, kb_99, ks_216, ks_2520, ks_256, ks_800, kl_0, kl_1, ↓reduceIte, reduceCtorEq, Nat.reduceAdd, Nat.reduceLT, Nat.reduceLeDiff, Nat.reduceEqDiff, List.map_cons, List.map_nil, List.sum_cons, List.sum_nil, List.cons_append, List.nil_append, Option.toList_some, Option.toList_none, true_and, and_true, true_or, or_true, not_true_eq_false, not_false_eq_true, Nat.lt_add_one, Nat.zero_le, eq_self, or_false, false_or, implies_true, forall_const, false_implies, forall_false, true_implies, and_self, Nat.zero_lt_one, Nat.add_zero, Nat.zero_add, Int32.reduceLT, Int32.reduceLE, Int32.reduceAdd, Int32.reduceSub, Int32.reduceMul, e10, e01, ite_self, ab_mx, ab_mi, ab_mb, ab_ml2, rX5_familiesOf_5, rX5_familiesOf_6, rX5_familiesOf_9, rX5_familiesOf_12, rX5_familiesOf_13, rX5_familiesOf_16, rX5_familiesOf_17, rX5_familiesOf_18, rX5_familiesOf_19, rX5_familiesOf_22, rX5_familiesOf_25, rX5_familiesOf_28, c2, vf, hi, c]
        exact K1
      · have K1 := K a (by
          show _ = isum (cnf (σ.1 24 i) p) f.toInt.toNat + cnf (σ.1 24 i) p f.toInt.toNat
          rw [e, if_neg c, ha]; omega)
        simp only [ab_loc, ab_cat, ab_kil, ab_al, ab_ln, ab_lnp, ab_rf, sh_0, sh_1, sh_2, sh_3, sh_4, sh_5, sh_6, sh_7, sh_8, sh_9, sh_10, sh_11, sh_12, sh_13, sh_14, sh_20, sh_21, sh_22, sh_23, sh_24, sh_25, sh_30, sh_31, sh_32, sh_40, sh_41, sh_42, sh_43, sh_44, sh_45, sh_46, sh_47, sh_48, sh_49, sh_50, sh_51, sh_52, sh_53, sh_54, sh_55, sh_56, sh_57, sh_58, sh_59, sh_60, ct_0, ct_1, ct_2, ct_3, ct_4, ct_5, ct_6, ct_7, ct_8, ct_9, ct_10, ct_11, ct_12, ct_13, ct_14, ct_20, ct_21, ct_22, ct_23, ct_24, ct_25, ct_30, ct_31, ct_32, ct_40, ct_41, ct_42, ct_43, ct_44, ct_45, ct_46, ct_47, ct_48, ct_49, ct_50, ct_51, ct_52, ct_53, ct_54, ct_55, ct_56, ct_57, ct_58, ct_59, ct_60, ki_m1, ki_0, ki_1, ki_2, ki_3, ki_4, ki_5, kb_m2, kb_m3, kb_m4, kb_m8, kb_m9, kb_10, kb_100, kb_16, kb_36, kb_6, kb_63, kb_8, kb_9, kb_99, ks_216, ks_2520, ks_256, ks_800, kl_0, kl_1, ↓reduceIte, reduceCtorEq, Nat.reduceAdd, Nat.reduceLT, Nat.reduceLeDiff, Nat.reduceEqDiff, List.map_cons, List.map_nil, List.sum_cons, List.sum_nil, List.cons_append, List.nil_append, Option.toList_some, Option.toList_none, true_and, and_true, true_or, or_true, not_true_eq_false, not_false_eq_true, Nat.lt_add_one, Nat.zero_le, eq_self, or_false, false_or, implies_true, forall_const, false_implies, forall_false, true_implies, and_self, Nat.zero_lt_one, Nat.add_zero, Nat.zero_add, Int32.reduceLT, Int32.reduceLE, Int32.reduceAdd, Int32.reduceSub, Int32.reduceMul, e10, e01, ite_self, ab_mx, ab_mi, ab_mb, ab_ml2, rX5_familiesOf_5, rX5_familiesOf_6, rX5_familiesOf_9, rX5_familiesOf_12, rX5_familiesOf_13, rX5_familiesOf_16, rX5_familiesOf_17, rX5_familiesOf_18, rX5_familiesOf_19, rX5_familiesOf_22, rX5_familiesOf_25, rX5_familiesOf_28, c2, vf, hi, c]
        exact K1
  have K := key (σ.1 20 i 0).toInt.toNat 0 0 (by rw [t0i]; omega) (by decide) (by rw [t0i]; exact hn.1) rfl
  simp only [ab_loc, ab_cat, ab_kil, ab_al, ab_ln, ab_lnp, ab_rf, sh_0, sh_1, sh_2, sh_3, sh_4, sh_5, sh_6, sh_7, sh_8, sh_9, sh_10, sh_11, sh_12, sh_13, sh_14, sh_20, sh_21, sh_22, sh_23, sh_24, sh_25, sh_30, sh_31, sh_32, sh_40, sh_41, sh_42, sh_43, sh_44, sh_45, sh_46, sh_47, sh_48, sh_49, sh_50, sh_51, sh_52, sh_53, sh_54, sh_55, sh_56, sh_57, sh_58, sh_59, sh_60, ct_0, ct_1, ct_2, ct_3, ct_4, ct_5, ct_6, ct_7, ct_8, ct_9, ct_10, ct_11, ct_12, ct_13, ct_14, ct_20, ct_21, ct_22, ct_23, ct_24, ct_25, ct_30, ct_31, ct_32, ct_40, ct_41, ct_42, ct_43, ct_44, ct_45, ct_46, ct_47, ct_48, ct_49, ct_50, ct_51, ct_52, ct_53, ct_54, ct_55, ct_56, ct_57, ct_58, ct_59, ct_60, ki_m1, ki_0, ki_1, ki_2, ki_3, ki_4, ki_5, kb_m2, kb_m3, kb_m4, kb_m8, kb_m9, kb_10, kb_100, kb_16, kb_36, kb_6, kb_63, kb_8, kb_9, kb_99, ks_216, ks_2520, ks_256, ks_800, kl_0, kl_1, ↓reduceIte, reduceCtorEq, Nat.reduceAdd, Nat.reduceLT, Nat.reduceLeDiff, Nat.reduceEqDiff, List.map_cons, List.map_nil, List.sum_cons, List.sum_nil, List.cons_append, List.nil_append, Option.toList_some, Option.toList_none, true_and, and_true, true_or, or_true, not_true_eq_false, not_false_eq_true, Nat.lt_add_one, Nat.zero_le, eq_self, or_false, false_or, implies_true, forall_const, false_implies, forall_false, true_implies, and_self, Nat.zero_lt_one, Nat.add_zero, Nat.zero_add, Int32.reduceLT, Int32.reduceLE, Int32.reduceAdd, Int32.reduceSub, Int32.reduceMul, e10, e01, ite_self, ab_mx, ab_mi, ab_mb, ab_ml2, uX5_familiesOf, rX5_familiesOf_0, rX5_familiesOf_1, rX5_familiesOf_2, rX5_familiesOf_3]
  exact K
set_option maxRecDepth 100000 in
theorem sX5_sumOfPart {σ : ab_S} {P : ab_P} {i : Nat} {p : Int32} (hi : i < 4) (hr : rg_R σ) (hg : ∀ j : Nat, (j : Int) < (σ.1 20 i 0).toInt → 0 ≤ (σ.1 21 i j).toInt ∧ (σ.1 21 i j).toInt ≤ 99) (hP : ∀ y : Int32, y.toInt = isum (smf (σ.1 24 i) (σ.1 21 i) p) (σ.1 20 i 0).toInt.toNat → P (some (.inl (.inl y))) σ) : ab_sp mX5_sumOfPart cX5_sumOfPart [.inr (some (20, i)), .inl (.inl p)] σ P := by
  have hn : 0 ≤ (σ.1 20 i 0).toInt ∧ (σ.1 20 i 0).toInt ≤ 8 := hr 20 i 0
  have key : ∀ (m : Nat) (f a : Int32), ((σ.1 20 i 0).toInt - f.toInt).toNat = m → 0 ≤ f.toInt → f.toInt ≤ (σ.1 20 i 0).toInt → a.toInt = isum (smf (σ.1 24 i) (σ.1 21 i) p) f.toInt.toNat → ab_wp mX5_sumOfPart cX5_sumOfPart none P 4 [some (.inr (some (20, i))), some (.inl (.inl p)), some (.inl (.inl a)), some (.inl (.inl f))] [] σ := by
    intro m
    induction m with
    | zero =>
      intro f a em f0 f1 ha
      have c2 : σ.1 20 i 0 ≤ f := Int32.le_iff_toInt_le.mpr (by omega)
      rw [show f.toInt.toNat = (σ.1 20 i 0).toInt.toNat by omega] at ha
      have F := hP a ha
      rw [rX5_sumOfPart_4]
      simp only [ab_loc, ab_cat, ab_kil, ab_al, ab_ln, ab_lnp, ab_rf, sh_0, sh_1, sh_2, sh_3, sh_4, sh_5, sh_6, sh_7, sh_8, sh_9, sh_10, sh_11, sh_12, sh_13, sh_14, sh_20, sh_21, sh_22, sh_23, sh_24, sh_25, sh_30, sh_31, sh_32, sh_40, sh_41, sh_42, sh_43, sh_44, sh_45, sh_46, sh_47, sh_48, sh_49, sh_50, sh_51, sh_52, sh_53, sh_54, sh_55, sh_56, sh_57, sh_58, sh_59, sh_60, ct_0, ct_1, ct_2, ct_3, ct_4, ct_5, ct_6, ct_7, ct_8, ct_9, ct_10, ct_11, ct_12, ct_13, ct_14, ct_20, ct_21, ct_22, ct_23, ct_24, ct_25, ct_30, ct_31, ct_32, ct_40, ct_41, ct_42, ct_43, ct_44, ct_45, ct_46, ct_47, ct_48, ct_49, ct_50, ct_51, ct_52, ct_53, ct_54, ct_55, ct_56, ct_57, ct_58, ct_59, ct_60, ki_m1, ki_0, ki_1, ki_2, ki_3, ki_4, ki_5, kb_m2, kb_m3, kb_m4, kb_m8, kb_m9, kb_10, kb_100, kb_16, kb_36, kb_6, kb_63, kb_8, kb_9, kb_99, ks_216, ks_2520, ks_256, ks_800, kl_0, kl_1, ↓reduceIte, reduceCtorEq, Nat.reduceAdd, Nat.reduceLT, Nat.reduceLeDiff, Nat.reduceEqDiff, List.map_cons, List.map_nil, List.sum_cons, List.sum_nil, List.cons_append, List.nil_append, Option.toList_some, Option.toList_none, true_and, and_true, true_or, or_true, not_true_eq_false, not_false_eq_true, Nat.lt_add_one, Nat.zero_le, eq_self, or_false, false_or, implies_true, forall_const, false_implies, forall_false, true_implies, and_self, Nat.zero_lt_one, Nat.add_zero, Nat.zero_add, Int32.reduceLT, Int32.reduceLE, Int32.reduceAdd, Int32.reduceSub, Int32.reduceMul, e10, e01, ite_self, ab_mx, ab_mi, ab_mb, ab_ml2, rX5_sumOfPart_5, rX5_sumOfPart_6, rX5_sumOfPart_9, rX5_sumOfPart_12, rX5_sumOfPart_13, rX5_sumOfPart_16, rX5_sumOfPart_17, rX5_sumOfPart_18, rX5_sumOfPart_19, rX5_sumOfPart_22, rX5_sumOfPart_23, rX5_sumOfPart_24, rX5_sumOfPart_27, rX5_sumOfPart_28, rX5_sumOfPart_29, rX5_sumOfPart_30, rX5_sumOfPart_31, rX5_sumOfPart_34, rX5_sumOfPart_37, rX5_sumOfPart_38, c2, hi]
      exact F
    | succ m ih =>
      intro f a em f0 f1 ha
      have c2 : ¬ σ.1 20 i 0 ≤ f := fun q => by have q := le32 q; omega
      have vf : vp_in f 8 := vp_of f0 (by omega)
      have ef : (f + 1).toInt = f.toInt + 1 := i32_p1 (by omega)
      have K := fun a => ih (f + 1) a (by omega) (by omega) (by omega)
      rw [show (f + 1).toInt.toNat = f.toInt.toNat + 1 by omega] at K
      have bd := isum_b (g := smf (σ.1 24 i) (σ.1 21 i) p) (c := 99) (n := f.toInt.toNat) (fun j hj => sm_b (hg j (by omega)))
      have hgf : 0 ≤ (σ.1 21 i f.toNatClampNeg).toInt ∧ (σ.1 21 i f.toNatClampNeg).toInt ≤ 99 := hg f.toInt.toNat (by omega)
      have e : smf (σ.1 24 i) (σ.1 21 i) p f.toInt.toNat = if σ.1 24 i f.toNatClampNeg = p then (σ.1 21 i f.toNatClampNeg).toInt else 0 := rfl
      rw [rX5_sumOfPart_4]
      by_cases c : σ.1 24 i f.toNatClampNeg = p
      · have K1 := K (a + σ.1 21 i f.toNatClampNeg) (by
          show _ = isum (smf (σ.1 24 i) (σ.1 21 i) p) f.toInt.toNat + smf (σ.1 24 i) (σ.1 21 i) p f.toInt.toNat
          rw [e, if_pos c, i32_add (by omega) (by omega), ha])
        simp only [ab_loc, ab_cat, ab_kil, ab_al, ab_ln, ab_lnp, ab_rf, sh_0, sh_1, sh_2, sh_3, sh_4, sh_5, sh_6, sh_7, sh_8, sh_9, sh_10, sh_11, sh_12, sh_13, sh_14, sh_20, sh_21, sh_22, sh_23, sh_24, sh_25, sh_30, sh_31, sh_32, sh_40, sh_41, sh_42, sh_43, sh_44, sh_45, sh_46, sh_47, sh_48, sh_49, sh_50, sh_51, sh_52, sh_53, sh_54, sh_55, sh_56, sh_57, sh_58, sh_59, sh_60, ct_0, ct_1, ct_2, ct_3, ct_4, ct_5, ct_6, ct_7, ct_8, ct_9, ct_10, ct_11, ct_12, ct_13, ct_14, ct_20, ct_21, ct_22, ct_23, ct_24, ct_25, ct_30, ct_31, ct_32, ct_40, ct_41, ct_42, ct_43, ct_44, ct_45, ct_46, ct_47, ct_48, ct_49, ct_50, ct_51, ct_52, ct_53, ct_54, ct_55, ct_56, ct_57, ct_58, ct_59, ct_60, ki_m1, ki_0, ki_1, ki_2, ki_3, ki_4, ki_5, kb_m2, kb_m3, kb_m4, kb_m8, kb_m9, kb_10, kb_100, kb_16, kb_36, kb_6, kb_63, kb_8, kb_9, kb_99, ks_216, ks_2520, ks_256, ks_800, kl_0, kl_1, ↓reduceIte, reduceCtorEq, Nat.reduceAdd, Nat.reduceLT, Nat.reduceLeDiff, Nat.reduceEqDiff, List.map_cons, List.map_nil, List.sum_cons, List.sum_nil, List.cons_append, List.nil_append, Option.toList_some, Option.toList_none, true_and, and_true, true_or, or_true, not_true_eq_false, not_false_eq_true, Nat.lt_add_one, Nat.zero_le, eq_self, or_false, false_or, implies_true, forall_const, false_implies, forall_false, true_implies, and_self, Nat.zero_lt_one, Nat.add_zero, Nat.zero_add, Int32.reduceLT, Int32.reduceLE, Int32.reduceAdd, Int32.reduceSub, Int32.reduceMul, e10, e01, ite_self, ab_mx, ab_mi, ab_mb, ab_ml2, rX5_sumOfPart_5, rX5_sumOfPart_6, rX5_sumOfPart_9, rX5_sumOfPart_12, rX5_sumOfPart_13, rX5_sumOfPart_16, rX5_sumOfPart_17, rX5_sumOfPart_18, rX5_sumOfPart_19, rX5_sumOfPart_22, rX5_sumOfPart_23, rX5_sumOfPart_24, rX5_sumOfPart_27, rX5_sumOfPart_28, rX5_sumOfPart_29, rX5_sumOfPart_30, rX5_sumOfPart_31, rX5_sumOfPart_34, c2, vf, hi, c]
        exact K1
      · have K1 := K a (by
          show _ = isum (smf (σ.1 24 i) (σ.1 21 i) p) f.toInt.toNat + smf (σ.1 24 i) (σ.1 21 i) p f.toInt.toNat
          rw [e, if_neg c, ha]; omega)
        simp only [ab_loc, ab_cat, ab_kil, ab_al, ab_ln, ab_lnp, ab_rf, sh_0, sh_1, sh_2, sh_3, sh_4, sh_5, sh_6, sh_7, sh_8, sh_9, sh_10, sh_11, sh_12, sh_13, sh_14, sh_20, sh_21, sh_22, sh_23, sh_24, sh_25, sh_30, sh_31, sh_32, sh_40, sh_41, sh_42, sh_43, sh_44, sh_45, sh_46, sh_47, sh_48, sh_49, sh_50, sh_51, sh_52, sh_53, sh_54, sh_55, sh_56, sh_57, sh_58, sh_59, sh_60, ct_0, ct_1, ct_2, ct_3, ct_4, ct_5, ct_6, ct_7, ct_8, ct_9, ct_10, ct_11, ct_12, ct_13, ct_14, ct_20, ct_21, ct_22, ct_23, ct_24, ct_25, ct_30, ct_31, ct_32, ct_40, ct_41, ct_42, ct_43, ct_44, ct_45, ct_46, ct_47, ct_48, ct_49, ct_50, ct_51, ct_52, ct_53, ct_54, ct_55, ct_56, ct_57, ct_58, ct_59, ct_60, ki_m1, ki_0, ki_1, ki_2, ki_3, ki_4, ki_5, kb_m2, kb_m3, kb_m4, kb_m8, kb_m9, kb_10, kb_100, kb_16, kb_36, kb_6, kb_63, kb_8, kb_9, kb_99, ks_216, ks_2520, ks_256, ks_800, kl_0, kl_1, ↓reduceIte, reduceCtorEq, Nat.reduceAdd, Nat.reduceLT, Nat.reduceLeDiff, Nat.reduceEqDiff, List.map_cons, List.map_nil, List.sum_cons, List.sum_nil, List.cons_append, List.nil_append, Option.toList_some, Option.toList_none, true_and, and_true, true_or, or_true, not_true_eq_false, not_false_eq_true, Nat.lt_add_one, Nat.zero_le, eq_self, or_false, false_or, implies_true, forall_const, false_implies, forall_false, true_implies, and_self, Nat.zero_lt_one, Nat.add_zero, Nat.zero_add, Int32.reduceLT, Int32.reduceLE, Int32.reduceAdd, Int32.reduceSub, Int32.reduceMul, e10, e01, ite_self, ab_mx, ab_mi, ab_mb, ab_ml2, rX5_sumOfPart_5, rX5_sumOfPart_6, rX5_sumOfPart_9, rX5_sumOfPart_12, rX5_sumOfPart_13, rX5_sumOfPart_16, rX5_sumOfPart_17, rX5_sumOfPart_18, rX5_sumOfPart_19, rX5_sumOfPart_22, rX5_sumOfPart_23, rX5_sumOfPart_24, rX5_sumOfPart_27, rX5_sumOfPart_28, rX5_sumOfPart_29, rX5_sumOfPart_30, rX5_sumOfPart_31, rX5_sumOfPart_34, c2, vf, hi, c]
        exact K1
  have K := key (σ.1 20 i 0).toInt.toNat 0 0 (by rw [t0i]; omega) (by decide) (by rw [t0i]; exact hn.1) rfl
  simp only [ab_loc, ab_cat, ab_kil, ab_al, ab_ln, ab_lnp, ab_rf, sh_0, sh_1, sh_2, sh_3, sh_4, sh_5, sh_6, sh_7, sh_8, sh_9, sh_10, sh_11, sh_12, sh_13, sh_14, sh_20, sh_21, sh_22, sh_23, sh_24, sh_25, sh_30, sh_31, sh_32, sh_40, sh_41, sh_42, sh_43, sh_44, sh_45, sh_46, sh_47, sh_48, sh_49, sh_50, sh_51, sh_52, sh_53, sh_54, sh_55, sh_56, sh_57, sh_58, sh_59, sh_60, ct_0, ct_1, ct_2, ct_3, ct_4, ct_5, ct_6, ct_7, ct_8, ct_9, ct_10, ct_11, ct_12, ct_13, ct_14, ct_20, ct_21, ct_22, ct_23, ct_24, ct_25, ct_30, ct_31, ct_32, ct_40, ct_41, ct_42, ct_43, ct_44, ct_45, ct_46, ct_47, ct_48, ct_49, ct_50, ct_51, ct_52, ct_53, ct_54, ct_55, ct_56, ct_57, ct_58, ct_59, ct_60, ki_m1, ki_0, ki_1, ki_2, ki_3, ki_4, ki_5, kb_m2, kb_m3, kb_m4, kb_m8, kb_m9, kb_10, kb_100, kb_16, kb_36, kb_6, kb_63, kb_8, kb_9, kb_99, ks_216, ks_2520, ks_256, ks_800, kl_0, kl_1, ↓reduceIte, reduceCtorEq, Nat.reduceAdd, Nat.reduceLT, Nat.reduceLeDiff, Nat.reduceEqDiff, List.map_cons, List.map_nil, List.sum_cons, List.sum_nil, List.cons_append, List.nil_append, Option.toList_some, Option.toList_none, true_and, and_true, true_or, or_true, not_true_eq_false, not_false_eq_true, Nat.lt_add_one, Nat.zero_le, eq_self, or_false, false_or, implies_true, forall_const, false_implies, forall_false, true_implies, and_self, Nat.zero_lt_one, Nat.add_zero, Nat.zero_add, Int32.reduceLT, Int32.reduceLE, Int32.reduceAdd, Int32.reduceSub, Int32.reduceMul, e10, e01, ite_self, ab_mx, ab_mi, ab_mb, ab_ml2, uX5_sumOfPart, rX5_sumOfPart_0, rX5_sumOfPart_1, rX5_sumOfPart_2, rX5_sumOfPart_3]
  exact K
set_option maxRecDepth 100000 in
set_option maxHeartbeats 400000 in
theorem sX8_takePartF {σ1 σ : ab_S} {P : ab_P} {x1 p : Int32} {M G : Nat → Int32} {N : Nat} (hJ : ck_J 7 σ1 σ) (l1 : 0 ≤ x1.toInt) (m1 : x1.toInt ≤ 3) (eN : (σ.1 41 0 x1.toNatClampNeg).toInt = N) (eM : ∀ j, j < N → σ.1 45 0 (8 * x1.toNatClampNeg + j) = M j) (eG : ∀ j, j < N → σ.1 42 0 (8 * x1.toNatClampNeg + j) = G j) (hG : ∀ j, j < N → 0 ≤ (G j).toInt ∧ (G j).toInt ≤ 99) (hP : ∀ σ', ck_J 7 σ1 σ' → rw_H σ' → (σ'.1 40 0 17).toInt = isum (cnf M p) N → isum (tI (σ'.1 56 0)) (σ'.1 40 0 17).toInt.toNat = isum (smf M G p) N → isum (sqf (tI (σ'.1 56 0))) (σ'.1 40 0 17).toInt.toNat = isum (sqp M G p) N → P none σ') : ab_sp mX8_takePart cX8_takePart [.inr (some (40, 0)), .inl (.inl x1), .inl (.inl p)] σ P := by
  have e8 : (8 : Int32).toInt = 8 := rfl
  have et : (8 * x1).toInt = 8 * x1.toInt := by rw [i32_mul (by rw [e8]; omega) (by rw [e8]; omega), e8]
  have hv : vp_in x1 4 := vp_of l1 (by omega)
  have hm : 0 ≤ (σ.1 41 0 x1.toNatClampNeg).toInt ∧ (σ.1 41 0 x1.toNatClampNeg).toInt ≤ 8 := hJ.1 41 0 x1.toNatClampNeg
  have es : (8 * x1 + σ.1 41 0 x1.toNatClampNeg).toInt = 8 * x1.toInt + N := by rw [i32_add (by omega) (by omega), et, eN]
  have key : ∀ (n k : Nat) (f : Int32) (c : ab_S), k + n = N → f.toInt = 8 * x1.toInt + k → ck_J 7 σ1 c → c.1 41 0 x1.toNatClampNeg = σ.1 41 0 x1.toNatClampNeg → (∀ j, c.1 42 0 j = σ.1 42 0 j) → (∀ j, c.1 45 0 j = σ.1 45 0 j) → rw_H c → (c.1 40 0 17).toInt = isum (cnf M p) k → isum (tI (c.1 56 0)) (c.1 40 0 17).toInt.toNat = isum (smf M G p) k → isum (sqf (tI (c.1 56 0))) (c.1 40 0 17).toInt.toNat = isum (sqp M G p) k → ab_wp mX8_takePart cX8_takePart none P 10 [some (.inr (some (40, 0))), some (.inl (.inl x1)), some (.inl (.inl p)), some (.inl (.inl f))] [] c := by
    intro n
    induction n with
    | zero =>
      intro k f c en ef hc e41 e42 e45 hh h1 h2 h3
      have ek : k = N := by omega
      rw [ek] at h1 h2 h3 ef
      have c2 : 8 * x1 + σ.1 41 0 x1.toNatClampNeg ≤ f := Int32.le_iff_toInt_le.mpr (by rw [es, ef]; exact Int.le_refl _)
      have F := hP c hc hh h1 h2 h3
      rw [rX8_takePart_10]
      simp only [ab_loc, ab_cat, ab_kil, ab_al, ab_ln, ab_lnp, ab_rf, sh_0, sh_1, sh_2, sh_3, sh_4, sh_5, sh_6, sh_7, sh_8, sh_9, sh_10, sh_11, sh_12, sh_13, sh_14, sh_20, sh_21, sh_22, sh_23, sh_24, sh_25, sh_30, sh_31, sh_32, sh_40, sh_41, sh_42, sh_43, sh_44, sh_45, sh_46, sh_47, sh_48, sh_49, sh_50, sh_51, sh_52, sh_53, sh_54, sh_55, sh_56, sh_57, sh_58, sh_59, sh_60, ct_0, ct_1, ct_2, ct_3, ct_4, ct_5, ct_6, ct_7, ct_8, ct_9, ct_10, ct_11, ct_12, ct_13, ct_14, ct_20, ct_21, ct_22, ct_23, ct_24, ct_25, ct_30, ct_31, ct_32, ct_40, ct_41, ct_42, ct_43, ct_44, ct_45, ct_46, ct_47, ct_48, ct_49, ct_50, ct_51, ct_52, ct_53, ct_54, ct_55, ct_56, ct_57, ct_58, ct_59, ct_60, ki_m1, ki_0, ki_1, ki_2, ki_3, ki_4, ki_5, kb_m2, kb_m3, kb_m4, kb_m8, kb_m9, kb_10, kb_100, kb_16, kb_36, kb_6, kb_63, kb_8, kb_9, kb_99, ks_216, ks_2520, ks_256, ks_800, kl_0, kl_1, ↓reduceIte, reduceCtorEq, Nat.reduceAdd, Nat.reduceLT, Nat.reduceLeDiff, Nat.reduceEqDiff, List.map_cons, List.map_nil, List.sum_cons, List.sum_nil, List.cons_append, List.nil_append, Option.toList_some, Option.toList_none, true_and, and_true, true_or, or_true, not_true_eq_false, not_false_eq_true, Nat.lt_add_one, Nat.zero_le, eq_self, or_false, false_or, implies_true, forall_const, false_implies, forall_false, true_implies, and_self, Nat.zero_lt_one, Nat.add_zero, Nat.zero_add, Int32.reduceLT, Int32.reduceLE, Int32.reduceAdd, Int32.reduceSub, Int32.reduceMul, e10, e01, ite_self, ab_mx, ab_mi, ab_mb, ab_ml2, rX8_takePart_11, rX8_takePart_13, rX8_takePart_14, rX8_takePart_15, rX8_takePart_16, rX8_takePart_19, rX8_takePart_20, rX8_takePart_21, rX8_takePart_22, rX8_takePart_66, hv, e41, c2]
      exact F
    | succ n ih =>
      intro k f c en ef hc e41 e42 e45 hh h1 h2 h3
      have c2 : ¬ 8 * x1 + σ.1 41 0 x1.toNatClampNeg ≤ f := fun q => by have q := le32 q; rw [es, ef] at q; omega
      have ei : f.toNatClampNeg = 8 * x1.toNatClampNeg + k := by
        show f.toInt.toNat = 8 * x1.toInt.toNat + k
        omega
      have m45 : c.1 45 0 f.toNatClampNeg = M k := by rw [e45, ei]; exact eM k (by omega)
      have m42 : c.1 42 0 f.toNatClampNeg = G k := by rw [e42, ei]; exact eG k (by omega)
      have bd := isum_b (g := cnf M p) (c := 1) (n := k) (fun _ _ => cn_b)
      obtain ⟨r, hr⟩ : ∃ r, c.1 40 0 17 = r := ⟨_, rfl⟩
      have hhc := hh
      obtain ⟨hh0, hh8, hhg⟩ := hh
      rw [hr] at hh0 hh8 hhg h1 h2 h3
      have efn : (f + 1).toInt = 8 * x1.toInt + ((k + 1 : Nat) : Int) := by rw [i32_p1 (by omega), ef]; omega
      have vf : vp_in f 32 := vp_of (by omega) (by omega)
      have vr : vp_in r 8 := vp_of hh0 (by omega)
      have gk := hG k (by omega)
      rw [rX8_takePart_10]
      by_cases hm : M k = p
      · have a1 : cnf M p k = 1 := if_pos hm
        have a2 : smf M G p k = (G k).toInt := if_pos hm
        have a3 : sqp M G p k = (G k).toInt * (G k).toInt := if_pos hm
        have er : (r + 1).toInt = r.toInt + 1 := i32_p1 (by omega)
        have hA : (ab_si (ab_si c 56 0 r.toNatClampNeg (G k)) 40 0 17 (r + 1)).1 56 0 r.toInt.toNat = G k := by rw [sn_ii (by decide)]; exact sn_ie
        have hB : ∀ j, j < r.toInt.toNat → (ab_si (ab_si c 56 0 r.toNatClampNeg (G k)) 40 0 17 (r + 1)).1 56 0 j = c.1 56 0 j := fun j hj => by
          rw [sn_ii (by decide)]
          exact sn_ij (fun q => by have q : j = r.toInt.toNat := q; omega)
        have hC : (ab_si (ab_si c 56 0 r.toNatClampNeg (G k)) 40 0 17 (r + 1)).1 40 0 17 = r + 1 := sn_ie
        have K := ih (k + 1) (f + 1) (ab_si (ab_si c 56 0 r.toNatClampNeg (G k)) 40 0 17 (r + 1)) (by omega) efn ((hc.si (k := 56) (j := r.toNatClampNeg) (v := G k) 0 rfl (i32_lo _) (i32_hi _)).si (k := 40) (j := 17) (v := r + 1) 0 rfl (show (0 : Int) ≤ (r + 1).toInt by omega) (show (r + 1).toInt ≤ 8 by omega)) (by rw [sn_ii (by decide), sn_ii (by decide)]; exact e41) (fun j => by rw [sn_ii (by decide), sn_ii (by decide)]; exact e42 j) (fun j => by rw [sn_ii (by decide), sn_ii (by decide)]; exact e45 j) (by
          refine ⟨by rw [hC]; omega, by rw [hC]; omega, fun j hj => ?_⟩
          rw [hC, er] at hj
          by_cases q : j = r.toInt.toNat
          · rw [q, hA]; exact gk
          · rw [hB j (by omega)]; exact hhg j (by omega)) (by
          rw [hC, er, h1]
          show _ = isum (cnf M p) k + cnf M p k
          rw [a1]) (by
          rw [hC, er, show (r.toInt + 1).toNat = r.toInt.toNat + 1 by omega]
          show isum _ r.toInt.toNat + tI _ r.toInt.toNat = isum (smf M G p) k + smf M G p k
          rw [isum_cg (h := tI (c.1 56 0)) (fun j hj => by show Int32.toInt _ = Int32.toInt _; rw [hB j hj]), h2, a2]
          show _ + Int32.toInt _ = _
          rw [hA]) (by
          rw [hC, er, show (r.toInt + 1).toNat = r.toInt.toNat + 1 by omega]
          show isum _ r.toInt.toNat + sqf _ r.toInt.toNat = isum (sqp M G p) k + sqp M G p k
          rw [isum_cg (h := sqf (tI (c.1 56 0))) (fun j hj => by show Int32.toInt _ * Int32.toInt _ = Int32.toInt _ * Int32.toInt _; rw [hB j hj]), h3, a3]
          show _ + Int32.toInt _ * Int32.toInt _ = _
          rw [hA])
        have w : (M k = p) = True := eq_true hm
        have e2 : ∀ j v, (ab_si c 56 0 j v).1 40 0 17 = r := fun j v => hr
        simp only [ab_loc, ab_cat, ab_kil, ab_al, ab_ln, ab_lnp, ab_rf, sh_0, sh_1, sh_2, sh_3, sh_4, sh_5, sh_6, sh_7, sh_8, sh_9, sh_10, sh_11, sh_12, sh_13, sh_14, sh_20, sh_21, sh_22, sh_23, sh_24, sh_25, sh_30, sh_31, sh_32, sh_40, sh_41, sh_42, sh_43, sh_44, sh_45, sh_46, sh_47, sh_48, sh_49, sh_50, sh_51, sh_52, sh_53, sh_54, sh_55, sh_56, sh_57, sh_58, sh_59, sh_60, ct_0, ct_1, ct_2, ct_3, ct_4, ct_5, ct_6, ct_7, ct_8, ct_9, ct_10, ct_11, ct_12, ct_13, ct_14, ct_20, ct_21, ct_22, ct_23, ct_24, ct_25, ct_30, ct_31, ct_32, ct_40, ct_41, ct_42, ct_43, ct_44, ct_45, ct_46, ct_47, ct_48, ct_49, ct_50, ct_51, ct_52, ct_53, ct_54, ct_55, ct_56, ct_57, ct_58, ct_59, ct_60, ki_m1, ki_0, ki_1, ki_2, ki_3, ki_4, ki_5, kb_m2, kb_m3, kb_m4, kb_m8, kb_m9, kb_10, kb_100, kb_16, kb_36, kb_6, kb_63, kb_8, kb_9, kb_99, ks_216, ks_2520, ks_256, ks_800, kl_0, kl_1, ↓reduceIte, reduceCtorEq, Nat.reduceAdd, Nat.reduceLT, Nat.reduceLeDiff, Nat.reduceEqDiff, List.map_cons, List.map_nil, List.sum_cons, List.sum_nil, List.cons_append, List.nil_append, Option.toList_some, Option.toList_none, true_and, and_true, true_or, or_true, not_true_eq_false, not_false_eq_true, Nat.lt_add_one, Nat.zero_le, eq_self, or_false, false_or, implies_true, forall_const, false_implies, forall_false, true_implies, and_self, Nat.zero_lt_one, Nat.add_zero, Nat.zero_add, Int32.reduceLT, Int32.reduceLE, Int32.reduceAdd, Int32.reduceSub, Int32.reduceMul, e10, e01, ite_self, ab_mx, ab_mi, ab_mb, ab_ml2, rX8_takePart_11, rX8_takePart_13, rX8_takePart_14, rX8_takePart_15, rX8_takePart_16, rX8_takePart_19, rX8_takePart_20, rX8_takePart_21, rX8_takePart_22, rX8_takePart_25, rX8_takePart_26, rX8_takePart_29, rX8_takePart_30, rX8_takePart_31, rX8_takePart_32, rX8_takePart_35, rX8_takePart_36, rX8_takePart_39, rX8_takePart_40, rX8_takePart_43, rX8_takePart_44, rX8_takePart_47, rX8_takePart_48, rX8_takePart_49, rX8_takePart_50, rX8_takePart_51i, rX8_takePart_51a, rX8_takePart_52, rX8_takePart_55, rX8_takePart_56, rX8_takePart_57, rX8_takePart_60, rX8_takePart_63, hv, vf, vr, c2, e41, m45, m42, w, hr, e2]
        exact K
      · have a1 : cnf M p k = 0 := if_neg hm
        have a2 : smf M G p k = 0 := if_neg hm
        have a3 : sqp M G p k = 0 := if_neg hm
        have K := ih (k + 1) (f + 1) c (by omega) efn hc e41 e42 e45 hhc (by
          rw [hr, h1]
          show _ = isum (cnf M p) k + cnf M p k
          rw [a1]; omega) (by
          rw [hr, h2]
          show _ = isum (smf M G p) k + smf M G p k
          rw [a2]; omega) (by
          rw [hr, h3]
          show _ = isum (sqp M G p) k + sqp M G p k
          rw [a3]; omega)
        have w : (M k = p) = False := eq_false hm
        simp only [ab_loc, ab_cat, ab_kil, ab_al, ab_ln, ab_lnp, ab_rf, sh_0, sh_1, sh_2, sh_3, sh_4, sh_5, sh_6, sh_7, sh_8, sh_9, sh_10, sh_11, sh_12, sh_13, sh_14, sh_20, sh_21, sh_22, sh_23, sh_24, sh_25, sh_30, sh_31, sh_32, sh_40, sh_41, sh_42, sh_43, sh_44, sh_45, sh_46, sh_47, sh_48, sh_49, sh_50, sh_51, sh_52, sh_53, sh_54, sh_55, sh_56, sh_57, sh_58, sh_59, sh_60, ct_0, ct_1, ct_2, ct_3, ct_4, ct_5, ct_6, ct_7, ct_8, ct_9, ct_10, ct_11, ct_12, ct_13, ct_14, ct_20, ct_21, ct_22, ct_23, ct_24, ct_25, ct_30, ct_31, ct_32, ct_40, ct_41, ct_42, ct_43, ct_44, ct_45, ct_46, ct_47, ct_48, ct_49, ct_50, ct_51, ct_52, ct_53, ct_54, ct_55, ct_56, ct_57, ct_58, ct_59, ct_60, ki_m1, ki_0, ki_1, ki_2, ki_3, ki_4, ki_5, kb_m2, kb_m3, kb_m4, kb_m8, kb_m9, kb_10, kb_100, kb_16, kb_36, kb_6, kb_63, kb_8, kb_9, kb_99, ks_216, ks_2520, ks_256, ks_800, kl_0, kl_1, ↓reduceIte, reduceCtorEq, Nat.reduceAdd, Nat.reduceLT, Nat.reduceLeDiff, Nat.reduceEqDiff, List.map_cons, List.map_nil, List.sum_cons, List.sum_nil, List.cons_append, List.nil_append, Option.toList_some, Option.toList_none, true_and, and_true, true_or, or_true, not_true_eq_false, not_false_eq_true, Nat.lt_add_one, Nat.zero_le, eq_self, or_false, false_or, implies_true, forall_const, false_implies, forall_false, true_implies, and_self, Nat.zero_lt_one, Nat.add_zero, Nat.zero_add, Int32.reduceLT, Int32.reduceLE, Int32.reduceAdd, Int32.reduceSub, Int32.reduceMul, e10, e01, ite_self, ab_mx, ab_mi, ab_mb, ab_ml2, rX8_takePart_11, rX8_takePart_13, rX8_takePart_14, rX8_takePart_15, rX8_takePart_16, rX8_takePart_19, rX8_takePart_20, rX8_takePart_21, rX8_takePart_22, rX8_takePart_25, rX8_takePart_26, rX8_takePart_29, rX8_takePart_30, rX8_takePart_31, rX8_takePart_32, rX8_takePart_35, rX8_takePart_36, rX8_takePart_39, rX8_takePart_40, rX8_takePart_43, rX8_takePart_44, rX8_takePart_47, rX8_takePart_48, rX8_takePart_49, rX8_takePart_50, rX8_takePart_51i, rX8_takePart_51a, rX8_takePart_52, rX8_takePart_55, rX8_takePart_56, rX8_takePart_57, rX8_takePart_60, rX8_takePart_63, hv, vf, c2, e41, m45, w]
        exact K
  have hC : (ab_si σ 40 0 17 0).1 40 0 17 = 0 := sn_ie
  have K := key N 0 (8 * x1) (ab_si σ 40 0 17 0) (by omega) (by rw [et]; omega) (hJ.si (k := 40) (j := 17) (v := 0) 0 rfl (by decide) (by decide)) (by rw [sn_ii (by decide)]) (fun j => by rw [sn_ii (by decide)]) (fun j => by rw [sn_ii (by decide)]) ⟨by rw [hC]; decide, by rw [hC]; decide, fun j hj => by rw [hC, t0i] at hj; omega⟩ (by rw [hC]; rfl) (by rw [hC]; rfl) (by rw [hC]; rfl)
  simp only [ab_loc, ab_cat, ab_kil, ab_al, ab_ln, ab_lnp, ab_rf, sh_0, sh_1, sh_2, sh_3, sh_4, sh_5, sh_6, sh_7, sh_8, sh_9, sh_10, sh_11, sh_12, sh_13, sh_14, sh_20, sh_21, sh_22, sh_23, sh_24, sh_25, sh_30, sh_31, sh_32, sh_40, sh_41, sh_42, sh_43, sh_44, sh_45, sh_46, sh_47, sh_48, sh_49, sh_50, sh_51, sh_52, sh_53, sh_54, sh_55, sh_56, sh_57, sh_58, sh_59, sh_60, ct_0, ct_1, ct_2, ct_3, ct_4, ct_5, ct_6, ct_7, ct_8, ct_9, ct_10, ct_11, ct_12, ct_13, ct_14, ct_20, ct_21, ct_22, ct_23, ct_24, ct_25, ct_30, ct_31, ct_32, ct_40, ct_41, ct_42, ct_43, ct_44, ct_45, ct_46, ct_47, ct_48, ct_49, ct_50, ct_51, ct_52, ct_53, ct_54, ct_55, ct_56, ct_57, ct_58, ct_59, ct_60, ki_m1, ki_0, ki_1, ki_2, ki_3, ki_4, ki_5, kb_m2, kb_m3, kb_m4, kb_m8, kb_m9, kb_10, kb_100, kb_16, kb_36, kb_6, kb_63, kb_8, kb_9, kb_99, ks_216, ks_2520, ks_256, ks_800, kl_0, kl_1, ↓reduceIte, reduceCtorEq, Nat.reduceAdd, Nat.reduceLT, Nat.reduceLeDiff, Nat.reduceEqDiff, List.map_cons, List.map_nil, List.sum_cons, List.sum_nil, List.cons_append, List.nil_append, Option.toList_some, Option.toList_none, true_and, and_true, true_or, or_true, not_true_eq_false, not_false_eq_true, Nat.lt_add_one, Nat.zero_le, eq_self, or_false, false_or, implies_true, forall_const, false_implies, forall_false, true_implies, and_self, Nat.zero_lt_one, Nat.add_zero, Nat.zero_add, Int32.reduceLT, Int32.reduceLE, Int32.reduceAdd, Int32.reduceSub, Int32.reduceMul, e10, e01, ite_self, ab_mx, ab_mi, ab_mb, ab_ml2, uX8_takePart, rX8_takePart_0, rX8_takePart_1, rX8_takePart_2, rX8_takePart_5, rX8_takePart_7, rX8_takePart_8, rX8_takePart_9]
  exact K
