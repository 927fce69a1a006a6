theorem rd_si {σ : ab_S} {k i j k' i' j' : Nat} {v : Int32} : (ab_si σ k i j v).1 k' i' j' = if k' = k then (if i' = i then (if j' = j then v else σ.1 k i j') else σ.1 k i' j') else σ.1 k' i' j' := by
  unfold ab_si
  by_cases hk : k' = k
  · subst hk
    by_cases hi : i' = i
    · subst hi
      simp [upd]
    · simp [hi]
  · simp [hk]
theorem rd_sl {σ : ab_S} {k i j k' i' j' : Nat} {v : Int64} : (ab_sl σ k i j v).2 k' i' j' = if k' = k then (if i' = i then (if j' = j then v else σ.2 k i j') else σ.2 k i' j') else σ.2 k' i' j' := by
  unfold ab_sl
  by_cases hk : k' = k
  · subst hk
    by_cases hi : i' = i
    · subst hi
      simp [vp_updL]
    · simp [hi]
  · simp [hk]
theorem rd_si2 {σ : ab_S} {k i j : Nat} {v : Int32} : (ab_si σ k i j v).2 = σ.2 := rfl
theorem rd_sl1 {σ : ab_S} {k i j : Nat} {v : Int64} : (ab_sl σ k i j v).1 = σ.1 := rfl
def fX (σ : ab_S) : Prop := (∀ k i j, k < 40 → σ.1 k i j = 0) ∧ (∀ k i j, k < 40 → σ.2 k i j = 0)
def fM (σ : ab_S) : Prop := (∀ k i j, 40 ≤ k → σ.1 k i j = 0) ∧ (∀ k i j, 40 ≤ k → σ.2 k i j = 0)
theorem fM_si {σ : ab_S} {k i j : Nat} {v : Int32} (hk : k < 40) (h : fM σ) : fM (ab_si σ k i j v) := ⟨fun k' i' j' h' => by rw [rd_si, if_neg (by omega)]; exact h.1 k' i' j' h', h.2⟩
theorem fM_sl {σ : ab_S} {k i j : Nat} {v : Int64} (hk : k < 40) (h : fM σ) : fM (ab_sl σ k i j v) := ⟨h.1, fun k' i' j' h' => by rw [rd_sl, if_neg (by omega)]; exact h.2 k' i' j' h'⟩
theorem t32_0 : (0 : Int32).toNatClampNeg = 0 := by decide
theorem t32_1 : (1 : Int32).toNatClampNeg = 1 := by decide
theorem t32_2 : (2 : Int32).toNatClampNeg = 2 := by decide
theorem t32_3 : (3 : Int32).toNatClampNeg = 3 := by decide
theorem v_0_8 : vp_in 0 8 := by unfold vp_in; decide
theorem v_0_4 : vp_in 0 4 := by unfold vp_in; decide
theorem v_1_4 : vp_in 1 4 := by unfold vp_in; decide
theorem v_2_4 : vp_in 2 4 := by unfold vp_in; decide
theorem v_3_4 : vp_in 3 4 := by unfold vp_in; decide
theorem v_0_256 : vp_in 0 256 := by unfold vp_in; decide
theorem v_0_2 : vp_in 0 2 := by unfold vp_in; decide
theorem v_1_2 : vp_in 1 2 := by unfold vp_in; decide
theorem bt_03_0 : bt 0 0 3 = true := by decide
theorem bt_03_1 : bt 1 0 3 = true := by decide
theorem bt_03_2 : bt 2 0 3 = true := by decide
theorem bt_03_3 : bt 3 0 3 = true := by decide
theorem sh10 : (1 : Int32) <<< ((0 : Int32) &&& 31) = 1 := by decide
theorem nar1 : vp_nar .boolean 1 = 1 := by decide
theorem nar0 : vp_nar .boolean 0 = 0 := by decide
theorem l2z : (0 : Int64).toInt32 = 0 := by decide
theorem n09 : ((0 : Int32) = -9) = False := by decide
def tk (kind k : Int32) : Bool := bt kind 0 5 && (if bt kind 2 4 = true then bt k 0 (if kind = 2 then 8 else 99) else decide (k = 0))
set_option maxRecDepth 100000 in
theorem s_holds0 {σ : ab_S} (hX : fX σ) {t : Nat} {f : Int32} {P : ab_P} (ht : t < 4) : ab_sp mX5_holds cX5_holds [.inr (some (20, t)), .inl (.inl f)] σ P = P (some (.inl (.inl 0))) σ := by
  simp only [ab_loc, ab_cat, ab_kil, ab_al, ab_ln, ab_lnp, ab_rf, sh_0, sh_1, sh_2, sh_3, sh_4, sh_5, sh_6, sh_7, sh_8, sh_9, sh_10, sh_11, sh_12, sh_13, sh_14, sh_20, sh_21, sh_22, sh_23, sh_24, sh_25, sh_30, sh_31, sh_32, sh_40, sh_41, sh_42, sh_43, sh_44, sh_45, sh_46, sh_47, sh_48, sh_49, sh_50, sh_51, sh_52, sh_53, sh_54, sh_55, sh_56, sh_57, sh_58, sh_59, sh_60, ct_0, ct_1, ct_2, ct_3, ct_4, ct_5, ct_6, ct_7, ct_8, ct_9, ct_10, ct_11, ct_12, ct_13, ct_14, ct_20, ct_21, ct_22, ct_23, ct_24, ct_25, ct_30, ct_31, ct_32, ct_40, ct_41, ct_42, ct_43, ct_44, ct_45, ct_46, ct_47, ct_48, ct_49, ct_50, ct_51, ct_52, ct_53, ct_54, ct_55, ct_56, ct_57, ct_58, ct_59, ct_60, ki_m1, ki_0, ki_1, ki_2, ki_3, ki_4, ki_5, kb_m2, kb_m3, kb_m4, kb_m8, kb_m9, kb_10, kb_100, kb_16, kb_36, kb_6, kb_63, kb_8, kb_9, kb_99, ks_216, ks_2520, ks_256, ks_800, kl_0, kl_1, ↓reduceIte, reduceCtorEq, Nat.reduceAdd, Nat.reduceLT, Nat.reduceLeDiff, Nat.reduceEqDiff, List.map_cons, List.map_nil, List.sum_cons, List.sum_nil, List.cons_append, List.nil_append, Option.toList_some, Option.toList_none, true_and, and_true, true_or, or_true, not_true_eq_false, not_false_eq_true, Nat.lt_add_one, Nat.zero_le, eq_self, or_false, false_or, implies_true, forall_const, false_implies, forall_false, true_implies, and_self, Nat.zero_lt_one, Nat.add_zero, Nat.zero_add, Int32.reduceLT, Int32.reduceLE, Int32.reduceAdd, Int32.reduceSub, Int32.reduceMul, e10, e01, ite_self, ab_mx, ab_mi, ab_mb, ab_ml2, uX5_holds, rX5_holds_0, rX5_holds_1, rX5_holds_4, rX5_holds_5, rX5_holds_6, rX5_holds_9, rX5_holds_12, rX5_holds_13, rX5_holds_16, rX5_holds_17, hX.1, ht, e10, e01]
  by_cases h1 : f < 0
  · simp [h1]
  · have h2 : (0 : Int32) ≤ f := Int32.not_lt.mp h1
    simp [h1, h2]
set_option maxRecDepth 100000 in
theorem s_isKnown0 {σ : ab_S} (hX : fX σ) {t : Nat} {P : ab_P} (ht : t < 4) : ab_sp mX5_isKnown cX5_isKnown [.inr (some (20, t))] σ P = P (some (.inl (.inl 1))) σ := by
  simp only [ab_loc, ab_cat, ab_kil, ab_al, ab_ln, ab_lnp, ab_rf, sh_0, sh_1, sh_2, sh_3, sh_4, sh_5, sh_6, sh_7, sh_8, sh_9, sh_10, sh_11, sh_12, sh_13, sh_14, sh_20, sh_21, sh_22, sh_23, sh_24, sh_25, sh_30, sh_31, sh_32, sh_40, sh_41, sh_42, sh_43, sh_44, sh_45, sh_46, sh_47, sh_48, sh_49, sh_50, sh_51, sh_52, sh_53, sh_54, sh_55, sh_56, sh_57, sh_58, sh_59, sh_60, ct_0, ct_1, ct_2, ct_3, ct_4, ct_5, ct_6, ct_7, ct_8, ct_9, ct_10, ct_11, ct_12, ct_13, ct_14, ct_20, ct_21, ct_22, ct_23, ct_24, ct_25, ct_30, ct_31, ct_32, ct_40, ct_41, ct_42, ct_43, ct_44, ct_45, ct_46, ct_47, ct_48, ct_49, ct_50, ct_51, ct_52, ct_53, ct_54, ct_55, ct_56, ct_57, ct_58, ct_59, ct_60, ki_m1, ki_0, ki_1, ki_2, ki_3, ki_4, ki_5, kb_m2, kb_m3, kb_m4, kb_m8, kb_m9, kb_10, kb_100, kb_16, kb_36, kb_6, kb_63, kb_8, kb_9, kb_99, ks_216, ks_2520, ks_256, ks_800, kl_0, kl_1, ↓reduceIte, reduceCtorEq, Nat.reduceAdd, Nat.reduceLT, Nat.reduceLeDiff, Nat.reduceEqDiff, List.map_cons, List.map_nil, List.sum_cons, List.sum_nil, List.cons_append, List.nil_append, Option.toList_some, Option.toList_none, true_and, and_true, true_or, or_true, not_true_eq_false, not_false_eq_true, Nat.lt_add_one, Nat.zero_le, eq_self, or_false, false_or, implies_true, forall_const, false_implies, forall_false, true_implies, and_self, Nat.zero_lt_one, Nat.add_zero, Nat.zero_add, Int32.reduceLT, Int32.reduceLE, Int32.reduceAdd, Int32.reduceSub, Int32.reduceMul, e10, e01, ite_self, ab_mx, ab_mi, ab_mb, ab_ml2, uX5_isKnown, rX5_isKnown_0, rX5_isKnown_1, rX5_isKnown_2, rX5_isKnown_3, rX5_isKnown_4, rX5_isKnown_7, rX5_isKnown_10, rX5_isKnown_11, rX5_isKnown_14, rX5_isKnown_15, rX5_isKnown_16, rX5_isKnown_17, rX5_isKnown_20, rX5_isKnown_21, rX5_isKnown_22, rX5_isKnown_25, rX5_isKnown_26, rX5_isKnown_27, rX5_isKnown_30, rX5_isKnown_33, rX5_isKnown_34, hX.1, ht, e10, e01]
set_option maxRecDepth 100000 in
theorem s_isReady0 {σ : ab_S} (hX : fX σ) {t : Nat} {P : ab_P} (ht : t < 4) : ab_sp mX5_isReady cX5_isReady [.inr (some (20, t))] σ P = P (some (.inl (.inl 0))) σ := by
  simp only [s_isKnown0 hX, ab_loc, ab_cat, ab_kil, ab_al, ab_ln, ab_lnp, ab_rf, sh_0, sh_1, sh_2, sh_3, sh_4, sh_5, sh_6, sh_7, sh_8, sh_9, sh_10, sh_11, sh_12, sh_13, sh_14, sh_20, sh_21, sh_22, sh_23, sh_24, sh_25, sh_30, sh_31, sh_32, sh_40, sh_41, sh_42, sh_43, sh_44, sh_45, sh_46, sh_47, sh_48, sh_49, sh_50, sh_51, sh_52, sh_53, sh_54, sh_55, sh_56, sh_57, sh_58, sh_59, sh_60, ct_0, ct_1, ct_2, ct_3, ct_4, ct_5, ct_6, ct_7, ct_8, ct_9, ct_10, ct_11, ct_12, ct_13, ct_14, ct_20, ct_21, ct_22, ct_23, ct_24, ct_25, ct_30, ct_31, ct_32, ct_40, ct_41, ct_42, ct_43, ct_44, ct_45, ct_46, ct_47, ct_48, ct_49, ct_50, ct_51, ct_52, ct_53, ct_54, ct_55, ct_56, ct_57, ct_58, ct_59, ct_60, ki_m1, ki_0, ki_1, ki_2, ki_3, ki_4, ki_5, kb_m2, kb_m3, kb_m4, kb_m8, kb_m9, kb_10, kb_100, kb_16, kb_36, kb_6, kb_63, kb_8, kb_9, kb_99, ks_216, ks_2520, ks_256, ks_800, kl_0, kl_1, ↓reduceIte, reduceCtorEq, Nat.reduceAdd, Nat.reduceLT, Nat.reduceLeDiff, Nat.reduceEqDiff, List.map_cons, List.map_nil, List.sum_cons, List.sum_nil, List.cons_append, List.nil_append, Option.toList_some, Option.toList_none, true_and, and_true, true_or, or_true, not_true_eq_false, not_false_eq_true, Nat.lt_add_one, Nat.zero_le, eq_self, or_false, false_or, implies_true, forall_const, false_implies, forall_false, true_implies, and_self, Nat.zero_lt_one, Nat.add_zero, Nat.zero_add, Int32.reduceLT, Int32.reduceLE, Int32.reduceAdd, Int32.reduceSub, Int32.reduceMul, e10, e01, ite_self, ab_mx, ab_mi, ab_mb, ab_ml2, uX5_isReady, rX5_isReady_0, rX5_isReady_1, rX5_isReady_4, rX5_isReady_7, rX5_isReady_8, rX5_isReady_11, rX5_isReady_14, rX5_isReady_15, rX5_isReady_18, rX5_isReady_19, hX.1, ht, e10, e01]
set_option maxRecDepth 100000 in
theorem s_sumOf0 {σ : ab_S} {n : ab_Nm} {P : ab_P} : ab_sp mX7_sumOf cX7_sumOf [.inr (some n), .inl (.inl 0)] σ P = P (some (.inl (.inl 0))) σ := by
  simp only [ab_loc, ab_cat, ab_kil, ab_al, ab_ln, ab_lnp, ab_rf, sh_0, sh_1, sh_2, sh_3, sh_4, sh_5, sh_6, sh_7, sh_8, sh_9, sh_10, sh_11, sh_12, sh_13, sh_14, sh_20, sh_21, sh_22, sh_23, sh_24, sh_25, sh_30, sh_31, sh_32, sh_40, sh_41, sh_42, sh_43, sh_44, sh_45, sh_46, sh_47, sh_48, sh_49, sh_50, sh_51, sh_52, sh_53, sh_54, sh_55, sh_56, sh_57, sh_58, sh_59, sh_60, ct_0, ct_1, ct_2, ct_3, ct_4, ct_5, ct_6, ct_7, ct_8, ct_9, ct_10, ct_11, ct_12, ct_13, ct_14, ct_20, ct_21, ct_22, ct_23, ct_24, ct_25, ct_30, ct_31, ct_32, ct_40, ct_41, ct_42, ct_43, ct_44, ct_45, ct_46, ct_47, ct_48, ct_49, ct_50, ct_51, ct_52, ct_53, ct_54, ct_55, ct_56, ct_57, ct_58, ct_59, ct_60, ki_m1, ki_0, ki_1, ki_2, ki_3, ki_4, ki_5, kb_m2, kb_m3, kb_m4, kb_m8, kb_m9, kb_10, kb_100, kb_16, kb_36, kb_6, kb_63, kb_8, kb_9, kb_99, ks_216, ks_2520, ks_256, ks_800, kl_0, kl_1, ↓reduceIte, reduceCtorEq, Nat.reduceAdd, Nat.reduceLT, Nat.reduceLeDiff, Nat.reduceEqDiff, List.map_cons, List.map_nil, List.sum_cons, List.sum_nil, List.cons_append, List.nil_append, Option.toList_some, Option.toList_none, true_and, and_true, true_or, or_true, not_true_eq_false, not_false_eq_true, Nat.lt_add_one, Nat.zero_le, eq_self, or_false, false_or, implies_true, forall_const, false_implies, forall_false, true_implies, and_self, Nat.zero_lt_one, Nat.add_zero, Nat.zero_add, Int32.reduceLT, Int32.reduceLE, Int32.reduceAdd, Int32.reduceSub, Int32.reduceMul, e10, e01, ite_self, ab_mx, ab_mi, ab_mb, ab_ml2, uX7_sumOf, rX7_sumOf_0, rX7_sumOf_1, rX7_sumOf_2, rX7_sumOf_3, rX7_sumOf_4, rX7_sumOf_5, rX7_sumOf_6, rX7_sumOf_9, rX7_sumOf_10, rX7_sumOf_11, rX7_sumOf_12, rX7_sumOf_15, rX7_sumOf_16, rX7_sumOf_17, rX7_sumOf_18, rX7_sumOf_19, rX7_sumOf_20, rX7_sumOf_21, rX7_sumOf_24, rX7_sumOf_27, rX7_sumOf_28, e10, e01]
set_option maxRecDepth 100000 in
theorem s_taken0 {σ : ab_S} (hX : fX σ) {x : Int32} {P : ab_P} : ab_sp mX1_taken cX1_taken [.inr (some (2, 0)), .inl (.inl x)] σ P = P (some (.inl (.inl 0))) σ := by
  simp only [ab_loc, ab_cat, ab_kil, ab_al, ab_ln, ab_lnp, ab_rf, sh_0, sh_1, sh_2, sh_3, sh_4, sh_5, sh_6, sh_7, sh_8, sh_9, sh_10, sh_11, sh_12, sh_13, sh_14, sh_20, sh_21, sh_22, sh_23, sh_24, sh_25, sh_30, sh_31, sh_32, sh_40, sh_41, sh_42, sh_43, sh_44, sh_45, sh_46, sh_47, sh_48, sh_49, sh_50, sh_51, sh_52, sh_53, sh_54, sh_55, sh_56, sh_57, sh_58, sh_59, sh_60, ct_0, ct_1, ct_2, ct_3, ct_4, ct_5, ct_6, ct_7, ct_8, ct_9, ct_10, ct_11, ct_12, ct_13, ct_14, ct_20, ct_21, ct_22, ct_23, ct_24, ct_25, ct_30, ct_31, ct_32, ct_40, ct_41, ct_42, ct_43, ct_44, ct_45, ct_46, ct_47, ct_48, ct_49, ct_50, ct_51, ct_52, ct_53, ct_54, ct_55, ct_56, ct_57, ct_58, ct_59, ct_60, ki_m1, ki_0, ki_1, ki_2, ki_3, ki_4, ki_5, kb_m2, kb_m3, kb_m4, kb_m8, kb_m9, kb_10, kb_100, kb_16, kb_36, kb_6, kb_63, kb_8, kb_9, kb_99, ks_216, ks_2520, ks_256, ks_800, kl_0, kl_1, ↓reduceIte, reduceCtorEq, Nat.reduceAdd, Nat.reduceLT, Nat.reduceLeDiff, Nat.reduceEqDiff, List.map_cons, List.map_nil, List.sum_cons, List.sum_nil, List.cons_append, List.nil_append, Option.toList_some, Option.toList_none, true_and, and_true, true_or, or_true, not_true_eq_false, not_false_eq_true, Nat.lt_add_one, Nat.zero_le, eq_self, or_false, false_or, implies_true, forall_const, false_implies, forall_false, true_implies, and_self, Nat.zero_lt_one, Nat.add_zero, Nat.zero_add, Int32.reduceLT, Int32.reduceLE, Int32.reduceAdd, Int32.reduceSub, Int32.reduceMul, e10, e01, ite_self, ab_mx, ab_mi, ab_mb, ab_ml2, uX1_taken, rX1_taken_0, rX1_taken_1, rX1_taken_2, rX1_taken_3, rX1_taken_4, rX1_taken_5, rX1_taken_6, rX1_taken_9, rX1_taken_12, rX1_taken_13, rX1_taken_14, rX1_taken_15, rX1_taken_18, rX1_taken_19, rX1_taken_20, rX1_taken_23, rX1_taken_26, rX1_taken_27, rX1_taken_30, rX1_taken_31, rX1_taken_32, rX1_taken_33, rX1_taken_35, rX1_taken_37, rX1_taken_40, rX1_taken_41, rX1_taken_42, rX1_taken_45, rX1_taken_48, rX1_taken_49, rX1_taken_50, rX1_taken_53, rX1_taken_54, rX1_taken_55, rX1_taken_57, rX1_taken_58, rX1_taken_59, rX1_taken_60, rX1_taken_63, rX1_taken_66, rX1_taken_67, rX1_taken_69, rX1_taken_70, hX.1, e10, e01]
  simp only [show ((10 : Int32) = 0) = False by decide, show (0 : Int32) / 10 = 0 by decide, not_false_eq_true, true_and]
