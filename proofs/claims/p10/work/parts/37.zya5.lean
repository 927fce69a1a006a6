/-! coins: the reference -/
theorem ckR : (List.range 256).all (fun s => (List.range 8).all (fun k => decide (((Int32.ofInt s >>> (Int32.ofInt k &&& 31)) &&& 1 = 1) ↔ Nat.testBit s k = true))) = true := by decide +kernel
theorem shr_N {x k : Int32} {s K : Nat} (hx : x.toInt = s) (hs : s < 256) (hk : k.toInt = K) (K8 : K < 8) : ((x >>> (k &&& 31)) &&& 1 = 1) ↔ Nat.testBit s K = true := by
  have e1 : x = Int32.ofInt s := by rw [← hx, Int32.ofInt_toInt]
  have e2 : k = Int32.ofInt K := by rw [← hk, Int32.ofInt_toInt]
  rw [e1, e2]
  exact of_decide_eq_true (List.all_eq_true.mp (List.all_eq_true.mp ckR s (List.mem_range.mpr hs)) K (List.mem_range.mpr K8))
set_option maxRecDepth 100000 in
set_option maxHeartbeats 1000000 in
theorem sX8_comesEvenF {σ : ab_S} {P : ab_P} {n s : Nat} {x1 x2 : Int32} {D : Nat → Int} (n8 : n ≤ 8) (hx : x1.toInt = s) (s256 : s < 256) (hn : x2.toInt = n) (hD : ∀ k, k < n → (σ.1 54 0 k).toInt = D k) (bD : ∀ k, k < n → -99 ≤ D k ∧ D k ≤ 99) (hP : P (some (.inl (.inl (bi (evF D n s))))) σ) : ab_sp mX8_comesEven cX8_comesEven [.inr (some (40, 0)), .inl (.inl x1), .inl (.inl x2)] σ P := by
  have loop : ∀ (r K : Nat) (k su go : Int32), K + r = n → k.toInt = K → su.toInt = smF D K s → go = bi (gdF D K s) → ab_wp mX8_comesEven cX8_comesEven none P 8 [some (.inr (some (40, 0))), some (.inl (.inl x1)), some (.inl (.inl x2)), some (.inl (.inl su)), some (.inl (.inl go)), some (.inl (.inl k))] [] σ := by
    intro r
    induction r with
    | zero =>
      intro K k su go er hk hs hg
      have q : x2 ≤ k := Int32.le_iff_toInt_le.mpr (by omega)
      have eK : K = n := by omega
      rw [eK] at hs hg
      unfold evF at hP
      rw [rX8_comesEven_8]
      cases e : gdF D n s with
      | false =>
        rw [e] at hP hg
        have hg : go = 0 := hg
        simp only [ab_loc, ab_cat, ab_kil, ab_al, ab_ln, ab_lnp, ab_rf, sh_0, sh_1, sh_2, sh_3, sh_4, sh_5, sh_6, sh_7, sh_8, sh_9, sh_10, sh_11, sh_12, sh_13, sh_14, sh_20, sh_21, sh_22, sh_23, sh_24, sh_25, sh_30, sh_31, sh_32, sh_40, sh_41, sh_42, sh_43, sh_44, sh_45, sh_46, sh_47, sh_48, sh_49, sh_50, sh_51, sh_52, sh_53, sh_54, sh_55, sh_56, sh_57, sh_58, sh_59, sh_60, ct_0, ct_1, ct_2, ct_3, ct_4, ct_5, ct_6, ct_7, ct_8, ct_9, ct_10, ct_11, ct_12, ct_13, ct_14, ct_20, ct_21, ct_22, ct_23, ct_24, ct_25, ct_30, ct_31, ct_32, ct_40, ct_41, ct_42, ct_43, ct_44, ct_45, ct_46, ct_47, ct_48, ct_49, ct_50, ct_51, ct_52, ct_53, ct_54, ct_55, ct_56, ct_57, ct_58, ct_59, ct_60, ki_m1, ki_0, ki_1, ki_2, ki_3, ki_4, ki_5, kb_m2, kb_m3, kb_m4, kb_m8, kb_m9, kb_10, kb_100, kb_16, kb_36, kb_6, kb_63, kb_8, kb_9, kb_99, ks_216, ks_2520, ks_256, ks_800, kl_0, kl_1, ↓reduceIte, reduceCtorEq, Nat.reduceAdd, Nat.reduceLT, Nat.reduceLeDiff, Nat.reduceEqDiff, List.map_cons, List.map_nil, List.sum_cons, List.sum_nil, List.cons_append, List.nil_append, Option.toList_some, Option.toList_none, true_and, and_true, true_or, or_true, not_true_eq_false, not_false_eq_true, Nat.lt_add_one, Nat.zero_le, eq_self, or_false, false_or, implies_true, forall_const, false_implies, forall_false, true_implies, and_self, Nat.zero_lt_one, Nat.add_zero, Nat.zero_add, Int32.reduceLT, Int32.reduceLE, Int32.reduceAdd, Int32.reduceSub, Int32.reduceMul, e10, e01, ite_self, ab_mx, ab_mi, ab_mb, ab_ml2, rX8_comesEven_10, rX8_comesEven_11, rX8_comesEven_60, rX8_comesEven_62, rX8_comesEven_65, rX8_comesEven_66, rX8_comesEven_69, rX8_comesEven_70, rX8_comesEven_73, rX8_comesEven_74, q, hg]
        exact hP
      | true =>
        rw [e] at hP hg
        have hg : go = 1 := hg
        have z1 : ((1 : Int32) = 0) = False := by decide
        by_cases a : smF D n s = 0
        · have qa : (su = 0) = True := eq_true (Int32.toInt_inj.mp (by rw [hs, a]; rfl))
          rw [decide_eq_true a] at hP
          simp only [ab_loc, ab_cat, ab_kil, ab_al, ab_ln, ab_lnp, ab_rf, sh_0, sh_1, sh_2, sh_3, sh_4, sh_5, sh_6, sh_7, sh_8, sh_9, sh_10, sh_11, sh_12, sh_13, sh_14, sh_20, sh_21, sh_22, sh_23, sh_24, sh_25, sh_30, sh_31, sh_32, sh_40, sh_41, sh_42, sh_43, sh_44, sh_45, sh_46, sh_47, sh_48, sh_49, sh_50, sh_51, sh_52, sh_53, sh_54, sh_55, sh_56, sh_57, sh_58, sh_59, sh_60, ct_0, ct_1, ct_2, ct_3, ct_4, ct_5, ct_6, ct_7, ct_8, ct_9, ct_10, ct_11, ct_12, ct_13, ct_14, ct_20, ct_21, ct_22, ct_23, ct_24, ct_25, ct_30, ct_31, ct_32, ct_40, ct_41, ct_42, ct_43, ct_44, ct_45, ct_46, ct_47, ct_48, ct_49, ct_50, ct_51, ct_52, ct_53, ct_54, ct_55, ct_56, ct_57, ct_58, ct_59, ct_60, ki_m1, ki_0, ki_1, ki_2, ki_3, ki_4, ki_5, kb_m2, kb_m3, kb_m4, kb_m8, kb_m9, kb_10, kb_100, kb_16, kb_36, kb_6, kb_63, kb_8, kb_9, kb_99, ks_216, ks_2520, ks_256, ks_800, kl_0, kl_1, ↓reduceIte, reduceCtorEq, Nat.reduceAdd, Nat.reduceLT, Nat.reduceLeDiff, Nat.reduceEqDiff, List.map_cons, List.map_nil, List.sum_cons, List.sum_nil, List.cons_append, List.nil_append, Option.toList_some, Option.toList_none, true_and, and_true, true_or, or_true, not_true_eq_false, not_false_eq_true, Nat.lt_add_one, Nat.zero_le, eq_self, or_false, false_or, implies_true, forall_const, false_implies, forall_false, true_implies, and_self, Nat.zero_lt_one, Nat.add_zero, Nat.zero_add, Int32.reduceLT, Int32.reduceLE, Int32.reduceAdd, Int32.reduceSub, Int32.reduceMul, e10, e01, ite_self, ab_mx, ab_mi, ab_mb, ab_ml2, rX8_comesEven_10, rX8_comesEven_11, rX8_comesEven_60, rX8_comesEven_62, rX8_comesEven_65, rX8_comesEven_66, rX8_comesEven_69, rX8_comesEven_70, rX8_comesEven_73, rX8_comesEven_74, q, hg, z1, qa]
          exact hP
        · have qa : (su = 0) = False := eq_false (fun w => a (by rw [← hs, w]; rfl))
          rw [decide_eq_false a] at hP
          simp only [ab_loc, ab_cat, ab_kil, ab_al, ab_ln, ab_lnp, ab_rf, sh_0, sh_1, sh_2, sh_3, sh_4, sh_5, sh_6, sh_7, sh_8, sh_9, sh_10, sh_11, sh_12, sh_13, sh_14, sh_20, sh_21, sh_22, sh_23, sh_24, sh_25, sh_30, sh_31, sh_32, sh_40, sh_41, sh_42, sh_43, sh_44, sh_45, sh_46, sh_47, sh_48, sh_49, sh_50, sh_51, sh_52, sh_53, sh_54, sh_55, sh_56, sh_57, sh_58, sh_59, sh_60, ct_0, ct_1, ct_2, ct_3, ct_4, ct_5, ct_6, ct_7, ct_8, ct_9, ct_10, ct_11, ct_12, ct_13, ct_14, ct_20, ct_21, ct_22, ct_23, ct_24, ct_25, ct_30, ct_31, ct_32, ct_40, ct_41, ct_42, ct_43, ct_44, ct_45, ct_46, ct_47, ct_48, ct_49, ct_50, ct_51, ct_52, ct_53, ct_54, ct_55, ct_56, ct_57, ct_58, ct_59, ct_60, ki_m1, ki_0, ki_1, ki_2, ki_3, ki_4, ki_5, kb_m2, kb_m3, kb_m4, kb_m8, kb_m9, kb_10, kb_100, kb_16, kb_36, kb_6, kb_63, kb_8, kb_9, kb_99, ks_216, ks_2520, ks_256, ks_800, kl_0, kl_1, ↓reduceIte, reduceCtorEq, Nat.reduceAdd, Nat.reduceLT, Nat.reduceLeDiff, Nat.reduceEqDiff, List.map_cons, List.map_nil, List.sum_cons, List.sum_nil, List.cons_append, List.nil_append, Option.toList_some, Option.toList_none, true_and, and_true, true_or, or_true, not_true_eq_false, not_false_eq_true, Nat.lt_add_one, Nat.zero_le, eq_self, or_false, false_or, implies_true, forall_const, false_implies, forall_false, true_implies, and_self, Nat.zero_lt_one, Nat.add_zero, Nat.zero_add, Int32.reduceLT, Int32.reduceLE, Int32.reduceAdd, Int32.reduceSub, Int32.reduceMul, e10, e01, ite_self, ab_mx, ab_mi, ab_mb, ab_ml2, rX8_comesEven_10, rX8_comesEven_11, rX8_comesEven_60, rX8_comesEven_62, rX8_comesEven_65, rX8_comesEven_66, rX8_comesEven_69, rX8_comesEven_70, rX8_comesEven_73, rX8_comesEven_74, q, hg, z1, qa]
          exact hP
    | succ r ih =>
      intro K k su go er hk hs hg
      have q : ¬ x2 ≤ k := fun w => by have w := le32 w; omega
      have ek : (k + 1).toInt = (K + 1 : Nat) := by rw [i32_p1 (by omega)]; omega
      have vk : vp_in k 8 := vp_of (by omega) (by omega)
      have nk : k.toNatClampNeg = K := by show k.toInt.toNat = K; omega
      have d := hD K (by omega)
      have b := bD K (by omega)
      have bs := sm_b (D := D) (s := s) (k := K) (fun j hj => bD j (by omega))
      have t := shr_N hx s256 hk (show K < 8 by omega)
      have tail : ∀ su' : Int32, su'.toInt = smF D (K + 1) s → ab_wp mX8_comesEven cX8_comesEven none P 38 [some (.inr (some (40, 0))), some (.inl (.inl x1)), some (.inl (.inl x2)), some (.inl (.inl su')), some (.inl (.inl go)), some (.inl (.inl k))] [] σ := fun su' hs' => by
        have Z := fun go' => ih (K + 1) (k + 1) su' go' (by omega) ek hs'
        rw [gdF_s] at Z
        cases e : gdF D K s with
        | false =>
          rw [e] at hg Z
          have hg : go = 0 := hg
          have Z := Z 0 rfl
          simp only [ab_loc, ab_cat, ab_kil, ab_al, ab_ln, ab_lnp, ab_rf, sh_0, sh_1, sh_2, sh_3, sh_4, sh_5, sh_6, sh_7, sh_8, sh_9, sh_10, sh_11, sh_12, sh_13, sh_14, sh_20, sh_21, sh_22, sh_23, sh_24, sh_25, sh_30, sh_31, sh_32, sh_40, sh_41, sh_42, sh_43, sh_44, sh_45, sh_46, sh_47, sh_48, sh_49, sh_50, sh_51, sh_52, sh_53, sh_54, sh_55, sh_56, sh_57, sh_58, sh_59, sh_60, ct_0, ct_1, ct_2, ct_3, ct_4, ct_5, ct_6, ct_7, ct_8, ct_9, ct_10, ct_11, ct_12, ct_13, ct_14, ct_20, ct_21, ct_22, ct_23, ct_24, ct_25, ct_30, ct_31, ct_32, ct_40, ct_41, ct_42, ct_43, ct_44, ct_45, ct_46, ct_47, ct_48, ct_49, ct_50, ct_51, ct_52, ct_53, ct_54, ct_55, ct_56, ct_57, ct_58, ct_59, ct_60, ki_m1, ki_0, ki_1, ki_2, ki_3, ki_4, ki_5, kb_m2, kb_m3, kb_m4, kb_m8, kb_m9, kb_10, kb_100, kb_16, kb_36, kb_6, kb_63, kb_8, kb_9, kb_99, ks_216, ks_2520, ks_256, ks_800, kl_0, kl_1, ↓reduceIte, reduceCtorEq, Nat.reduceAdd, Nat.reduceLT, Nat.reduceLeDiff, Nat.reduceEqDiff, List.map_cons, List.map_nil, List.sum_cons, List.sum_nil, List.cons_append, List.nil_append, Option.toList_some, Option.toList_none, true_and, and_true, true_or, or_true, not_true_eq_false, not_false_eq_true, Nat.lt_add_one, Nat.zero_le, eq_self, or_false, false_or, implies_true, forall_const, false_implies, forall_false, true_implies, and_self, Nat.zero_lt_one, Nat.add_zero, Nat.zero_add, Int32.reduceLT, Int32.reduceLE, Int32.reduceAdd, Int32.reduceSub, Int32.reduceMul, e10, e01, ite_self, ab_mx, ab_mi, ab_mb, ab_ml2, rX8_comesEven_38, rX8_comesEven_40, rX8_comesEven_43, rX8_comesEven_44, rX8_comesEven_47, rX8_comesEven_48, rX8_comesEven_51, rX8_comesEven_52, rX8_comesEven_54, rX8_comesEven_57, hg]
          exact Z
        | true =>
          rw [e] at hg Z
          have hg : go = 1 := hg
          have z1 : ((1 : Int32) = 0) = False := by decide
          by_cases a : 0 ≤ smF D (K + 1) s
          · have qa : ¬ su' < 0 := fun w => by have w := lt32 w; rw [hs', t0i] at w; omega
            rw [decide_eq_true a] at Z
            have Z := Z 1 rfl
            simp only [ab_loc, ab_cat, ab_kil, ab_al, ab_ln, ab_lnp, ab_rf, sh_0, sh_1, sh_2, sh_3, sh_4, sh_5, sh_6, sh_7, sh_8, sh_9, sh_10, sh_11, sh_12, sh_13, sh_14, sh_20, sh_21, sh_22, sh_23, sh_24, sh_25, sh_30, sh_31, sh_32, sh_40, sh_41, sh_42, sh_43, sh_44, sh_45, sh_46, sh_47, sh_48, sh_49, sh_50, sh_51, sh_52, sh_53, sh_54, sh_55, sh_56, sh_57, sh_58, sh_59, sh_60, ct_0, ct_1, ct_2, ct_3, ct_4, ct_5, ct_6, ct_7, ct_8, ct_9, ct_10, ct_11, ct_12, ct_13, ct_14, ct_20, ct_21, ct_22, ct_23, ct_24, ct_25, ct_30, ct_31, ct_32, ct_40, ct_41, ct_42, ct_43, ct_44, ct_45, ct_46, ct_47, ct_48, ct_49, ct_50, ct_51, ct_52, ct_53, ct_54, ct_55, ct_56, ct_57, ct_58, ct_59, ct_60, ki_m1, ki_0, ki_1, ki_2, ki_3, ki_4, ki_5, kb_m2, kb_m3, kb_m4, kb_m8, kb_m9, kb_10, kb_100, kb_16, kb_36, kb_6, kb_63, kb_8, kb_9, kb_99, ks_216, ks_2520, ks_256, ks_800, kl_0, kl_1, ↓reduceIte, reduceCtorEq, Nat.reduceAdd, Nat.reduceLT, Nat.reduceLeDiff, Nat.reduceEqDiff, List.map_cons, List.map_nil, List.sum_cons, List.sum_nil, List.cons_append, List.nil_append, Option.toList_some, Option.toList_none, true_and, and_true, true_or, or_true, not_true_eq_false, not_false_eq_true, Nat.lt_add_one, Nat.zero_le, eq_self, or_false, false_or, implies_true, forall_const, false_implies, forall_false, true_implies, and_self, Nat.zero_lt_one, Nat.add_zero, Nat.zero_add, Int32.reduceLT, Int32.reduceLE, Int32.reduceAdd, Int32.reduceSub, Int32.reduceMul, e10, e01, ite_self, ab_mx, ab_mi, ab_mb, ab_ml2, rX8_comesEven_38, rX8_comesEven_40, rX8_comesEven_43, rX8_comesEven_44, rX8_comesEven_47, rX8_comesEven_48, rX8_comesEven_51, rX8_comesEven_52, rX8_comesEven_54, rX8_comesEven_57, hg, z1, qa]
            exact Z
          · have qa : su' < 0 := Int32.lt_iff_toInt_lt.mpr (by rw [hs', t0i]; omega)
            rw [decide_eq_false a] at Z
            have Z := Z 0 rfl
            simp only [ab_loc, ab_cat, ab_kil, ab_al, ab_ln, ab_lnp, ab_rf, sh_0, sh_1, sh_2, sh_3, sh_4, sh_5, sh_6, sh_7, sh_8, sh_9, sh_10, sh_11, sh_12, sh_13, sh_14, sh_20, sh_21, sh_22, sh_23, sh_24, sh_25, sh_30, sh_31, sh_32, sh_40, sh_41, sh_42, sh_43, sh_44, sh_45, sh_46, sh_47, sh_48, sh_49, sh_50, sh_51, sh_52, sh_53, sh_54, sh_55, sh_56, sh_57, sh_58, sh_59, sh_60, ct_0, ct_1, ct_2, ct_3, ct_4, ct_5, ct_6, ct_7, ct_8, ct_9, ct_10, ct_11, ct_12, ct_13, ct_14, ct_20, ct_21, ct_22, ct_23, ct_24, ct_25, ct_30, ct_31, ct_32, ct_40, ct_41, ct_42, ct_43, ct_44, ct_45, ct_46, ct_47, ct_48, ct_49, ct_50, ct_51, ct_52, ct_53, ct_54, ct_55, ct_56, ct_57, ct_58, ct_59, ct_60, ki_m1, ki_0, ki_1, ki_2, ki_3, ki_4, ki_5, kb_m2, kb_m3, kb_m4, kb_m8, kb_m9, kb_10, kb_100, kb_16, kb_36, kb_6, kb_63, kb_8, kb_9, kb_99, ks_216, ks_2520, ks_256, ks_800, kl_0, kl_1, ↓reduceIte, reduceCtorEq, Nat.reduceAdd, Nat.reduceLT, Nat.reduceLeDiff, Nat.reduceEqDiff, List.map_cons, List.map_nil, List.sum_cons, List.sum_nil, List.cons_append, List.nil_append, Option.toList_some, Option.toList_none, true_and, and_true, true_or, or_true, not_true_eq_false, not_false_eq_true, Nat.lt_add_one, Nat.zero_le, eq_self, or_false, false_or, implies_true, forall_const, false_implies, forall_false, true_implies, and_self, Nat.zero_lt_one, Nat.add_zero, Nat.zero_add, Int32.reduceLT, Int32.reduceLE, Int32.reduceAdd, Int32.reduceSub, Int32.reduceMul, e10, e01, ite_self, ab_mx, ab_mi, ab_mb, ab_ml2, rX8_comesEven_38, rX8_comesEven_40, rX8_comesEven_43, rX8_comesEven_44, rX8_comesEven_47, rX8_comesEven_48, rX8_comesEven_51, rX8_comesEven_52, rX8_comesEven_54, rX8_comesEven_57, hg, z1, qa]
            exact Z
      rw [rX8_comesEven_8]
      by_cases a : Nat.testBit s K = true
      · have qa : ((x1 >>> (k &&& 31)) &&& 1 = 1) = True := eq_true (t.mpr a)
        have Z := tail (su + σ.1 54 0 K) (by rw [i32_add (by rw [hs, d]; omega) (by rw [hs, d]; omega), hs, d, smF_s, if_pos a])
        simp only [ab_loc, ab_cat, ab_kil, ab_al, ab_ln, ab_lnp, ab_rf, sh_0, sh_1, sh_2, sh_3, sh_4, sh_5, sh_6, sh_7, sh_8, sh_9, sh_10, sh_11, sh_12, sh_13, sh_14, sh_20, sh_21, sh_22, sh_23, sh_24, sh_25, sh_30, sh_31, sh_32, sh_40, sh_41, sh_42, sh_43, sh_44, sh_45, sh_46, sh_47, sh_48, sh_49, sh_50, sh_51, sh_52, sh_53, sh_54, sh_55, sh_56, sh_57, sh_58, sh_59, sh_60, ct_0, ct_1, ct_2, ct_3, ct_4, ct_5, ct_6, ct_7, ct_8, ct_9, ct_10, ct_11, ct_12, ct_13, ct_14, ct_20, ct_21, ct_22, ct_23, ct_24, ct_25, ct_30, ct_31, ct_32, ct_40, ct_41, ct_42, ct_43, ct_44, ct_45, ct_46, ct_47, ct_48, ct_49, ct_50, ct_51, ct_52, ct_53, ct_54, ct_55, ct_56, ct_57, ct_58, ct_59, ct_60, ki_m1, ki_0, ki_1, ki_2, ki_3, ki_4, ki_5, kb_m2, kb_m3, kb_m4, kb_m8, kb_m9, kb_10, kb_100, kb_16, kb_36, kb_6, kb_63, kb_8, kb_9, kb_99, ks_216, ks_2520, ks_256, ks_800, kl_0, kl_1, ↓reduceIte, reduceCtorEq, Nat.reduceAdd, Nat.reduceLT, Nat.reduceLeDiff, Nat.reduceEqDiff, List.map_cons, List.map_nil, List.sum_cons, List.sum_nil, List.cons_append, List.nil_append, Option.toList_some, Option.toList_none, true_and, and_true, true_or, or_true, not_true_eq_false, not_false_eq_true, Nat.lt_add_one, Nat.zero_le, eq_self, or_false, false_or, implies_true, forall_const, false_implies, forall_false, true_implies, and_self, Nat.zero_lt_one, Nat.add_zero, Nat.zero_add, Int32.reduceLT, Int32.reduceLE, Int32.reduceAdd, Int32.reduceSub, Int32.reduceMul, e10, e01, ite_self, ab_mx, ab_mi, ab_mb, ab_ml2, rX8_comesEven_10, rX8_comesEven_11, rX8_comesEven_14, rX8_comesEven_15, rX8_comesEven_16, rX8_comesEven_18, rX8_comesEven_19, rX8_comesEven_20, rX8_comesEven_21, rX8_comesEven_22, rX8_comesEven_25, rX8_comesEven_26, rX8_comesEven_29, rX8_comesEven_31, rX8_comesEven_32, rX8_comesEven_35, rX8_comesEven_36, rX8_comesEven_37, q, qa, vk, nk]
        exact Z
      · have qa : ((x1 >>> (k &&& 31)) &&& 1 = 1) = False := eq_false (fun w => a (t.mp w))
        have Z := tail (su + 0) (by rw [Int32.add_zero, hs, smF_s, if_neg a, Int.add_zero])
        simp only [ab_loc, ab_cat, ab_kil, ab_al, ab_ln, ab_lnp, ab_rf, sh_0, sh_1, sh_2, sh_3, sh_4, sh_5, sh_6, sh_7, sh_8, sh_9, sh_10, sh_11, sh_12, sh_13, sh_14, sh_20, sh_21, sh_22, sh_23, sh_24, sh_25, sh_30, sh_31, sh_32, sh_40, sh_41, sh_42, sh_43, sh_44, sh_45, sh_46, sh_47, sh_48, sh_49, sh_50, sh_51, sh_52, sh_53, sh_54, sh_55, sh_56, sh_57, sh_58, sh_59, sh_60, ct_0, ct_1, ct_2, ct_3, ct_4, ct_5, ct_6, ct_7, ct_8, ct_9, ct_10, ct_11, ct_12, ct_13, ct_14, ct_20, ct_21, ct_22, ct_23, ct_24, ct_25, ct_30, ct_31, ct_32, ct_40, ct_41, ct_42, ct_43, ct_44, ct_45, ct_46, ct_47, ct_48, ct_49, ct_50, ct_51, ct_52, ct_53, ct_54, ct_55, ct_56, ct_57, ct_58, ct_59, ct_60, ki_m1, ki_0, ki_1, ki_2, ki_3, ki_4, ki_5, kb_m2, kb_m3, kb_m4, kb_m8, kb_m9, kb_10, kb_100, kb_16, kb_36, kb_6, kb_63, kb_8, kb_9, kb_99, ks_216, ks_2520, ks_256, ks_800, kl_0, kl_1, ↓reduceIte, reduceCtorEq, Nat.reduceAdd, Nat.reduceLT, Nat.reduceLeDiff, Nat.reduceEqDiff, List.map_cons, List.map_nil, List.sum_cons, List.sum_nil, List.cons_append, List.nil_append, Option.toList_some, Option.toList_none, true_and, and_true, true_or, or_true, not_true_eq_false, not_false_eq_true, Nat.lt_add_one, Nat.zero_le, eq_self, or_false, false_or, implies_true, forall_const, false_implies, forall_false, true_implies, and_self, Nat.zero_lt_one, Nat.add_zero, Nat.zero_add, Int32.reduceLT, Int32.reduceLE, Int32.reduceAdd, Int32.reduceSub, Int32.reduceMul, e10, e01, ite_self, ab_mx, ab_mi, ab_mb, ab_ml2, rX8_comesEven_10, rX8_comesEven_11, rX8_comesEven_14, rX8_comesEven_15, rX8_comesEven_16, rX8_comesEven_18, rX8_comesEven_19, rX8_comesEven_20, rX8_comesEven_21, rX8_comesEven_22, rX8_comesEven_25, rX8_comesEven_26, rX8_comesEven_29, rX8_comesEven_31, rX8_comesEven_32, rX8_comesEven_35, rX8_comesEven_36, rX8_comesEven_37, q, qa]
        exact Z
  have Z := loop n 0 0 0 1 (by omega) rfl rfl rfl
  simp only [ab_loc, ab_cat, ab_kil, ab_al, ab_ln, ab_lnp, ab_rf, sh_0, sh_1, sh_2, sh_3, sh_4, sh_5, sh_6, sh_7, sh_8, sh_9, sh_10, sh_11, sh_12, sh_13, sh_14, sh_20, sh_21, sh_22, sh_23, sh_24, sh_25, sh_30, sh_31, sh_32, sh_40, sh_41, sh_42, sh_43, sh_44, sh_45, sh_46, sh_47, sh_48, sh_49, sh_50, sh_51, sh_52, sh_53, sh_54, sh_55, sh_56, sh_57, sh_58, sh_59, sh_60, ct_0, ct_1, ct_2, ct_3, ct_4, ct_5, ct_6, ct_7, ct_8, ct_9, ct_10, ct_11, ct_12, ct_13, ct_14, ct_20, ct_21, ct_22, ct_23, ct_24, ct_25, ct_30, ct_31, ct_32, ct_40, ct_41, ct_42, ct_43, ct_44, ct_45, ct_46, ct_47, ct_48, ct_49, ct_50, ct_51, ct_52, ct_53, ct_54, ct_55, ct_56, ct_57, ct_58, ct_59, ct_60, ki_m1, ki_0, ki_1, ki_2, ki_3, ki_4, ki_5, kb_m2, kb_m3, kb_m4, kb_m8, kb_m9, kb_10, kb_100, kb_16, kb_36, kb_6, kb_63, kb_8, kb_9, kb_99, ks_216, ks_2520, ks_256, ks_800, kl_0, kl_1, ↓reduceIte, reduceCtorEq, Nat.reduceAdd, Nat.reduceLT, Nat.reduceLeDiff, Nat.reduceEqDiff, List.map_cons, List.map_nil, List.sum_cons, List.sum_nil, List.cons_append, List.nil_append, Option.toList_some, Option.toList_none, true_and, and_true, true_or, or_true, not_true_eq_false, not_false_eq_true, Nat.lt_add_one, Nat.zero_le, eq_self, or_false, false_or, implies_true, forall_const, false_implies, forall_false, true_implies, and_self, Nat.zero_lt_one, Nat.add_zero, Nat.zero_add, Int32.reduceLT, Int32.reduceLE, Int32.reduceAdd, Int32.reduceSub, Int32.reduceMul, e10, e01, ite_self, ab_mx, ab_mi, ab_mb, ab_ml2, uX8_comesEven, rX8_comesEven_0, rX8_comesEven_1, rX8_comesEven_2, rX8_comesEven_3, rX8_comesEven_5, rX8_comesEven_6]
  exact Z
def ckX (s g : Nat) : Bool := !Nat.beq (g &&& s) g || Nat.beq (s &&& (g ^^^ 4294967295)) (s ^^^ g)
theorem ckX_all : (List.range 256).all (fun s => (List.range 256).all (fun g => ckX s g)) = true := by decide +kernel
theorem andx_N {x y : Int32} {s g : Nat} (hx : x.toInt = s) (hs : s < 256) (hy : y.toInt = g) (hg : g < 256) (h : g &&& s = g) : (x &&& (y ^^^ -1)).toInt = (s ^^^ g : Nat) := by
  have mx := i32_nn (y := x) (by omega)
  have my := i32_nn (y := y) (by omega)
  have hm : (x &&& (y ^^^ -1)).toBitVec.msb = false := by rw [Int32.toBitVec_and, BitVec.msb_and, mx, Bool.false_and]
  have ex := i32_nat mx
  have ey := i32_nat my
  have a := all_2 ckX_all hs hg
  unfold ckX at a
  rw [h, Nat.beq_refl, Bool.not_true, Bool.false_or] at a
  rw [i32_nat hm, Int32.toBitVec_and, BitVec.toNat_and, Int32.toBitVec_xor, BitVec.toNat_xor, show x.toBitVec.toNat = s by omega, show y.toBitVec.toNat = g by omega, show (-1 : Int32).toBitVec.toNat = 4294967295 from rfl, Nat.eq_of_beq_eq_true a]
/-- the most groups over a list of sets, the reference -/
def rgF (ev : Nat → Bool) (R : Nat → Int) (s : Nat) (l : List Nat) (m : Int) : Int := match l with
  | [] => m
  | x :: l => rgF ev R s l (if (¬ x = 0 ∧ 0 ≤ R (s ^^^ x) ∧ ev x = true) ∧ m < R (s ^^^ x) + 1 then R (s ^^^ x) + 1 else m)
theorem rg_p {ev : Nat → Bool} {R : Nat → Int} {s : Nat} : ∀ {l : List Nat} {m : Int}, m ≤ rgF ev R s l m ∧ (∀ x, x ∈ l → ¬ x = 0 → 0 ≤ R (s ^^^ x) → ev x = true → R (s ^^^ x) + 1 ≤ rgF ev R s l m) ∧ (rgF ev R s l m = m ∨ ∃ x, x ∈ l ∧ ¬ x = 0 ∧ 0 ≤ R (s ^^^ x) ∧ ev x = true ∧ rgF ev R s l m = R (s ^^^ x) + 1)
  | [], m => ⟨Int.le_refl m, fun x hx => absurd hx List.not_mem_nil, Or.inl rfl⟩
  | x :: l, m => by
    have ih := rg_p (ev := ev) (R := R) (s := s) (l := l) (m := if (¬ x = 0 ∧ 0 ≤ R (s ^^^ x) ∧ ev x = true) ∧ m < R (s ^^^ x) + 1 then R (s ^^^ x) + 1 else m)
    have e : rgF ev R s (x :: l) m = rgF ev R s l (if (¬ x = 0 ∧ 0 ≤ R (s ^^^ x) ∧ ev x = true) ∧ m < R (s ^^^ x) + 1 then R (s ^^^ x) + 1 else m) := rfl
    rw [e]
    by_cases a : (¬ x = 0 ∧ 0 ≤ R (s ^^^ x) ∧ ev x = true) ∧ m < R (s ^^^ x) + 1
    · rw [if_pos a] at ih ⊢
      refine ⟨by omega, fun y hy h1 h2 h3 => ?_, ?_⟩
      · rcases List.mem_cons.mp hy with w | w
        · rw [w]; exact ih.1
        · exact ih.2.1 y w h1 h2 h3
      · rcases ih.2.2 with w | ⟨y, w1, w2, w3, w4, w5⟩
        · exact Or.inr ⟨x, List.mem_cons_self, a.1.1, a.1.2.1, a.1.2.2, w⟩
        · exact Or.inr ⟨y, List.mem_cons_of_mem _ w1, w2, w3, w4, w5⟩
    · rw [if_neg a] at ih ⊢
      refine ⟨ih.1, fun y hy h1 h2 h3 => ?_, ?_⟩
      · rcases List.mem_cons.mp hy with w | w
        · rw [w] at h1 h2 h3 ⊢
          have : ¬ m < R (s ^^^ x) + 1 := fun q => a ⟨⟨h1, h2, h3⟩, q⟩
          omega
        · exact ih.2.1 y w h1 h2 h3
      · rcases ih.2.2 with w | ⟨y, w1, w2, w3, w4, w5⟩
        · exact Or.inl w
        · exact Or.inr ⟨y, List.mem_cons_of_mem _ w1, w2, w3, w4, w5⟩
theorem rg_e {ev : Nat → Bool} {S : Nat} {C C' : Nat → Int} (S0 : 0 < S) (hS : S < 256) (h : rgP ev S C) (e : ∀ s, s < S → C' s = C s) (hm : C' S = rgF ev C S (slF S 256 S) (-9)) : rgP ev (S + 1) C' := by
  have mp := rg_p (ev := ev) (R := C) (s := S) (l := slF S 256 S) (m := -9)
  have sub : ∀ s x, s < 256 → x < 256 → x &&& s = x → ¬ x = 0 → s ^^^ x < s := fun s x h1 h2 h3 h4 => ((xr_sb s h1 x h2 h3).2.2 h4).1
  refine ⟨by rw [e 0 S0]; exact h.1, fun s h0 h1 x hx hm' xz hev hr => ?_, fun s h0 h1 => ?_⟩
  · by_cases z : s = S
    · subst z
      rw [e _ (sub s x hS hx hm' xz)] at hr ⊢
      rw [hm]
      exact mp.2.1 x ((sl_mem hS).mpr ⟨hx, hm'⟩) xz hr hev
    · have l := sub s x (by omega) hx hm' xz
      rw [e _ (by omega)] at hr ⊢
      rw [e s (by omega)]
      exact h.2.1 s h0 (by omega) x hx hm' xz hev hr
  · by_cases z : s = S
    · subst z
      rcases mp.2.2 with w | ⟨x, w1, w2, w3, w4, w5⟩
      · exact Or.inl (by rw [hm]; exact w)
      · obtain ⟨k1, k2⟩ := (sl_mem hS).mp w1
        have l := sub s x hS k1 k2 w2
        exact Or.inr ⟨x, k1, k2, w2, w4, by rw [e _ l]; exact w3, by rw [hm, w5, e _ l]⟩
    · rcases h.2.2 s h0 (by omega) with w | ⟨x, w1, w2, w3, w4, w5, w6⟩
      · exact Or.inl (by rw [e s (by omega)]; exact w)
      · have l := sub s x (by omega) w1 w2 w3
        exact Or.inr ⟨x, w1, w2, w3, w4, by rw [e _ (by omega)]; exact w5, by rw [e s (by omega), e _ (by omega)]; exact w6⟩
def grS (k _ _ : Nat) : Bool := Nat.beq k 55
def grH (σ : ab_S) (C : Nat → Int) (S : Nat) : Prop := ∀ s, s < S → (σ.1 55 0 s).toInt = C s ∧ -9 ≤ C s ∧ C s ≤ s
set_option maxRecDepth 100000 in
set_option maxHeartbeats 1000000 in
theorem rc_in {σ : ab_S} {P : ab_P} {x1 x2 x3 se : Int32} {n S : Nat} {D R : Nat → Int} (hr : rg_R σ) (n8 : n ≤ 8) (hn : x3.toInt = n) (hD : ∀ k, k < n → (σ.1 54 0 k).toInt = D k) (bD : ∀ k, k < n → -99 ≤ D k ∧ D k ≤ 99) (hS : se.toInt = S) (S256 : S < 256) (hR : grH σ R S) (nxt : ∀ (d : ab_S) (so : Int32) (l6 : Option ab_V), fr grS σ d → (∀ s, s < S → d.1 55 0 s = σ.1 55 0 s) → (d.1 55 0 S).toInt = rgF (evF D n) R S (slF S 256 S) (-9) → ab_wp mX8_coins cX8_coins none P 267 [some (.inr (some (40, 0))), some (.inl (.inl x1)), some (.inl (.inl x2)), some (.inl (.inl x3)), some (.inl (.inl se)), some (.inl (.inl so)), l6] [] d) : ∀ (k c : Nat) (so : Int32) (d : ab_S) (m : Int) (l6 : Option ab_V), c < k → so.toInt = c → c < 256 → c &&& S = c → fr grS σ d → (∀ s, s < S → d.1 55 0 s = σ.1 55 0 s) → (d.1 55 0 S).toInt = m → -9 ≤ m → m ≤ 256 → rgF (evF D n) R S (slF S 256 S) (-9) = rgF (evF D n) R S (slF S k c) m → ab_wp mX8_coins cX8_coins none P 178 [some (.inr (some (40, 0))), some (.inl (.inl x1)), some (.inl (.inl x2)), some (.inl (.inl x3)), some (.inl (.inl se)), some (.inl (.inl so)), l6] [] d := by
  have vS : vp_in se 256 := vp_of (by omega) (by omega)
  have nS : se.toNatClampNeg = S := by show se.toInt.toNat = S; omega
  intro k
  induction k with
  | zero => intro c so d m l6 ck; exact absurd ck (Nat.not_lt_zero c)
  | succ k ih =>
    intro c so d m l6 ck hc c256 cS fd hs hm m0 m1 he
    have e1 : slF S (k + 1) c = c :: (if c = 0 then [] else slF S k ((c - 1) &&& S)) := rfl
    rw [e1] at he
    have e2 : rgF (evF D n) R S (c :: (if c = 0 then [] else slF S k ((c - 1) &&& S))) m = rgF (evF D n) R S (if c = 0 then [] else slF S k ((c - 1) &&& S)) (if (¬ c = 0 ∧ 0 ≤ R (S ^^^ c) ∧ evF D n c = true) ∧ m < R (S ^^^ c) + 1 then R (S ^^^ c) + 1 else m) := rfl
    rw [e2] at he
    by_cases z : c = 0
    · have q : so ≤ 0 := Int32.le_iff_toInt_le.mpr (by rw [t0i]; omega)
      rw [if_pos z, if_neg (fun w => w.1.1 z)] at he
      have Z := nxt d so l6 fd hs (by rw [hm, he]; rfl)
      rw [rX8_coins_178]
      simp only [ab_loc, ab_cat, ab_kil, ab_al, ab_ln, ab_lnp, ab_rf, sh_0, sh_1, sh_2, sh_3, sh_4, sh_5, sh_6, sh_7, sh_8, sh_9, sh_10, sh_11, sh_12, sh_13, sh_14, sh_20, sh_21, sh_22, sh_23, sh_24, sh_25, sh_30, sh_31, sh_32, sh_40, sh_41, sh_42, sh_43, sh_44, sh_45, sh_46, sh_47, sh_48, sh_49, sh_50, sh_51, sh_52, sh_53, sh_54, sh_55, sh_56, sh_57, sh_58, sh_59, sh_60, ct_0, ct_1, ct_2, ct_3, ct_4, ct_5, ct_6, ct_7, ct_8, ct_9, ct_10, ct_11, ct_12, ct_13, ct_14, ct_20, ct_21, ct_22, ct_23, ct_24, ct_25, ct_30, ct_31, ct_32, ct_40, ct_41, ct_42, ct_43, ct_44, ct_45, ct_46, ct_47, ct_48, ct_49, ct_50, ct_51, ct_52, ct_53, ct_54, ct_55, ct_56, ct_57, ct_58, ct_59, ct_60, ki_m1, ki_0, ki_1, ki_2, ki_3, ki_4, ki_5, kb_m2, kb_m3, kb_m4, kb_m8, kb_m9, kb_10, kb_100, kb_16, kb_36, kb_6, kb_63, kb_8, kb_9, kb_99, ks_216, ks_2520, ks_256, ks_800, kl_0, kl_1, ↓reduceIte, reduceCtorEq, Nat.reduceAdd, Nat.reduceLT, Nat.reduceLeDiff, Nat.reduceEqDiff, List.map_cons, List.map_nil, List.sum_cons, List.sum_nil, List.cons_append, List.nil_append, Option.toList_some, Option.toList_none, true_and, and_true, true_or, or_true, not_true_eq_false, not_false_eq_true, Nat.lt_add_one, Nat.zero_le, eq_self, or_false, false_or, implies_true, forall_const, false_implies, forall_false, true_implies, and_self, Nat.zero_lt_one, Nat.add_zero, Nat.zero_add, Int32.reduceLT, Int32.reduceLE, Int32.reduceAdd, Int32.reduceSub, Int32.reduceMul, e10, e01, ite_self, ab_mx, ab_mi, ab_mb, ab_ml2, rX8_coins_180, q]
      exact Z
    · have q : ¬ so ≤ 0 := fun w => by have w := le32 w; rw [t0i] at w; omega
      rw [if_neg z] at he
      have ex := andx_N hS S256 hc c256 cS
      have lt := ((xr_sb S S256 c c256 cS).2.2 z).1
      have vx : vp_in (se &&& (so ^^^ -1)) 256 := vp_of (by omega) (by omega)
      have nx : (se &&& (so ^^^ -1)).toNatClampNeg = S ^^^ c := by show (se &&& (so ^^^ -1)).toInt.toNat = _; omega
      have G := hR (S ^^^ c) lt
      have dG : d.1 55 0 (S ^^^ c) = σ.1 55 0 (S ^^^ c) := hs _ lt
      have eG : (σ.1 55 0 (S ^^^ c) + 1).toInt = R (S ^^^ c) + 1 := by rw [i32_p1 (by omega), G.1]
      have o2 : (so - 1).toInt = (c - 1 : Nat) := by rw [i32_m1 (by omega)]; omega
      have ea := i32_andN o2 hS
      have al : (c - 1) &&& S ≤ c - 1 := Nat.and_le_left
      have tail : ∀ (e : ab_S) (m' : Int) (l6 : Option ab_V), fr grS σ e → (∀ s, s < S → e.1 55 0 s = σ.1 55 0 s) → (e.1 55 0 S).toInt = m' → -9 ≤ m' → m' ≤ 256 → m' = (if (¬ c = 0 ∧ 0 ≤ R (S ^^^ c) ∧ evF D n c = true) ∧ m < R (S ^^^ c) + 1 then R (S ^^^ c) + 1 else m) → ab_wp mX8_coins cX8_coins none P 255 [some (.inr (some (40, 0))), some (.inl (.inl x1)), some (.inl (.inl x2)), some (.inl (.inl x3)), some (.inl (.inl se)), some (.inl (.inl so)), l6] [] e := fun e m' l6 fe h1 h2 b0 b1 em => by
        rw [← em] at he
        have Z := ih ((c - 1) &&& S) ((so - 1) &&& se) e m' l6 (by omega) ea (by omega) (by rw [Nat.and_assoc, Nat.and_self]) fe h1 h2 b0 b1 he
        simp only [ab_loc, ab_cat, ab_kil, ab_al, ab_ln, ab_lnp, ab_rf, sh_0, sh_1, sh_2, sh_3, sh_4, sh_5, sh_6, sh_7, sh_8, sh_9, sh_10, sh_11, sh_12, sh_13, sh_14, sh_20, sh_21, sh_22, sh_23, sh_24, sh_25, sh_30, sh_31, sh_32, sh_40, sh_41, sh_42, sh_43, sh_44, sh_45, sh_46, sh_47, sh_48, sh_49, sh_50, sh_51, sh_52, sh_53, sh_54, sh_55, sh_56, sh_57, sh_58, sh_59, sh_60, ct_0, ct_1, ct_2, ct_3, ct_4, ct_5, ct_6, ct_7, ct_8, ct_9, ct_10, ct_11, ct_12, ct_13, ct_14, ct_20, ct_21, ct_22, ct_23, ct_24, ct_25, ct_30, ct_31, ct_32, ct_40, ct_41, ct_42, ct_43, ct_44, ct_45, ct_46, ct_47, ct_48, ct_49, ct_50, ct_51, ct_52, ct_53, ct_54, ct_55, ct_56, ct_57, ct_58, ct_59, ct_60, ki_m1, ki_0, ki_1, ki_2, ki_3, ki_4, ki_5, kb_m2, kb_m3, kb_m4, kb_m8, kb_m9, kb_10, kb_100, kb_16, kb_36, kb_6, kb_63, kb_8, kb_9, kb_99, ks_216, ks_2520, ks_256, ks_800, kl_0, kl_1, ↓reduceIte, reduceCtorEq, Nat.reduceAdd, Nat.reduceLT, Nat.reduceLeDiff, Nat.reduceEqDiff, List.map_cons, List.map_nil, List.sum_cons, List.sum_nil, List.cons_append, List.nil_append, Option.toList_some, Option.toList_none, true_and, and_true, true_or, or_true, not_true_eq_false, not_false_eq_true, Nat.lt_add_one, Nat.zero_le, eq_self, or_false, false_or, implies_true, forall_const, false_implies, forall_false, true_implies, and_self, Nat.zero_lt_one, Nat.add_zero, Nat.zero_add, Int32.reduceLT, Int32.reduceLE, Int32.reduceAdd, Int32.reduceSub, Int32.reduceMul, e10, e01, ite_self, ab_mx, ab_mi, ab_mb, ab_ml2, rX8_coins_255, rX8_coins_257, rX8_coins_258, rX8_coins_259, rX8_coins_261, rX8_coins_262, rX8_coins_264]
        exact Z
      rw [rX8_coins_178]
      by_cases a : 0 ≤ R (S ^^^ c)
      · have qa : ¬ σ.1 55 0 (S ^^^ c) < 0 := fun w => by have w := lt32 w; rw [G.1, t0i] at w; omega
        simp only [ab_loc, ab_cat, ab_kil, ab_al, ab_ln, ab_lnp, ab_rf, sh_0, sh_1, sh_2, sh_3, sh_4, sh_5, sh_6, sh_7, sh_8, sh_9, sh_10, sh_11, sh_12, sh_13, sh_14, sh_20, sh_21, sh_22, sh_23, sh_24, sh_25, sh_30, sh_31, sh_32, sh_40, sh_41, sh_42, sh_43, sh_44, sh_45, sh_46, sh_47, sh_48, sh_49, sh_50, sh_51, sh_52, sh_53, sh_54, sh_55, sh_56, sh_57, sh_58, sh_59, sh_60, ct_0, ct_1, ct_2, ct_3, ct_4, ct_5, ct_6, ct_7, ct_8, ct_9, ct_10, ct_11, ct_12, ct_13, ct_14, ct_20, ct_21, ct_22, ct_23, ct_24, ct_25, ct_30, ct_31, ct_32, ct_40, ct_41, ct_42, ct_43, ct_44, ct_45, ct_46, ct_47, ct_48, ct_49, ct_50, ct_51, ct_52, ct_53, ct_54, ct_55, ct_56, ct_57, ct_58, ct_59, ct_60, ki_m1, ki_0, ki_1, ki_2, ki_3, ki_4, ki_5, kb_m2, kb_m3, kb_m4, kb_m8, kb_m9, kb_10, kb_100, kb_16, kb_36, kb_6, kb_63, kb_8, kb_9, kb_99, ks_216, ks_2520, ks_256, ks_800, kl_0, kl_1, ↓reduceIte, reduceCtorEq, Nat.reduceAdd, Nat.reduceLT, Nat.reduceLeDiff, Nat.reduceEqDiff, List.map_cons, List.map_nil, List.sum_cons, List.sum_nil, List.cons_append, List.nil_append, Option.toList_some, Option.toList_none, true_and, and_true, true_or, or_true, not_true_eq_false, not_false_eq_true, Nat.lt_add_one, Nat.zero_le, eq_self, or_false, false_or, implies_true, forall_const, false_implies, forall_false, true_implies, and_self, Nat.zero_lt_one, Nat.add_zero, Nat.zero_add, Int32.reduceLT, Int32.reduceLE, Int32.reduceAdd, Int32.reduceSub, Int32.reduceMul, e10, e01, ite_self, ab_mx, ab_mi, ab_mb, ab_ml2, rX8_coins_180, rX8_coins_183, rX8_coins_184, rX8_coins_187, rX8_coins_189, rX8_coins_191, rX8_coins_192, rX8_coins_193, rX8_coins_194, rX8_coins_195, rX8_coins_198, rX8_coins_199, rX8_coins_201, rX8_coins_202, q, vx, nx, dG, qa]
        refine sX8_comesEvenF n8 hc c256 hn (fun k hk => by rw [(fd.2 54 0 k rfl).1]; exact hD k hk) bD ?_
        cases b : evF D n c with
        | false =>
          have Z := tail d m l6 fd hs hm m0 m1 (by rw [if_neg (fun w => by have w := w.1.2.2; rw [b] at w; cases w)])
          have zb : bi false = 0 := rfl
          simp only [ab_loc, ab_cat, ab_kil, ab_al, ab_ln, ab_lnp, ab_rf, sh_0, sh_1, sh_2, sh_3, sh_4, sh_5, sh_6, sh_7, sh_8, sh_9, sh_10, sh_11, sh_12, sh_13, sh_14, sh_20, sh_21, sh_22, sh_23, sh_24, sh_25, sh_30, sh_31, sh_32, sh_40, sh_41, sh_42, sh_43, sh_44, sh_45, sh_46, sh_47, sh_48, sh_49, sh_50, sh_51, sh_52, sh_53, sh_54, sh_55, sh_56, sh_57, sh_58, sh_59, sh_60, ct_0, ct_1, ct_2, ct_3, ct_4, ct_5, ct_6, ct_7, ct_8, ct_9, ct_10, ct_11, ct_12, ct_13, ct_14, ct_20, ct_21, ct_22, ct_23, ct_24, ct_25, ct_30, ct_31, ct_32, ct_40, ct_41, ct_42, ct_43, ct_44, ct_45, ct_46, ct_47, ct_48, ct_49, ct_50, ct_51, ct_52, ct_53, ct_54, ct_55, ct_56, ct_57, ct_58, ct_59, ct_60, ki_m1, ki_0, ki_1, ki_2, ki_3, ki_4, ki_5, kb_m2, kb_m3, kb_m4, kb_m8, kb_m9, kb_10, kb_100, kb_16, kb_36, kb_6, kb_63, kb_8, kb_9, kb_99, ks_216, ks_2520, ks_256, ks_800, kl_0, kl_1, ↓reduceIte, reduceCtorEq, Nat.reduceAdd, Nat.reduceLT, Nat.reduceLeDiff, Nat.reduceEqDiff, List.map_cons, List.map_nil, List.sum_cons, List.sum_nil, List.cons_append, List.nil_append, Option.toList_some, Option.toList_none, true_and, and_true, true_or, or_true, not_true_eq_false, not_false_eq_true, Nat.lt_add_one, Nat.zero_le, eq_self, or_false, false_or, implies_true, forall_const, false_implies, forall_false, true_implies, and_self, Nat.zero_lt_one, Nat.add_zero, Nat.zero_add, Int32.reduceLT, Int32.reduceLE, Int32.reduceAdd, Int32.reduceSub, Int32.reduceMul, e10, e01, ite_self, ab_mx, ab_mi, ab_mb, ab_ml2, rX8_coins_205, zb]
          exact Z
        | true =>
          have zb : (bi true = 0) = False := by decide
          obtain ⟨w, hw⟩ : ∃ w, d.1 55 0 S = w := ⟨_, rfl⟩
          rw [hw] at hm
          by_cases e : m < R (S ^^^ c) + 1
          · have qe : ¬ σ.1 55 0 (S ^^^ c) + 1 ≤ w := fun y => by have y := le32 y; rw [eG, hm] at y; omega
            have Z := tail (ab_si d 55 0 S (σ.1 55 0 (S ^^^ c) + 1)) (R (S ^^^ c) + 1) (some (.inl (.inl (σ.1 55 0 (S ^^^ c) + 1)))) (fd.si 55 0 _ rfl (i32_lo _) (i32_hi _)) (fun s h => by rw [sn_ij (by omega)]; exact hs s h) (by rw [sn_ie]; exact eG) (by omega) (by omega) (by rw [if_pos ⟨⟨z, a, b⟩, e⟩])
            simp only [ab_loc, ab_cat, ab_kil, ab_al, ab_ln, ab_lnp, ab_rf, sh_0, sh_1, sh_2, sh_3, sh_4, sh_5, sh_6, sh_7, sh_8, sh_9, sh_10, sh_11, sh_12, sh_13, sh_14, sh_20, sh_21, sh_22, sh_23, sh_24, sh_25, sh_30, sh_31, sh_32, sh_40, sh_41, sh_42, sh_43, sh_44, sh_45, sh_46, sh_47, sh_48, sh_49, sh_50, sh_51, sh_52, sh_53, sh_54, sh_55, sh_56, sh_57, sh_58, sh_59, sh_60, ct_0, ct_1, ct_2, ct_3, ct_4, ct_5, ct_6, ct_7, ct_8, ct_9, ct_10, ct_11, ct_12, ct_13, ct_14, ct_20, ct_21, ct_22, ct_23, ct_24, ct_25, ct_30, ct_31, ct_32, ct_40, ct_41, ct_42, ct_43, ct_44, ct_45, ct_46, ct_47, ct_48, ct_49, ct_50, ct_51, ct_52, ct_53, ct_54, ct_55, ct_56, ct_57, ct_58, ct_59, ct_60, ki_m1, ki_0, ki_1, ki_2, ki_3, ki_4, ki_5, kb_m2, kb_m3, kb_m4, kb_m8, kb_m9, kb_10, kb_100, kb_16, kb_36, kb_6, kb_63, kb_8, kb_9, kb_99, ks_216, ks_2520, ks_256, ks_800, kl_0, kl_1, ↓reduceIte, reduceCtorEq, Nat.reduceAdd, Nat.reduceLT, Nat.reduceLeDiff, Nat.reduceEqDiff, List.map_cons, List.map_nil, List.sum_cons, List.sum_nil, List.cons_append, List.nil_append, Option.toList_some, Option.toList_none, true_and, and_true, true_or, or_true, not_true_eq_false, not_false_eq_true, Nat.lt_add_one, Nat.zero_le, eq_self, or_false, false_or, implies_true, forall_const, false_implies, forall_false, true_implies, and_self, Nat.zero_lt_one, Nat.add_zero, Nat.zero_add, Int32.reduceLT, Int32.reduceLE, Int32.reduceAdd, Int32.reduceSub, Int32.reduceMul, e10, e01, ite_self, ab_mx, ab_mi, ab_mb, ab_ml2, rX8_coins_205, rX8_coins_208, rX8_coins_209, rX8_coins_212, rX8_coins_214, rX8_coins_216, rX8_coins_217, rX8_coins_218, rX8_coins_219, rX8_coins_220, rX8_coins_221, rX8_coins_222, rX8_coins_224, rX8_coins_225, rX8_coins_228, rX8_coins_230, rX8_coins_232, rX8_coins_233, rX8_coins_236, rX8_coins_238, rX8_coins_239, rX8_coins_242, rX8_coins_244, rX8_coins_247, rX8_coins_248, rX8_coins_251, rX8_coins_253, rX8_coins_254, zb, vx, nx, dG, vS, nS, hw, qe]
            exact Z
          · have qe : σ.1 55 0 (S ^^^ c) + 1 ≤ w := Int32.le_iff_toInt_le.mpr (by rw [eG, hm]; omega)
            have Z := tail (ab_si d 55 0 S w) m (some (.inl (.inl (σ.1 55 0 (S ^^^ c) + 1)))) (fd.si 55 0 _ rfl (i32_lo _) (i32_hi _)) (fun s h => by rw [sn_ij (by omega)]; exact hs s h) (by rw [sn_ie]; exact hm) m0 m1 (by rw [if_neg (fun y => e y.2)])
            simp only [ab_loc, ab_cat, ab_kil, ab_al, ab_ln, ab_lnp, ab_rf, sh_0, sh_1, sh_2, sh_3, sh_4, sh_5, sh_6, sh_7, sh_8, sh_9, sh_10, sh_11, sh_12, sh_13, sh_14, sh_20, sh_21, sh_22, sh_23, sh_24, sh_25, sh_30, sh_31, sh_32, sh_40, sh_41, sh_42, sh_43, sh_44, sh_45, sh_46, sh_47, sh_48, sh_49, sh_50, sh_51, sh_52, sh_53, sh_54, sh_55, sh_56, sh_57, sh_58, sh_59, sh_60, ct_0, ct_1, ct_2, ct_3, ct_4, ct_5, ct_6, ct_7, ct_8, ct_9, ct_10, ct_11, ct_12, ct_13, ct_14, ct_20, ct_21, ct_22, ct_23, ct_24, ct_25, ct_30, ct_31, ct_32, ct_40, ct_41, ct_42, ct_43, ct_44, ct_45, ct_46, ct_47, ct_48, ct_49, ct_50, ct_51, ct_52, ct_53, ct_54, ct_55, ct_56, ct_57, ct_58, ct_59, ct_60, ki_m1, ki_0, ki_1, ki_2, ki_3, ki_4, ki_5, kb_m2, kb_m3, kb_m4, kb_m8, kb_m9, kb_10, kb_100, kb_16, kb_36, kb_6, kb_63, kb_8, kb_9, kb_99, ks_216, ks_2520, ks_256, ks_800, kl_0, kl_1, ↓reduceIte, reduceCtorEq, Nat.reduceAdd, Nat.reduceLT, Nat.reduceLeDiff, Nat.reduceEqDiff, List.map_cons, List.map_nil, List.sum_cons, List.sum_nil, List.cons_append, List.nil_append, Option.toList_some, Option.toList_none, true_and, and_true, true_or, or_true, not_true_eq_false, not_false_eq_true, Nat.lt_add_one, Nat.zero_le, eq_self, or_false, false_or, implies_true, forall_const, false_implies, forall_false, true_implies, and_self, Nat.zero_lt_one, Nat.add_zero, Nat.zero_add, Int32.reduceLT, Int32.reduceLE, Int32.reduceAdd, Int32.reduceSub, Int32.reduceMul, e10, e01, ite_self, ab_mx, ab_mi, ab_mb, ab_ml2, rX8_coins_205, rX8_coins_208, rX8_coins_209, rX8_coins_212, rX8_coins_214, rX8_coins_216, rX8_coins_217, rX8_coins_218, rX8_coins_219, rX8_coins_220, rX8_coins_221, rX8_coins_222, rX8_coins_224, rX8_coins_225, rX8_coins_228, rX8_coins_230, rX8_coins_232, rX8_coins_233, rX8_coins_236, rX8_coins_238, rX8_coins_239, rX8_coins_242, rX8_coins_244, rX8_coins_247, rX8_coins_248, rX8_coins_251, rX8_coins_253, rX8_coins_254, zb, vx, nx, dG, vS, nS, hw, qe]
            exact Z
      · have qa : σ.1 55 0 (S ^^^ c) < 0 := Int32.lt_iff_toInt_lt.mpr (by rw [G.1, t0i]; omega)
        have Z := tail d m l6 fd hs hm m0 m1 (by rw [if_neg (fun w => a w.1.2.1)])
        simp only [ab_loc, ab_cat, ab_kil, ab_al, ab_ln, ab_lnp, ab_rf, sh_0, sh_1, sh_2, sh_3, sh_4, sh_5, sh_6, sh_7, sh_8, sh_9, sh_10, sh_11, sh_12, sh_13, sh_14, sh_20, sh_21, sh_22, sh_23, sh_24, sh_25, sh_30, sh_31, sh_32, sh_40, sh_41, sh_42, sh_43, sh_44, sh_45, sh_46, sh_47, sh_48, sh_49, sh_50, sh_51, sh_52, sh_53, sh_54, sh_55, sh_56, sh_57, sh_58, sh_59, sh_60, ct_0, ct_1, ct_2, ct_3, ct_4, ct_5, ct_6, ct_7, ct_8, ct_9, ct_10, ct_11, ct_12, ct_13, ct_14, ct_20, ct_21, ct_22, ct_23, ct_24, ct_25, ct_30, ct_31, ct_32, ct_40, ct_41, ct_42, ct_43, ct_44, ct_45, ct_46, ct_47, ct_48, ct_49, ct_50, ct_51, ct_52, ct_53, ct_54, ct_55, ct_56, ct_57, ct_58, ct_59, ct_60, ki_m1, ki_0, ki_1, ki_2, ki_3, ki_4, ki_5, kb_m2, kb_m3, kb_m4, kb_m8, kb_m9, kb_10, kb_100, kb_16, kb_36, kb_6, kb_63, kb_8, kb_9, kb_99, ks_216, ks_2520, ks_256, ks_800, kl_0, kl_1, ↓reduceIte, reduceCtorEq, Nat.reduceAdd, Nat.reduceLT, Nat.reduceLeDiff, Nat.reduceEqDiff, List.map_cons, List.map_nil, List.sum_cons, List.sum_nil, List.cons_append, List.nil_append, Option.toList_some, Option.toList_none, true_and, and_true, true_or, or_true, not_true_eq_false, not_false_eq_true, Nat.lt_add_one, Nat.zero_le, eq_self, or_false, false_or, implies_true, forall_const, false_implies, forall_false, true_implies, and_self, Nat.zero_lt_one, Nat.add_zero, Nat.zero_add, Int32.reduceLT, Int32.reduceLE, Int32.reduceAdd, Int32.reduceSub, Int32.reduceMul, e10, e01, ite_self, ab_mx, ab_mi, ab_mb, ab_ml2, rX8_coins_180, rX8_coins_183, rX8_coins_184, rX8_coins_187, rX8_coins_189, rX8_coins_191, rX8_coins_192, rX8_coins_193, rX8_coins_194, rX8_coins_195, q, vx, nx, dG, qa]
        exact Z
