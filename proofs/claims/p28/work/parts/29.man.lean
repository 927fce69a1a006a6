set_option maxRecDepth 100000 in
theorem gX3_insert {σ0 σ : ab_S} {P : ab_P} (hJ : ck_J 0 σ0 σ) {i0 : Nat} (b0 : i0 ≤ 1) {x1 : Int64} {x2 : Int64} (hP : ∀ σ', ck_J 0 σ0 σ' → P none σ') : ab_sp mX3_insert cX3_insert [.inr (some (30, i0)), .inl (.inr x1), .inl (.inr x2)] σ P := by
  have hi : i0 < 2 := Nat.lt_succ_of_le b0
  have hs : 0 ≤ (σ.1 30 i0 0).toInt ∧ (σ.1 30 i0 0).toInt ≤ 8 := hJ.1 30 i0 0
  have fin : ∀ (p : Int32) (σ : ab_S), 0 ≤ p.toInt → p.toInt ≤ 7 → ck_J 0 σ0 σ → (σ.1 30 i0 0).toInt ≤ 7 → ab_wp mX3_insert cX3_insert none P 73 [some (.inr (some (30, i0))), some (.inl (.inr x1)), none, some (.inl (.inr x2)), none, some (.inl (.inl p))] [] σ := by
    intro p σ h1 h2 hJ h3
    have hv : vp_in p 8 := vp_of h1 (by omega)
    have h4 : 0 ≤ (σ.1 30 i0 0).toInt := (hJ.1 30 i0 0).1
    have e1 : (σ.1 30 i0 0 + 1).toInt = (σ.1 30 i0 0).toInt + 1 := i32_p1 (by omega)
    simp only [ab_loc, ab_cat, ab_kil, ab_al, ab_ln, ab_lnp, ab_rf, sh_0, sh_1, sh_2, sh_3, sh_4, sh_5, sh_6, sh_7, sh_8, sh_9, sh_10, sh_11, sh_12, sh_13, sh_14, sh_20, sh_21, sh_22, sh_23, sh_24, sh_25, sh_30, sh_31, sh_32, sh_40, sh_41, sh_42, sh_43, sh_44, sh_45, sh_46, sh_47, sh_48, sh_49, sh_50, sh_51, sh_52, sh_53, sh_54, sh_55, sh_56, sh_57, sh_58, sh_59, sh_60, ct_0, ct_1, ct_2, ct_3, ct_4, ct_5, ct_6, ct_7, ct_8, ct_9, ct_10, ct_11, ct_12, ct_13, ct_14, ct_20, ct_21, ct_22, ct_23, ct_24, ct_25, ct_30, ct_31, ct_32, ct_40, ct_41, ct_42, ct_43, ct_44, ct_45, ct_46, ct_47, ct_48, ct_49, ct_50, ct_51, ct_52, ct_53, ct_54, ct_55, ct_56, ct_57, ct_58, ct_59, ct_60, ki_m1, ki_0, ki_1, ki_2, ki_3, ki_4, ki_5, kb_m2, kb_m3, kb_m4, kb_m8, kb_m9, kb_10, kb_100, kb_16, kb_36, kb_6, kb_63, kb_8, kb_9, kb_99, ks_216, ks_2520, ks_256, ks_800, kl_0, kl_1, ↓reduceIte, reduceCtorEq, Nat.reduceAdd, Nat.reduceLT, Nat.reduceLeDiff, Nat.reduceEqDiff, List.map_cons, List.map_nil, List.sum_cons, List.sum_nil, List.cons_append, List.nil_append, Option.toList_some, Option.toList_none, true_and, and_true, true_or, or_true, not_true_eq_false, not_false_eq_true, Nat.lt_add_one, Nat.zero_le, eq_self, or_false, false_or, implies_true, forall_const, false_implies, forall_false, true_implies, and_self, Nat.zero_lt_one, Nat.add_zero, Nat.zero_add, Int32.reduceLT, Int32.reduceLE, Int32.reduceAdd, Int32.reduceSub, Int32.reduceMul, e10, e01, ite_self, ab_mx, ab_mi, ab_mb, ab_ml2, rX3_insert_73, rX3_insert_74, rX3_insert_77, rX3_insert_79, rX3_insert_80, rX3_insert_81, rX3_insert_82, rX3_insert_85, rX3_insert_87, rX3_insert_88, rX3_insert_89, rX3_insert_90i, rX3_insert_90a, rX3_insert_91, rX3_insert_94, rX3_insert_95, rX3_insert_96, rX3_insert_99, rX3_insert_100i, rX3_insert_100a, rX3_insert_101, rX3_insert_104, rX3_insert_105, rX3_insert_106, rX3_insert_109, rX3_insert_110i, rX3_insert_110a, rX3_insert_111, rX3_insert_114, rX3_insert_115, rX3_insert_116, rX3_insert_117, rX3_insert_118, rX3_insert_121, hi, hv]
    exact hP _ (((((hJ.sl i0 rfl).sl i0 rfl).si (k := 30) (j := 0) (v := σ.1 30 i0 0 + 1) i0 rfl (show (0 : Int) ≤ (σ.1 30 i0 0 + 1).toInt by omega) (show (σ.1 30 i0 0 + 1).toInt ≤ 8 by omega)).sl i0 rfl).sl i0 rfl)
  have key : ∀ (n : Nat) (p : Int32) (σ : ab_S), p.toInt = n → n ≤ 7 → ck_J 0 σ0 σ → (σ.1 30 i0 0).toInt ≤ 7 → ab_wp mX3_insert cX3_insert none P 16 [some (.inr (some (30, i0))), some (.inl (.inr x1)), none, some (.inl (.inr x2)), none, some (.inl (.inl p))] [] σ := by
    intro n
    induction n with
    | zero =>
      intro p σ e _ hJ h3
      have c : p ≤ 0 := Int32.le_iff_toInt_le.mpr (by rw [t0i]; omega)
      rw [rX3_insert_16, rX3_insert_18, if_pos c]
      exact fin p σ (by omega) (by omega) hJ h3
    | succ n ih =>
      intro p σ e hn hJ h3
      have c : ¬ p ≤ 0 := fun q => by have q := le32 q; rw [t0i] at q; omega
      have em : (p - 1).toInt = p.toInt - 1 := i32_m1 (by omega)
      have ea : (p + -1).toInt = p.toInt - 1 := by
        rw [i32_add (by rw [show (-1 : Int32).toInt = -1 from rfl]; omega) (by rw [show (-1 : Int32).toInt = -1 from rfl]; omega), show (-1 : Int32).toInt = -1 from rfl]
        omega
      have hv : vp_in p 8 := vp_of (by omega) (by omega)
      have hv1 : vp_in (p - 1) 8 := vp_of (by omega) (by omega)
      rw [rX3_insert_16]
      simp only [ab_loc, ab_cat, ab_kil, ab_al, ab_ln, ab_lnp, ab_rf, sh_0, sh_1, sh_2, sh_3, sh_4, sh_5, sh_6, sh_7, sh_8, sh_9, sh_10, sh_11, sh_12, sh_13, sh_14, sh_20, sh_21, sh_22, sh_23, sh_24, sh_25, sh_30, sh_31, sh_32, sh_40, sh_41, sh_42, sh_43, sh_44, sh_45, sh_46, sh_47, sh_48, sh_49, sh_50, sh_51, sh_52, sh_53, sh_54, sh_55, sh_56, sh_57, sh_58, sh_59, sh_60, ct_0, ct_1, ct_2, ct_3, ct_4, ct_5, ct_6, ct_7, ct_8, ct_9, ct_10, ct_11, ct_12, ct_13, ct_14, ct_20, ct_21, ct_22, ct_23, ct_24, ct_25, ct_30, ct_31, ct_32, ct_40, ct_41, ct_42, ct_43, ct_44, ct_45, ct_46, ct_47, ct_48, ct_49, ct_50, ct_51, ct_52, ct_53, ct_54, ct_55, ct_56, ct_57, ct_58, ct_59, ct_60, ki_m1, ki_0, ki_1, ki_2, ki_3, ki_4, ki_5, kb_m2, kb_m3, kb_m4, kb_m8, kb_m9, kb_10, kb_100, kb_16, kb_36, kb_6, kb_63, kb_8, kb_9, kb_99, ks_216, ks_2520, ks_256, ks_800, kl_0, kl_1, ↓reduceIte, reduceCtorEq, Nat.reduceAdd, Nat.reduceLT, Nat.reduceLeDiff, Nat.reduceEqDiff, List.map_cons, List.map_nil, List.sum_cons, List.sum_nil, List.cons_append, List.nil_append, Option.toList_some, Option.toList_none, true_and, and_true, true_or, or_true, not_true_eq_false, not_false_eq_true, Nat.lt_add_one, Nat.zero_le, eq_self, or_false, false_or, implies_true, forall_const, false_implies, forall_false, true_implies, and_self, Nat.zero_lt_one, Nat.add_zero, Nat.zero_add, Int32.reduceLT, Int32.reduceLE, Int32.reduceAdd, Int32.reduceSub, Int32.reduceMul, e10, e01, ite_self, ab_mx, ab_mi, ab_mb, ab_ml2, rX3_insert_18, rX3_insert_21, rX3_insert_22, rX3_insert_25, rX3_insert_27, rX3_insert_28, rX3_insert_29, rX3_insert_30, rX3_insert_31, rX3_insert_32, rX3_insert_35, rX3_insert_36, rX3_insert_39, rX3_insert_41, rX3_insert_42, rX3_insert_45, rX3_insert_47, rX3_insert_48, rX3_insert_49, rX3_insert_50, rX3_insert_51, rX3_insert_52, rX3_insert_55, rX3_insert_57, rX3_insert_58, rX3_insert_61, rX3_insert_63, rX3_insert_64, rX3_insert_65, rX3_insert_66, rX3_insert_67, rX3_insert_70, hi, hv, hv1, c]
      split
      · exact fin p σ (by omega) (by omega) hJ h3
      · exact ih _ _ (by rw [ea]; omega) (by omega) ((hJ.sl i0 rfl).sl i0 rfl) h3
  simp only [ab_loc, ab_cat, ab_kil, ab_al, ab_ln, ab_lnp, ab_rf, sh_0, sh_1, sh_2, sh_3, sh_4, sh_5, sh_6, sh_7, sh_8, sh_9, sh_10, sh_11, sh_12, sh_13, sh_14, sh_20, sh_21, sh_22, sh_23, sh_24, sh_25, sh_30, sh_31, sh_32, sh_40, sh_41, sh_42, sh_43, sh_44, sh_45, sh_46, sh_47, sh_48, sh_49, sh_50, sh_51, sh_52, sh_53, sh_54, sh_55, sh_56, sh_57, sh_58, sh_59, sh_60, ct_0, ct_1, ct_2, ct_3, ct_4, ct_5, ct_6, ct_7, ct_8, ct_9, ct_10, ct_11, ct_12, ct_13, ct_14, ct_20, ct_21, ct_22, ct_23, ct_24, ct_25, ct_30, ct_31, ct_32, ct_40, ct_41, ct_42, ct_43, ct_44, ct_45, ct_46, ct_47, ct_48, ct_49, ct_50, ct_51, ct_52, ct_53, ct_54, ct_55, ct_56, ct_57, ct_58, ct_59, ct_60, ki_m1, ki_0, ki_1, ki_2, ki_3, ki_4, ki_5, kb_m2, kb_m3, kb_m4, kb_m8, kb_m9, kb_10, kb_100, kb_16, kb_36, kb_6, kb_63, kb_8, kb_9, kb_99, ks_216, ks_2520, ks_256, ks_800, kl_0, kl_1, ↓reduceIte, reduceCtorEq, Nat.reduceAdd, Nat.reduceLT, Nat.reduceLeDiff, Nat.reduceEqDiff, List.map_cons, List.map_nil, List.sum_cons, List.sum_nil, List.cons_append, List.nil_append, Option.toList_some, Option.toList_none, true_and, and_true, true_or, or_true, not_true_eq_false, not_false_eq_true, Nat.lt_add_one, Nat.zero_le, eq_self, or_false, false_or, implies_true, forall_const, false_implies, forall_false, true_implies, and_self, Nat.zero_lt_one, Nat.add_zero, Nat.zero_add, Int32.reduceLT, Int32.reduceLE, Int32.reduceAdd, Int32.reduceSub, Int32.reduceMul, e10, e01, ite_self, ab_mx, ab_mi, ab_mb, ab_ml2, uX3_insert, rX3_insert_0, rX3_insert_1, rX3_insert_4, rX3_insert_6, rX3_insert_9, rX3_insert_10, rX3_insert_11, rX3_insert_14, hi]
  split
  · rename_i d
    have d := lt32 d
    exact key (σ.1 30 i0 0).toInt.toNat _ σ (by omega) (by have : (8 : Int32).toInt = 8 := rfl; omega) hJ (by have : (8 : Int32).toInt = 8 := rfl; omega)
  · exact hP _ hJ
theorem zX3_insert {σ0 : ab_S} : ∀ c ∈ qX3_insert, ck_co (ck_J 0 σ0) c (ab_sp mX3_insert cX3_insert) := ck_one (fun as σ P hJ hd hP => by
  obtain ⟨_, u0, rfl, ⟨i0, rfl, _, b0⟩, hd0⟩ := ck_dc hd
  obtain ⟨_, u1, rfl, ⟨x1, rfl, _, _, z1⟩, hd1⟩ := ck_dc hd0
  obtain ⟨_, u2, rfl, ⟨x2, rfl, _, _, z2⟩, hd2⟩ := ck_dc hd1
  have e := ck_dn hd2
  subst e
  exact gX3_insert hJ b0 (ck_oV hP))
