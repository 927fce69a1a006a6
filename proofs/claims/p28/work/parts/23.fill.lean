theorem fl_v {l a b : Int32} (g0 : 0 ≤ l.toInt) (a0 : 0 ≤ a.toInt) (b1 : b.toInt ≤ 99) (hs : a.toInt ≤ b.toInt) : ¬ b - a + 1 = 0 ∧ 0 ≤ (l / (b - a + 1)).toInt ∧ 0 ≤ (a + (l - l / (b - a + 1) * (b - a + 1))).toInt ∧ (a + (l - l / (b - a + 1) * (b - a + 1))).toInt ≤ 99 := by
  have e1 : (b - a).toInt = b.toInt - a.toInt := i32_sub (by omega) (by omega)
  have ew : (b - a + 1).toInt = b.toInt - a.toInt + 1 := by rw [i32_p1 (by omega), e1]
  have d1 : ¬ b - a + 1 = 0 := i32_ne0 (by omega)
  have w1 : 1 ≤ (b - a + 1).toInt := by omega
  obtain ⟨w, hw⟩ : ∃ w, b - a + 1 = w := ⟨_, rfl⟩
  rw [hw] at ew d1 w1 ⊢
  have r0 : 0 ≤ l.toInt % w.toInt := Int.emod_nonneg _ (by omega)
  have r1 : l.toInt % w.toInt < w.toInt := Int.emod_lt_of_pos _ (by omega)
  have q0 : 0 ≤ l.toInt / w.toInt := Int.ediv_nonneg g0 (by omega)
  have er := i32_rem g0 w1
  refine ⟨d1, by rw [i32_div g0 w1]; exact q0, ?_⟩
  rw [i32_add (by rw [er]; omega) (by rw [er]; omega), er]
  omega
set_option maxRecDepth 100000 in
theorem gX8_fill {σ0 σ : ab_S} {P : ab_P} (hJ : ck_J 0 σ0 σ) {x1 : Int32} (l1 : 0 ≤ x1.toInt) (m1 : x1.toInt ≤ 1) {x2 : Int32} (l2 : 0 ≤ x2.toInt) (m2 : x2.toInt ≤ 3) {x3 : Int32} (l3 : 0 ≤ x3.toInt) (m3 : x3.toInt ≤ 2147483647) (hP : ∀ σ', ck_J 0 σ0 σ' → P none σ') : ab_sp mX8_fill cX8_fill [.inr (some (40, 0)), .inl (.inl x1), .inl (.inl x2), .inl (.inl x3)] σ P := by
  have v2 : vp_in x2 4 := vp_of l2 (by omega)
  have n2 : x2.toNatClampNeg = x2.toInt.toNat := rfl
  have nt : x2.toNatClampNeg < 4 := by omega
  have hm : 0 ≤ (σ0.1 41 0 x2.toNatClampNeg).toInt ∧ (σ0.1 41 0 x2.toNatClampNeg).toInt ≤ 8 := by rw [← (hJ.2.1 41 _ rfl 0).1]; exact hJ.1 41 0 _
  have hp := hJ.2.2 x2.toNatClampNeg
  have many : ∀ c, ck_J 0 σ0 c → c.1 41 0 x2.toNatClampNeg = σ0.1 41 0 x2.toNatClampNeg := fun c h => (h.2.1 41 _ rfl 0).1
  have key : ∀ (n : Nat) (l f : Int32) (l6 : Option ab_V) (c : ab_S), (8 - f.toInt).toNat = n → 0 ≤ f.toInt → 0 ≤ l.toInt → ck_J 0 σ0 c → ab_wp mX8_fill cX8_fill none P 6 [some (.inr (some (40, 0))), some (.inl (.inl x1)), some (.inl (.inl x2)), some (.inl (.inl x3)), some (.inl (.inl l)), some (.inl (.inl f)), l6] [] c := by
    intro n
    induction n with
    | zero =>
      intro l f l6 c en f0 g0 hc
      have em := many c hc
      have c2 : σ0.1 41 0 x2.toNatClampNeg ≤ f := Int32.le_iff_toInt_le.mpr (by omega)
      rw [rX8_fill_6]
      simp only [ab_loc, ab_cat, ab_kil, ab_al, ab_ln, ab_lnp, ab_rf, sh_0, sh_1, sh_2, sh_3, sh_4, sh_5, sh_6, sh_7, sh_8, sh_9, sh_10, sh_11, sh_12, sh_13, sh_14, sh_20, sh_21, sh_22, sh_23, sh_24, sh_25, sh_30, sh_31, sh_32, sh_40, sh_41, sh_42, sh_43, sh_44, sh_45, sh_46, sh_47, sh_48, sh_49, sh_50, sh_51, sh_52, sh_53, sh_54, sh_55, sh_56, sh_57, sh_58, sh_59, sh_60, ct_0, ct_1, ct_2, ct_3, ct_4, ct_5, ct_6, ct_7, ct_8, ct_9, ct_10, ct_11, ct_12, ct_13, ct_14, ct_20, ct_21, ct_22, ct_23, ct_24, ct_25, ct_30, ct_31, ct_32, ct_40, ct_41, ct_42, ct_43, ct_44, ct_45, ct_46, ct_47, ct_48, ct_49, ct_50, ct_51, ct_52, ct_53, ct_54, ct_55, ct_56, ct_57, ct_58, ct_59, ct_60, ki_m1, ki_0, ki_1, ki_2, ki_3, ki_4, ki_5, kb_m2, kb_m3, kb_m4, kb_m8, kb_m9, kb_10, kb_100, kb_16, kb_36, kb_6, kb_63, kb_8, kb_9, kb_99, ks_216, ks_2520, ks_256, ks_800, kl_0, kl_1, ↓reduceIte, reduceCtorEq, Nat.reduceAdd, Nat.reduceLT, Nat.reduceLeDiff, Nat.reduceEqDiff, List.map_cons, List.map_nil, List.sum_cons, List.sum_nil, List.cons_append, List.nil_append, Option.toList_some, Option.toList_none, true_and, and_true, true_or, or_true, not_true_eq_false, not_false_eq_true, Nat.lt_add_one, Nat.zero_le, eq_self, or_false, false_or, implies_true, forall_const, false_implies, forall_false, true_implies, and_self, Nat.zero_lt_one, Nat.add_zero, Nat.zero_add, Int32.reduceLT, Int32.reduceLE, Int32.reduceAdd, Int32.reduceSub, Int32.reduceMul, e10, e01, ite_self, ab_mx, ab_mi, ab_mb, ab_ml2, rX8_fill_8, rX8_fill_9, rX8_fill_12, rX8_fill_13, rX8_fill_14, rX8_fill_17, rX8_fill_18, rX8_fill_21, rX8_fill_23, rX8_fill_24, rX8_fill_25, rX8_fill_27, rX8_fill_28, rX8_fill_29, rX8_fill_30, rX8_fill_33, rX8_fill_35, rX8_fill_36, rX8_fill_37, rX8_fill_39, rX8_fill_40, rX8_fill_41, rX8_fill_42, rX8_fill_43, rX8_fill_44, rX8_fill_46, rX8_fill_47, rX8_fill_50, rX8_fill_52, rX8_fill_53, rX8_fill_54, rX8_fill_56, rX8_fill_57, rX8_fill_58, rX8_fill_61, rX8_fill_63, rX8_fill_64, rX8_fill_65, rX8_fill_67, rX8_fill_68, rX8_fill_69, rX8_fill_71, rX8_fill_73, rX8_fill_74, rX8_fill_75, rX8_fill_76, rX8_fill_78, rX8_fill_80, rX8_fill_81, rX8_fill_83, rX8_fill_86, rX8_fill_89, v2, em, c2]
      exact hP _ hc
    | succ n ih =>
      intro l f l6 c en f0 g0 hc
      have em := many c hc
      rw [rX8_fill_6]
      by_cases c2 : σ0.1 41 0 x2.toNatClampNeg ≤ f
      · simp only [ab_loc, ab_cat, ab_kil, ab_al, ab_ln, ab_lnp, ab_rf, sh_0, sh_1, sh_2, sh_3, sh_4, sh_5, sh_6, sh_7, sh_8, sh_9, sh_10, sh_11, sh_12, sh_13, sh_14, sh_20, sh_21, sh_22, sh_23, sh_24, sh_25, sh_30, sh_31, sh_32, sh_40, sh_41, sh_42, sh_43, sh_44, sh_45, sh_46, sh_47, sh_48, sh_49, sh_50, sh_51, sh_52, sh_53, sh_54, sh_55, sh_56, sh_57, sh_58, sh_59, sh_60, ct_0, ct_1, ct_2, ct_3, ct_4, ct_5, ct_6, ct_7, ct_8, ct_9, ct_10, ct_11, ct_12, ct_13, ct_14, ct_20, ct_21, ct_22, ct_23, ct_24, ct_25, ct_30, ct_31, ct_32, ct_40, ct_41, ct_42, ct_43, ct_44, ct_45, ct_46, ct_47, ct_48, ct_49, ct_50, ct_51, ct_52, ct_53, ct_54, ct_55, ct_56, ct_57, ct_58, ct_59, ct_60, ki_m1, ki_0, ki_1, ki_2, ki_3, ki_4, ki_5, kb_m2, kb_m3, kb_m4, kb_m8, kb_m9, kb_10, kb_100, kb_16, kb_36, kb_6, kb_63, kb_8, kb_9, kb_99, ks_216, ks_2520, ks_256, ks_800, kl_0, kl_1, ↓reduceIte, reduceCtorEq, Nat.reduceAdd, Nat.reduceLT, Nat.reduceLeDiff, Nat.reduceEqDiff, List.map_cons, List.map_nil, List.sum_cons, List.sum_nil, List.cons_append, List.nil_append, Option.toList_some, Option.toList_none, true_and, and_true, true_or, or_true, not_true_eq_false, not_false_eq_true, Nat.lt_add_one, Nat.zero_le, eq_self, or_false, false_or, implies_true, forall_const, false_implies, forall_false, true_implies, and_self, Nat.zero_lt_one, Nat.add_zero, Nat.zero_add, Int32.reduceLT, Int32.reduceLE, Int32.reduceAdd, Int32.reduceSub, Int32.reduceMul, e10, e01, ite_self, ab_mx, ab_mi, ab_mb, ab_ml2, rX8_fill_8, rX8_fill_9, rX8_fill_12, rX8_fill_13, rX8_fill_14, rX8_fill_17, rX8_fill_18, rX8_fill_21, rX8_fill_23, rX8_fill_24, rX8_fill_25, rX8_fill_27, rX8_fill_28, rX8_fill_29, rX8_fill_30, rX8_fill_33, rX8_fill_35, rX8_fill_36, rX8_fill_37, rX8_fill_39, rX8_fill_40, rX8_fill_41, rX8_fill_42, rX8_fill_43, rX8_fill_44, rX8_fill_46, rX8_fill_47, rX8_fill_50, rX8_fill_52, rX8_fill_53, rX8_fill_54, rX8_fill_56, rX8_fill_57, rX8_fill_58, rX8_fill_61, rX8_fill_63, rX8_fill_64, rX8_fill_65, rX8_fill_67, rX8_fill_68, rX8_fill_69, rX8_fill_71, rX8_fill_73, rX8_fill_74, rX8_fill_75, rX8_fill_76, rX8_fill_78, rX8_fill_80, rX8_fill_81, rX8_fill_83, rX8_fill_86, rX8_fill_89, v2, em, c2]
        exact hP _ hc
      · have c1 := nle32 c2
        have ef : (f + 1).toInt = f.toInt + 1 := i32_p1 (by omega)
        have va : vp_in (8 * x1 + f) 16 := ix8 l1 (by omega) f0 (by omega) (by omega)
        have vb : vp_in (8 * x2 + f) 32 := ix8 l2 m2 f0 (by omega) (by omega)
        have et2 := ix8n l2 m2 f0 (show f.toInt ≤ 7 by omega)
        have hs := (hp f.toInt.toNat nt (by omega)).2
        rw [← et2, ← (hc.2.1 42 _ rfl 0).1, ← (hc.2.1 43 _ rfl 0).1] at hs
        have hl : 0 ≤ (c.1 42 0 (8 * x2 + f).toNatClampNeg).toInt ∧ (c.1 42 0 (8 * x2 + f).toNatClampNeg).toInt ≤ 99 := hc.1 42 0 _
        have hh : 0 ≤ (c.1 43 0 (8 * x2 + f).toNatClampNeg).toInt ∧ (c.1 43 0 (8 * x2 + f).toNatClampNeg).toInt ≤ 99 := hc.1 43 0 _
        obtain ⟨a, ha⟩ : ∃ a, c.1 42 0 (8 * x2 + f).toNatClampNeg = a := ⟨_, rfl⟩
        obtain ⟨b, hb⟩ : ∃ b, c.1 43 0 (8 * x2 + f).toNatClampNeg = b := ⟨_, rfl⟩
        rw [ha] at hs hl
        rw [hb] at hs hh
        have V := fl_v g0 hl.1 hh.2 hs
        have K := ih (l / (b - a + 1)) (f + 1) (some (.inl (.inl (b - a + 1)))) (ab_si c 46 0 (8 * x1 + f).toNatClampNeg (a + (l - l / (b - a + 1) * (b - a + 1)))) (by omega) (by omega) V.2.1 (hc.si (k := 46) 0 rfl V.2.2.1 V.2.2.2)
        simp only [ab_loc, ab_cat, ab_kil, ab_al, ab_ln, ab_lnp, ab_rf, sh_0, sh_1, sh_2, sh_3, sh_4, sh_5, sh_6, sh_7, sh_8, sh_9, sh_10, sh_11, sh_12, sh_13, sh_14, sh_20, sh_21, sh_22, sh_23, sh_24, sh_25, sh_30, sh_31, sh_32, sh_40, sh_41, sh_42, sh_43, sh_44, sh_45, sh_46, sh_47, sh_48, sh_49, sh_50, sh_51, sh_52, sh_53, sh_54, sh_55, sh_56, sh_57, sh_58, sh_59, sh_60, ct_0, ct_1, ct_2, ct_3, ct_4, ct_5, ct_6, ct_7, ct_8, ct_9, ct_10, ct_11, ct_12, ct_13, ct_14, ct_20, ct_21, ct_22, ct_23, ct_24, ct_25, ct_30, ct_31, ct_32, ct_40, ct_41, ct_42, ct_43, ct_44, ct_45, ct_46, ct_47, ct_48, ct_49, ct_50, ct_51, ct_52, ct_53, ct_54, ct_55, ct_56, ct_57, ct_58, ct_59, ct_60, ki_m1, ki_0, ki_1, ki_2, ki_3, ki_4, ki_5, kb_m2, kb_m3, kb_m4, kb_m8, kb_m9, kb_10, kb_100, kb_16, kb_36, kb_6, kb_63, kb_8, kb_9, kb_99, ks_216, ks_2520, ks_256, ks_800, kl_0, kl_1, ↓reduceIte, reduceCtorEq, Nat.reduceAdd, Nat.reduceLT, Nat.reduceLeDiff, Nat.reduceEqDiff, List.map_cons, List.map_nil, List.sum_cons, List.sum_nil, List.cons_append, List.nil_append, Option.toList_some, Option.toList_none, true_and, and_true, true_or, or_true, not_true_eq_false, not_false_eq_true, Nat.lt_add_one, Nat.zero_le, eq_self, or_false, false_or, implies_true, forall_const, false_implies, forall_false, true_implies, and_self, Nat.zero_lt_one, Nat.add_zero, Nat.zero_add, Int32.reduceLT, Int32.reduceLE, Int32.reduceAdd, Int32.reduceSub, Int32.reduceMul, e10, e01, ite_self, ab_mx, ab_mi, ab_mb, ab_ml2, rX8_fill_8, rX8_fill_9, rX8_fill_12, rX8_fill_13, rX8_fill_14, rX8_fill_17, rX8_fill_18, rX8_fill_21, rX8_fill_23, rX8_fill_24, rX8_fill_25, rX8_fill_27, rX8_fill_28, rX8_fill_29, rX8_fill_30, rX8_fill_33, rX8_fill_35, rX8_fill_36, rX8_fill_37, rX8_fill_39, rX8_fill_40, rX8_fill_41, rX8_fill_42, rX8_fill_43, rX8_fill_44, rX8_fill_46, rX8_fill_47, rX8_fill_50, rX8_fill_52, rX8_fill_53, rX8_fill_54, rX8_fill_56, rX8_fill_57, rX8_fill_58, rX8_fill_61, rX8_fill_63, rX8_fill_64, rX8_fill_65, rX8_fill_67, rX8_fill_68, rX8_fill_69, rX8_fill_71, rX8_fill_73, rX8_fill_74, rX8_fill_75, rX8_fill_76, rX8_fill_78, rX8_fill_80, rX8_fill_81, rX8_fill_83, rX8_fill_86, v2, va, vb, em, c2, ha, hb, V.1]
        exact K
  have K := key 8 x3 0 none σ rfl (by decide) l3 hJ
  simp only [ab_loc, ab_cat, ab_kil, ab_al, ab_ln, ab_lnp, ab_rf, sh_0, sh_1, sh_2, sh_3, sh_4, sh_5, sh_6, sh_7, sh_8, sh_9, sh_10, sh_11, sh_12, sh_13, sh_14, sh_20, sh_21, sh_22, sh_23, sh_24, sh_25, sh_30, sh_31, sh_32, sh_40, sh_41, sh_42, sh_43, sh_44, sh_45, sh_46, sh_47, sh_48, sh_49, sh_50, sh_51, sh_52, sh_53, sh_54, sh_55, sh_56, sh_57, sh_58, sh_59, sh_60, ct_0, ct_1, ct_2, ct_3, ct_4, ct_5, ct_6, ct_7, ct_8, ct_9, ct_10, ct_11, ct_12, ct_13, ct_14, ct_20, ct_21, ct_22, ct_23, ct_24, ct_25, ct_30, ct_31, ct_32, ct_40, ct_41, ct_42, ct_43, ct_44, ct_45, ct_46, ct_47, ct_48, ct_49, ct_50, ct_51, ct_52, ct_53, ct_54, ct_55, ct_56, ct_57, ct_58, ct_59, ct_60, ki_m1, ki_0, ki_1, ki_2, ki_3, ki_4, ki_5, kb_m2, kb_m3, kb_m4, kb_m8, kb_m9, kb_10, kb_100, kb_16, kb_36, kb_6, kb_63, kb_8, kb_9, kb_99, ks_216, ks_2520, ks_256, ks_800, kl_0, kl_1, ↓reduceIte, reduceCtorEq, Nat.reduceAdd, Nat.reduceLT, Nat.reduceLeDiff, Nat.reduceEqDiff, List.map_cons, List.map_nil, List.sum_cons, List.sum_nil, List.cons_append, List.nil_append, Option.toList_some, Option.toList_none, true_and, and_true, true_or, or_true, not_true_eq_false, not_false_eq_true, Nat.lt_add_one, Nat.zero_le, eq_self, or_false, false_or, implies_true, forall_const, false_implies, forall_false, true_implies, and_self, Nat.zero_lt_one, Nat.add_zero, Nat.zero_add, Int32.reduceLT, Int32.reduceLE, Int32.reduceAdd, Int32.reduceSub, Int32.reduceMul, e10, e01, ite_self, ab_mx, ab_mi, ab_mb, ab_ml2, uX8_fill, rX8_fill_0, rX8_fill_1, rX8_fill_3, rX8_fill_4]
  exact K
theorem zX8_fill {σ0 : ab_S} : ∀ c ∈ qX8_fill, ck_co (ck_J 0 σ0) c (ab_sp mX8_fill cX8_fill) := ck_one (fun as σ P hJ hd hP => by
  obtain ⟨_, u0, rfl, ⟨i0, rfl, _, b0⟩, hd0⟩ := ck_dc hd
  obtain rfl := Nat.le_zero.mp b0
  obtain ⟨_, u1, rfl, ⟨x1, rfl, l1, m1, _⟩, hd1⟩ := ck_dc hd0
  obtain ⟨_, u2, rfl, ⟨x2, rfl, l2, m2, _⟩, hd2⟩ := ck_dc hd1
  obtain ⟨_, u3, rfl, ⟨x3, rfl, l3, m3, _⟩, hd3⟩ := ck_dc hd2
  have e := ck_dn hd3
  subst e
  exact gX8_fill hJ l1 m1 l2 m2 l3 m3 (ck_oV hP))
