set_option maxRecDepth 100000 in
set_option maxHeartbeats 400000 in
theorem sX7_taxedL {σ : ab_S} {P : ab_P} {x1 x2 : Int32} {i j : Nat} (hI : rl_I σ) (hi : i < 4) (hj : j < 4) (ij : ¬ i = j) (hP : ∀ c, tq σ c i j (σ.1 20 i 0).toInt.toNat → P (some (.inl (.inl (fsum (fun g => tv σ (σ.1 21 i g)) (σ.1 20 i 0).toInt.toNat)))) c) : ∀ (n : Nat) (f : Int32) (l7 l8 : Option ab_V) (c : ab_S), ((σ.1 20 i 0).toInt - f.toInt).toNat = n → 0 ≤ f.toInt → f.toInt ≤ (σ.1 20 i 0).toInt → tq σ c i j f.toInt.toNat → ab_wp mX7_taxed cX7_taxed none P 51 [some (.inr (some (0, 0))), some (.inl (.inl x1)), some (.inl (.inl x2)), some (.inr (some (20, i))), some (.inr (some (20, j))), some (.inl (.inl (fsum (fun g => tv σ (σ.1 21 i g)) f.toInt.toNat))), some (.inl (.inl f)), l7, l8] [] c := by
  have hn : 0 ≤ (σ.1 20 i 0).toInt ∧ (σ.1 20 i 0).toInt ≤ 8 := hI.1 20 i 0
  intro n
  induction n with
  | zero =>
    intro f l7 l8 c en f0 f1 hc
    have e20 : c.1 20 i 0 = σ.1 20 i 0 := hc.2.1 20 i 0 (fun q => ij q.1)
    have c2 : σ.1 20 i 0 ≤ f := Int32.le_iff_toInt_le.mpr (by omega)
    have e : f.toInt = (σ.1 20 i 0).toInt := by omega
    rw [e] at hc ⊢
    have F := hP c hc
    rw [rX7_taxed_51]
    simp only [ab_loc, ab_cat, ab_kil, ab_al, ab_ln, ab_lnp, ab_rf, sh_0, sh_1, sh_2, sh_3, sh_4, sh_5, sh_6, sh_7, sh_8, sh_9, sh_10, sh_11, sh_12, sh_13, sh_14, sh_20, sh_21, sh_22, sh_23, sh_24, sh_25, sh_30, sh_31, sh_32, sh_40, sh_41, sh_42, sh_43, sh_44, sh_45, sh_46, sh_47, sh_48, sh_49, sh_50, sh_51, sh_52, sh_53, sh_54, sh_55, sh_56, sh_57, sh_58, sh_59, sh_60, ct_0, ct_1, ct_2, ct_3, ct_4, ct_5, ct_6, ct_7, ct_8, ct_9, ct_10, ct_11, ct_12, ct_13, ct_14, ct_20, ct_21, ct_22, ct_23, ct_24, ct_25, ct_30, ct_31, ct_32, ct_40, ct_41, ct_42, ct_43, ct_44, ct_45, ct_46, ct_47, ct_48, ct_49, ct_50, ct_51, ct_52, ct_53, ct_54, ct_55, ct_56, ct_57, ct_58, ct_59, ct_60, ki_m1, ki_0, ki_1, ki_2, ki_3, ki_4, ki_5, kb_m2, kb_m3, kb_m4, kb_m8, kb_m9, kb_10, kb_100, kb_16, kb_36, kb_6, kb_63, kb_8, kb_9, kb_99, ks_216, ks_2520, ks_256, ks_800, kl_0, kl_1, ↓reduceIte, reduceCtorEq, Nat.reduceAdd, Nat.reduceLT, Nat.reduceLeDiff, Nat.reduceEqDiff, List.map_cons, List.map_nil, List.sum_cons, List.sum_nil, List.cons_append, List.nil_append, Option.toList_some, Option.toList_none, true_and, and_true, true_or, or_true, not_true_eq_false, not_false_eq_true, Nat.lt_add_one, Nat.zero_le, eq_self, or_false, false_or, implies_true, forall_const, false_implies, forall_false, true_implies, and_self, Nat.zero_lt_one, Nat.add_zero, Nat.zero_add, Int32.reduceLT, Int32.reduceLE, Int32.reduceAdd, Int32.reduceSub, Int32.reduceMul, e10, e01, ite_self, ab_mx, ab_mi, ab_mb, ab_ml2, rX7_taxed_53, rX7_taxed_54, rX7_taxed_57, rX7_taxed_124, rX7_taxed_126, hi, hj, e20, c2]
    exact F
  | succ n ih =>
    intro f l7 l8 c en f0 f1 hc
    have e20 : c.1 20 i 0 = σ.1 20 i 0 := hc.2.1 20 i 0 (fun q => ij q.1)
    have c2 : ¬ σ.1 20 i 0 ≤ f := fun q => by have q := le32 q; omega
    have vf : vp_in f 8 := vp_of f0 (by omega)
    have nf : f.toNatClampNeg = f.toInt.toNat := rfl
    have fo : ∀ K, K ≤ 24 → c.1 K i f.toNatClampNeg = σ.1 K i f.toNatClampNeg := fun K _ => hc.2.1 K i _ (fun q => ij q.1)
    have e21 := fo 21 (by omega)
    have e23 := fo 23 (by omega)
    have e24 := fo 24 (by omega)
    have hl : 0 ≤ (σ.1 21 i f.toNatClampNeg).toInt ∧ (σ.1 21 i f.toNatClampNeg).toInt ≤ 99 := hI.1 21 i _
    have B : rl_B c := by
      have q := hI.2.2.2
      have w : ∀ K J, (K < 20 ∨ 25 ≤ K) → c.1 K 0 J = σ.1 K 0 J := fun K J h => hc.2.1 K 0 J (fun q => by omega)
      refine ⟨?_, fun z => ?_, fun z => ?_⟩
      · rw [w 2 0 (by omega), w 40 22 (by omega)]; exact q.1
      · rw [w 3 z (by omega), w 59 z (by omega)]; exact q.2.1 z
      · rw [w 4 z (by omega), w 60 z (by omega)]; exact q.2.2 z
    have T : tv c (σ.1 21 i f.toNatClampNeg) = tv σ (σ.1 21 i f.toNatClampNeg) := tv_cg (fun z => hc.2.1 59 0 z (fun q => by omega)) (fun z => hc.2.1 60 0 z (fun q => by omega)) (hc.2.1 40 0 22 (fun q => by omega)) _
    have U : 0 ≤ (uv σ i f.toNatClampNeg).toInt ∧ (uv σ i f.toNatClampNeg).toInt ≤ 99 := (tv_b hI.1 hl.1 hl.2).2
    have a8 : c.1 20 j 0 < 8 := Int32.lt_iff_toInt_lt.mpr (by rw [hc.2.2.1, show (8 : Int32).toInt = 8 from rfl]; omega)
    have nk : c.1 20 j 0 = f := Int32.toInt_inj.mp (by rw [hc.2.2.1]; omega)
    rw [nk] at a8
    have K : ab_wp mX7_taxed cX7_taxed none P 51 [some (.inr (some (0, 0))), some (.inl (.inl x1)), some (.inl (.inl x2)), some (.inr (some (20, i))), some (.inr (some (20, j))), some (.inl (.inl (fsum (fun g => tv σ (σ.1 21 i g)) f.toInt.toNat + tv σ (σ.1 21 i f.toNatClampNeg)))), some (.inl (.inl (f + 1))), some (.inl (.inl (tv σ (σ.1 21 i f.toNatClampNeg)))), some (.inl (.inl (σ.1 21 i f.toNatClampNeg - tv σ (σ.1 21 i f.toNatClampNeg))))] [] (ab_si (ab_si (ab_si (ab_si (ab_si c 21 j f.toNatClampNeg (uv σ i f.toNatClampNeg)) 22 j f.toNatClampNeg (uv σ i f.toNatClampNeg)) 23 j f.toNatClampNeg (σ.1 23 i f.toNatClampNeg)) 24 j f.toNatClampNeg (σ.1 24 i f.toNatClampNeg)) 20 j 0 (f + 1)) := by
      have ef : (f + 1).toInt = f.toInt + 1 := i32_p1 (by omega)
      have e2 : (f + 1).toInt.toNat = f.toInt.toNat + 1 := by omega
      have Q := tq_s hI.1 hc (by omega) (show (f + 1).toInt = ((f.toInt.toNat : Nat) : Int) + 1 by omega) U
      have Z := ih (f + 1) (some (.inl (.inl (tv σ (σ.1 21 i f.toNatClampNeg))))) (some (.inl (.inl (σ.1 21 i f.toNatClampNeg - tv σ (σ.1 21 i f.toNatClampNeg))))) _ (by omega) (by omega) (by omega) (by rw [e2]; exact Q)
      rw [e2] at Z
      exact Z
    rw [rX7_taxed_51]
    simp only [ab_loc, ab_cat, ab_kil, ab_al, ab_ln, ab_lnp, ab_rf, sh_0, sh_1, sh_2, sh_3, sh_4, sh_5, sh_6, sh_7, sh_8, sh_9, sh_10, sh_11, sh_12, sh_13, sh_14, sh_20, sh_21, sh_22, sh_23, sh_24, sh_25, sh_30, sh_31, sh_32, sh_40, sh_41, sh_42, sh_43, sh_44, sh_45, sh_46, sh_47, sh_48, sh_49, sh_50, sh_51, sh_52, sh_53, sh_54, sh_55, sh_56, sh_57, sh_58, sh_59, sh_60, ct_0, ct_1, ct_2, ct_3, ct_4, ct_5, ct_6, ct_7, ct_8, ct_9, ct_10, ct_11, ct_12, ct_13, ct_14, ct_20, ct_21, ct_22, ct_23, ct_24, ct_25, ct_30, ct_31, ct_32, ct_40, ct_41, ct_42, ct_43, ct_44, ct_45, ct_46, ct_47, ct_48, ct_49, ct_50, ct_51, ct_52, ct_53, ct_54, ct_55, ct_56, ct_57, ct_58, ct_59, ct_60, ki_m1, ki_0, ki_1, ki_2, ki_3, ki_4, ki_5, kb_m2, kb_m3, kb_m4, kb_m8, kb_m9, kb_10, kb_100, kb_16, kb_36, kb_6, kb_63, kb_8, kb_9, kb_99, ks_216, ks_2520, ks_256, ks_800, kl_0, kl_1, ↓reduceIte, reduceCtorEq, Nat.reduceAdd, Nat.reduceLT, Nat.reduceLeDiff, Nat.reduceEqDiff, List.map_cons, List.map_nil, List.sum_cons, List.sum_nil, List.cons_append, List.nil_append, Option.toList_some, Option.toList_none, true_and, and_true, true_or, or_true, not_true_eq_false, not_false_eq_true, Nat.lt_add_one, Nat.zero_le, eq_self, or_false, false_or, implies_true, forall_const, false_implies, forall_false, true_implies, and_self, Nat.zero_lt_one, Nat.add_zero, Nat.zero_add, Int32.reduceLT, Int32.reduceLE, Int32.reduceAdd, Int32.reduceSub, Int32.reduceMul, e10, e01, ite_self, ab_mx, ab_mi, ab_mb, ab_ml2, rX7_taxed_53, rX7_taxed_54, rX7_taxed_57, rX7_taxed_60, rX7_taxed_61, rX7_taxed_64, rX7_taxed_65, rX7_taxed_68, rX7_taxed_70, rX7_taxed_71, hi, hj, e20, c2, vf, e21]
    refine sX1_takenV hc.1 B hl.1 hl.2 ?_
    rw [T]
    simp only [ab_loc, ab_cat, ab_kil, ab_al, ab_ln, ab_lnp, ab_rf, sh_0, sh_1, sh_2, sh_3, sh_4, sh_5, sh_6, sh_7, sh_8, sh_9, sh_10, sh_11, sh_12, sh_13, sh_14, sh_20, sh_21, sh_22, sh_23, sh_24, sh_25, sh_30, sh_31, sh_32, sh_40, sh_41, sh_42, sh_43, sh_44, sh_45, sh_46, sh_47, sh_48, sh_49, sh_50, sh_51, sh_52, sh_53, sh_54, sh_55, sh_56, sh_57, sh_58, sh_59, sh_60, ct_0, ct_1, ct_2, ct_3, ct_4, ct_5, ct_6, ct_7, ct_8, ct_9, ct_10, ct_11, ct_12, ct_13, ct_14, ct_20, ct_21, ct_22, ct_23, ct_24, ct_25, ct_30, ct_31, ct_32, ct_40, ct_41, ct_42, ct_43, ct_44, ct_45, ct_46, ct_47, ct_48, ct_49, ct_50, ct_51, ct_52, ct_53, ct_54, ct_55, ct_56, ct_57, ct_58, ct_59, ct_60, ki_m1, ki_0, ki_1, ki_2, ki_3, ki_4, ki_5, kb_m2, kb_m3, kb_m4, kb_m8, kb_m9, kb_10, kb_100, kb_16, kb_36, kb_6, kb_63, kb_8, kb_9, kb_99, ks_216, ks_2520, ks_256, ks_800, kl_0, kl_1, ↓reduceIte, reduceCtorEq, Nat.reduceAdd, Nat.reduceLT, Nat.reduceLeDiff, Nat.reduceEqDiff, List.map_cons, List.map_nil, List.sum_cons, List.sum_nil, List.cons_append, List.nil_append, Option.toList_some, Option.toList_none, true_and, and_true, true_or, or_true, not_true_eq_false, not_false_eq_true, Nat.lt_add_one, Nat.zero_le, eq_self, or_false, false_or, implies_true, forall_const, false_implies, forall_false, true_implies, and_self, Nat.zero_lt_one, Nat.add_zero, Nat.zero_add, Int32.reduceLT, Int32.reduceLE, Int32.reduceAdd, Int32.reduceSub, Int32.reduceMul, e10, e01, ite_self, ab_mx, ab_mi, ab_mb, ab_ml2, rX7_taxed_74, rX7_taxed_76, rX7_taxed_77, rX7_taxed_80, rX7_taxed_82, rX7_taxed_83, rX7_taxed_85, rX7_taxed_86, rX7_taxed_88, rX7_taxed_90, rX7_taxed_92, rX7_taxed_94, rX7_taxed_95, rX7_taxed_98, rX7_taxed_100, rX7_taxed_101, rX7_taxed_102, rX7_taxed_105, rX7_taxed_107, rX7_taxed_108, rX7_taxed_111, rX7_taxed_113, rX7_taxed_115, rX7_taxed_116, rX7_taxed_118, rX7_taxed_121, uX5_add, rX5_add_0, rX5_add_1, rX5_add_4, rX5_add_6, rX5_add_9, rX5_add_10, rX5_add_11, rX5_add_14, rX5_add_15, rX5_add_18, rX5_add_19, rX5_add_20, rX5_add_21, rX5_add_24, rX5_add_25, rX5_add_28, rX5_add_29, rX5_add_30, rX5_add_31, rX5_add_34, rX5_add_35, rX5_add_38, rX5_add_39, rX5_add_40, rX5_add_41, rX5_add_44, rX5_add_45, rX5_add_48, rX5_add_50, rX5_add_51, rX5_add_52i, rX5_add_52a, rX5_add_53, rX5_add_56, rX5_add_57, rX5_add_58, rX5_add_61, hi, hj, vf, e21, e23, e24, nk, a8, sn_ii, sn_ie]
    exact K
set_option maxRecDepth 100000 in
set_option maxHeartbeats 400000 in
theorem sX8_taxedL {c : ab_S} {P : ab_P} {x1 x2 : Int32} (hr : rg_R c) (l1 : 0 ≤ x1.toInt) (m1 : x1.toInt ≤ 3) (l2 : 0 ≤ x2.toInt) (m2 : x2.toInt ≤ 3) (ij : ¬ x1.toNatClampNeg = x2.toNatClampNeg) (hP : ∀ d, tm c d x1.toNatClampNeg x2.toNatClampNeg (c.1 41 0 x1.toNatClampNeg).toInt.toNat → P (some (.inl (.inl (fsum (fun g => tv c (c.1 42 0 (8 * x1.toNatClampNeg + g))) (c.1 41 0 x1.toNatClampNeg).toInt.toNat)))) d) : ∀ (n : Nat) (f : Int32) (l5 : Option ab_V) (d : ab_S), ((c.1 41 0 x1.toNatClampNeg).toInt - f.toInt).toNat = n → 0 ≤ f.toInt → f.toInt ≤ (c.1 41 0 x1.toNatClampNeg).toInt → tm c d x1.toNatClampNeg x2.toNatClampNeg f.toInt.toNat → ab_wp mX8_taxed cX8_taxed none P 49 [some (.inr (some (40, 0))), some (.inl (.inl x1)), some (.inl (.inl x2)), some (.inl (.inl (fsum (fun g => tv c (c.1 42 0 (8 * x1.toNatClampNeg + g))) f.toInt.toNat))), some (.inl (.inl f)), l5] [] d := by
  have hn : 0 ≤ (c.1 41 0 x1.toNatClampNeg).toInt ∧ (c.1 41 0 x1.toNatClampNeg).toInt ≤ 8 := hr 41 0 _
  have v1 : vp_in x1 4 := vp_of l1 (by omega)
  intro n
  induction n with
  | zero =>
    intro f l5 d en f0 f1 hd
    have e41 : d.1 41 0 x1.toNatClampNeg = c.1 41 0 x1.toNatClampNeg := hd.2.1 41 0 _ (fun q => by omega)
    have c2 : c.1 41 0 x1.toNatClampNeg ≤ f := Int32.le_iff_toInt_le.mpr (by omega)
    have e : f.toInt = (c.1 41 0 x1.toNatClampNeg).toInt := by omega
    rw [e] at hd ⊢
    have F := hP d hd
    rw [rX8_taxed_49]
    simp only [ab_loc, ab_cat, ab_kil, ab_al, ab_ln, ab_lnp, ab_rf, sh_0, sh_1, sh_2, sh_3, sh_4, sh_5, sh_6, sh_7, sh_8, sh_9, sh_10, sh_11, sh_12, sh_13, sh_14, sh_20, sh_21, sh_22, sh_23, sh_24, sh_25, sh_30, sh_31, sh_32, sh_40, sh_41, sh_42, sh_43, sh_44, sh_45, sh_46, sh_47, sh_48, sh_49, sh_50, sh_51, sh_52, sh_53, sh_54, sh_55, sh_56, sh_57, sh_58, sh_59, sh_60, ct_0, ct_1, ct_2, ct_3, ct_4, ct_5, ct_6, ct_7, ct_8, ct_9, ct_10, ct_11, ct_12, ct_13, ct_14, ct_20, ct_21, ct_22, ct_23, ct_24, ct_25, ct_30, ct_31, ct_32, ct_40, ct_41, ct_42, ct_43, ct_44, ct_45, ct_46, ct_47, ct_48, ct_49, ct_50, ct_51, ct_52, ct_53, ct_54, ct_55, ct_56, ct_57, ct_58, ct_59, ct_60, ki_m1, ki_0, ki_1, ki_2, ki_3, ki_4, ki_5, kb_m2, kb_m3, kb_m4, kb_m8, kb_m9, kb_10, kb_100, kb_16, kb_36, kb_6, kb_63, kb_8, kb_9, kb_99, ks_216, ks_2520, ks_256, ks_800, kl_0, kl_1, ↓reduceIte, reduceCtorEq, Nat.reduceAdd, Nat.reduceLT, Nat.reduceLeDiff, Nat.reduceEqDiff, List.map_cons, List.map_nil, List.sum_cons, List.sum_nil, List.cons_append, List.nil_append, Option.toList_some, Option.toList_none, true_and, and_true, true_or, or_true, not_true_eq_false, not_false_eq_true, Nat.lt_add_one, Nat.zero_le, eq_self, or_false, false_or, implies_true, forall_const, false_implies, forall_false, true_implies, and_self, Nat.zero_lt_one, Nat.add_zero, Nat.zero_add, Int32.reduceLT, Int32.reduceLE, Int32.reduceAdd, Int32.reduceSub, Int32.reduceMul, e10, e01, ite_self, ab_mx, ab_mi, ab_mb, ab_ml2, rX8_taxed_51, rX8_taxed_52, rX8_taxed_55, rX8_taxed_56, rX8_taxed_57, rX8_taxed_188, rX8_taxed_189, v1, e41, c2]
    exact F
  | succ n ih =>
    intro f l5 d en f0 f1 hd
    have e41 : d.1 41 0 x1.toNatClampNeg = c.1 41 0 x1.toNatClampNeg := hd.2.1 41 0 _ (fun q => by omega)
    have c2 : ¬ c.1 41 0 x1.toNatClampNeg ≤ f := fun q => by have q := le32 q; omega
    have va : vp_in (8 * x1 + f) 32 := ix8 l1 m1 f0 (by omega) (by omega)
    have vb : vp_in (8 * x2 + f) 32 := ix8 l2 m2 f0 (by omega) (by omega)
    have ia := ix8n l1 m1 f0 (show f.toInt ≤ 7 by omega)
    have ib := ix8n l2 m2 f0 (show f.toInt ≤ 7 by omega)
    have f7 : f.toInt.toNat < 8 := by omega
    have rd : ∀ K, 42 ≤ K → K ≤ 45 → d.1 K 0 (8 * x1 + f).toNatClampNeg = c.1 K 0 (8 * x1.toNatClampNeg + f.toInt.toNat) := fun K k1 k2 => by rw [ia]; exact hd.2.1 K 0 _ (fun q => by omega)
    have AB : ¬ (8 * x1 + f).toNatClampNeg = (8 * x2 + f).toNatClampNeg := by rw [ia, ib]; omega
    have r42 := rd 42 (by omega) (by omega)
    have r44 := rd 44 (by omega) (by omega)
    have r45 := rd 45 (by omega) (by omega)
    have hl : 0 ≤ (c.1 42 0 (8 * x1.toNatClampNeg + f.toInt.toNat)).toInt ∧ (c.1 42 0 (8 * x1.toNatClampNeg + f.toInt.toNat)).toInt ≤ 99 := hr 42 0 _
    have hs : 0 ≤ (c.1 44 0 (8 * x1.toNatClampNeg + f.toInt.toNat)).toInt ∧ (c.1 44 0 (8 * x1.toNatClampNeg + f.toInt.toNat)).toInt ≤ 9 := hr 44 0 _
    have hp : 0 ≤ (c.1 45 0 (8 * x1.toNatClampNeg + f.toInt.toNat)).toInt ∧ (c.1 45 0 (8 * x1.toNatClampNeg + f.toInt.toNat)).toInt ≤ 2 := hr 45 0 _
    have T : tv d (c.1 42 0 (8 * x1.toNatClampNeg + f.toInt.toNat)) = tv c (c.1 42 0 (8 * x1.toNatClampNeg + f.toInt.toNat)) := tv_cg (fun z => hd.2.1 59 0 z (fun q => by omega)) (fun z => hd.2.1 60 0 z (fun q => by omega)) (hd.2.1 40 0 22 (fun q => by omega)) _
    obtain ⟨w, hw⟩ : ∃ w, c.1 42 0 (8 * x1.toNatClampNeg + f.toInt.toNat) - tv c (c.1 42 0 (8 * x1.toNatClampNeg + f.toInt.toNat)) = w := ⟨_, rfl⟩
    have U := (tv_b hr hl.1 hl.2).2
    rw [hw] at U
    have K : ab_wp mX8_taxed cX8_taxed none P 49 [some (.inr (some (40, 0))), some (.inl (.inl x1)), some (.inl (.inl x2)), some (.inl (.inl (fsum (fun g => tv c (c.1 42 0 (8 * x1.toNatClampNeg + g))) f.toInt.toNat + tv c (c.1 42 0 (8 * x1.toNatClampNeg + f.toInt.toNat))))), some (.inl (.inl (f + 1))), some (.inl (.inl (tv c (c.1 42 0 (8 * x1.toNatClampNeg + f.toInt.toNat)))))] [] (ab_si (ab_si (ab_si (ab_si d 42 0 (8 * x2 + f).toNatClampNeg w) 43 0 (8 * x2 + f).toNatClampNeg w) 44 0 (8 * x2 + f).toNatClampNeg (c.1 44 0 (8 * x1.toNatClampNeg + f.toInt.toNat))) 45 0 (8 * x2 + f).toNatClampNeg (c.1 45 0 (8 * x1.toNatClampNeg + f.toInt.toNat))) := by
      have ef : (f + 1).toInt = f.toInt + 1 := i32_p1 (by omega)
      have e2 : (f + 1).toInt.toNat = f.toInt.toNat + 1 := by omega
      have Q := tm_s (k := f.toInt.toNat) hd hw.symm rfl rfl U hs hp
      rw [ib]
      have Z := ih (f + 1) (some (.inl (.inl (tv c (c.1 42 0 (8 * x1.toNatClampNeg + f.toInt.toNat)))))) _ (by omega) (by omega) (by omega) (by rw [e2]; exact Q)
      rw [e2] at Z
      exact Z
    rw [rX8_taxed_49]
    simp only [ab_loc, ab_cat, ab_kil, ab_al, ab_ln, ab_lnp, ab_rf, sh_0, sh_1, sh_2, sh_3, sh_4, sh_5, sh_6, sh_7, sh_8, sh_9, sh_10, sh_11, sh_12, sh_13, sh_14, sh_20, sh_21, sh_22, sh_23, sh_24, sh_25, sh_30, sh_31, sh_32, sh_40, sh_41, sh_42, sh_43, sh_44, sh_45, sh_46, sh_47, sh_48, sh_49, sh_50, sh_51, sh_52, sh_53, sh_54, sh_55, sh_56, sh_57, sh_58, sh_59, sh_60, ct_0, ct_1, ct_2, ct_3, ct_4, ct_5, ct_6, ct_7, ct_8, ct_9, ct_10, ct_11, ct_12, ct_13, ct_14, ct_20, ct_21, ct_22, ct_23, ct_24, ct_25, ct_30, ct_31, ct_32, ct_40, ct_41, ct_42, ct_43, ct_44, ct_45, ct_46, ct_47, ct_48, ct_49, ct_50, ct_51, ct_52, ct_53, ct_54, ct_55, ct_56, ct_57, ct_58, ct_59, ct_60, ki_m1, ki_0, ki_1, ki_2, ki_3, ki_4, ki_5, kb_m2, kb_m3, kb_m4, kb_m8, kb_m9, kb_10, kb_100, kb_16, kb_36, kb_6, kb_63, kb_8, kb_9, kb_99, ks_216, ks_2520, ks_256, ks_800, kl_0, kl_1, ↓reduceIte, reduceCtorEq, Nat.reduceAdd, Nat.reduceLT, Nat.reduceLeDiff, Nat.reduceEqDiff, List.map_cons, List.map_nil, List.sum_cons, List.sum_nil, List.cons_append, List.nil_append, Option.toList_some, Option.toList_none, true_and, and_true, true_or, or_true, not_true_eq_false, not_false_eq_true, Nat.lt_add_one, Nat.zero_le, eq_self, or_false, false_or, implies_true, forall_const, false_implies, forall_false, true_implies, and_self, Nat.zero_lt_one, Nat.add_zero, Nat.zero_add, Int32.reduceLT, Int32.reduceLE, Int32.reduceAdd, Int32.reduceSub, Int32.reduceMul, e10, e01, ite_self, ab_mx, ab_mi, ab_mb, ab_ml2, rX8_taxed_51, rX8_taxed_52, rX8_taxed_55, rX8_taxed_56, rX8_taxed_57, rX8_taxed_60, rX8_taxed_61, rX8_taxed_62, rX8_taxed_65, rX8_taxed_67, rX8_taxed_68, rX8_taxed_69, rX8_taxed_71, rX8_taxed_72, rX8_taxed_73, v1, e41, c2, va, r42]
    refine sX8_taxOfV hd.1 hl.1 hl.2 ?_
    rw [T]
    simp only [ab_loc, ab_cat, ab_kil, ab_al, ab_ln, ab_lnp, ab_rf, sh_0, sh_1, sh_2, sh_3, sh_4, sh_5, sh_6, sh_7, sh_8, sh_9, sh_10, sh_11, sh_12, sh_13, sh_14, sh_20, sh_21, sh_22, sh_23, sh_24, sh_25, sh_30, sh_31, sh_32, sh_40, sh_41, sh_42, sh_43, sh_44, sh_45, sh_46, sh_47, sh_48, sh_49, sh_50, sh_51, sh_52, sh_53, sh_54, sh_55, sh_56, sh_57, sh_58, sh_59, sh_60, ct_0, ct_1, ct_2, ct_3, ct_4, ct_5, ct_6, ct_7, ct_8, ct_9, ct_10, ct_11, ct_12, ct_13, ct_14, ct_20, ct_21, ct_22, ct_23, ct_24, ct_25, ct_30, ct_31, ct_32, ct_40, ct_41, ct_42, ct_43, ct_44, ct_45, ct_46, ct_47, ct_48, ct_49, ct_50, ct_51, ct_52, ct_53, ct_54, ct_55, ct_56, ct_57, ct_58, ct_59, ct_60, ki_m1, ki_0, ki_1, ki_2, ki_3, ki_4, ki_5, kb_m2, kb_m3, kb_m4, kb_m8, kb_m9, kb_10, kb_100, kb_16, kb_36, kb_6, kb_63, kb_8, kb_9, kb_99, ks_216, ks_2520, ks_256, ks_800, kl_0, kl_1, ↓reduceIte, reduceCtorEq, Nat.reduceAdd, Nat.reduceLT, Nat.reduceLeDiff, Nat.reduceEqDiff, List.map_cons, List.map_nil, List.sum_cons, List.sum_nil, List.cons_append, List.nil_append, Option.toList_some, Option.toList_none, true_and, and_true, true_or, or_true, not_true_eq_false, not_false_eq_true, Nat.lt_add_one, Nat.zero_le, eq_self, or_false, false_or, implies_true, forall_const, false_implies, forall_false, true_implies, and_self, Nat.zero_lt_one, Nat.add_zero, Nat.zero_add, Int32.reduceLT, Int32.reduceLE, Int32.reduceAdd, Int32.reduceSub, Int32.reduceMul, e10, e01, ite_self, ab_mx, ab_mi, ab_mb, ab_ml2, rX8_taxed_76, rX8_taxed_78, rX8_taxed_79, rX8_taxed_81, rX8_taxed_82, rX8_taxed_83, rX8_taxed_84, rX8_taxed_87, rX8_taxed_89, rX8_taxed_90, rX8_taxed_91, rX8_taxed_93, rX8_taxed_94, rX8_taxed_95, rX8_taxed_98, rX8_taxed_100, rX8_taxed_101, rX8_taxed_102, rX8_taxed_104, rX8_taxed_105, rX8_taxed_106, rX8_taxed_108, rX8_taxed_109, rX8_taxed_110, rX8_taxed_111, rX8_taxed_114, rX8_taxed_116, rX8_taxed_117, rX8_taxed_118, rX8_taxed_120, rX8_taxed_121, rX8_taxed_122, rX8_taxed_125, rX8_taxed_127, rX8_taxed_128, rX8_taxed_129, rX8_taxed_131, rX8_taxed_132, rX8_taxed_133, rX8_taxed_134, rX8_taxed_135, rX8_taxed_138, rX8_taxed_140, rX8_taxed_141, rX8_taxed_142, rX8_taxed_144, rX8_taxed_145, rX8_taxed_146, rX8_taxed_149, rX8_taxed_151, rX8_taxed_152, rX8_taxed_153, rX8_taxed_155, rX8_taxed_156, rX8_taxed_157, rX8_taxed_158, rX8_taxed_159, rX8_taxed_162, rX8_taxed_164, rX8_taxed_165, rX8_taxed_166, rX8_taxed_168, rX8_taxed_169, rX8_taxed_170, rX8_taxed_173, rX8_taxed_175, rX8_taxed_176, rX8_taxed_177, rX8_taxed_179, rX8_taxed_180, rX8_taxed_181, rX8_taxed_182, rX8_taxed_185, va, vb, r42, r44, r45, hw, sn_ii, sn_ie]
    exact K
