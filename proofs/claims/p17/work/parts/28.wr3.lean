/-! ===== give ===== -/
theorem kn_at {lo hi : Nat → Int32} {f : Nat} : ∀ {n : Nat}, kn lo hi n = true → f < n → lo f = hi f
  | 0, _, h => absurd h (Nat.not_lt_zero _)
  | n + 1, k, h => by
    have k := (Bool.and_eq_true _ _).mp k
    by_cases e : f = n
    · subst e; exact of_decide_eq_true k.2
    · exact kn_at k.1 (by omega)
theorem wv_cs (σ : ab_S) (t a b v : Int32) : (wv σ t a b v = -1 ∨ wv σ t a b v = -2 ∨ wv σ t a b v = -3) ∨ (bt t 0 3 = true ∧ hd (σ.1 20 t.toNatClampNeg 0) a = true ∧ hd (σ.1 20 t.toNatClampNeg 0) b = true ∧ bt v 1 99 = true ∧ kn (σ.1 21 t.toNatClampNeg) (σ.1 22 t.toNatClampNeg) (σ.1 20 t.toNatClampNeg 0).toInt.toNat = true ∧ ¬ a = b ∧ v ≤ σ.1 21 t.toNatClampNeg a.toNatClampNeg ∧ σ.1 21 t.toNatClampNeg b.toNatClampNeg + v < 100 ∧ (wv σ t a b v = 1 ∨ wv σ t a b v = 0)) := by
  unfold wv
  by_cases c1 : (bt t 0 3 && hd (σ.1 20 t.toNatClampNeg 0) a && hd (σ.1 20 t.toNatClampNeg 0) b) = false
  · rw [if_pos c1]; exact Or.inl (Or.inl rfl)
  · rw [if_neg c1]
    by_cases c2 : bt v 1 99 = false
    · rw [if_pos c2]; exact Or.inl (Or.inr (Or.inl rfl))
    · rw [if_neg c2]
      by_cases c3 : kn (σ.1 21 t.toNatClampNeg) (σ.1 22 t.toNatClampNeg) (σ.1 20 t.toNatClampNeg 0).toInt.toNat = true ∧ ¬ a = b ∧ v ≤ σ.1 21 t.toNatClampNeg a.toNatClampNeg ∧ σ.1 21 t.toNatClampNeg b.toNatClampNeg + v < 100
      · rw [if_pos c3]
        simp only [Bool.not_eq_false] at c1 c2
        have c4 := (Bool.and_eq_true _ _).mp c1
        have c5 := (Bool.and_eq_true _ _).mp c4.1
        refine Or.inr ⟨c5.1, c5.2, c4.2, c2, c3.1, c3.2.1, c3.2.2.1, c3.2.2.2, ?_⟩
        split
        · exact Or.inl rfl
        · exact Or.inr rfl
      · rw [if_neg c3]; exact Or.inl (Or.inr (Or.inr rfl))
theorem gv_b {l v : Int32} (l0 : 0 ≤ l.toInt) (l1 : l.toInt ≤ 99) (h : bt v 1 99 = true) : (v ≤ l → 0 ≤ (l - v).toInt ∧ (l - v).toInt ≤ 99) ∧ (l + v < 100 → 0 ≤ (l + v).toInt ∧ (l + v).toInt ≤ 99) := by
  have h1 := le32 (bt_of h).1
  have h2 := le32 (bt_of h).2
  rw [t1i] at h1
  rw [show (99 : Int32).toInt = 99 from rfl] at h2
  have e1 : (l - v).toInt = l.toInt - v.toInt := i32_sub (by omega) (by omega)
  have e2 : (l + v).toInt = l.toInt + v.toInt := i32_add (by omega) (by omega)
  rw [Int32.lt_iff_toInt_lt, Int32.le_iff_toInt_le, e1, e2, show (100 : Int32).toInt = 100 from rfl]
  omega
set_option maxRecDepth 100000 in
set_option maxHeartbeats 1000000 in
theorem t_give {x1 x2 x3 x4 : Int32} : twI True (ab_sp mX7_give cX7_give) (ab_sp mX8_give cX8_give) [.inr (some (0, 0)), .inl (.inl x1), .inl (.inl x2), .inl (.inl x3), .inl (.inl x4)] [.inr (some (40, 0)), .inl (.inl x1), .inl (.inl x2), .inl (.inl x3), .inl (.inl x4)] := by
  intro σ hI P1 h1
  have hr := hI.1
  have no : ∀ x : Int32, x < 0 → x = wv σ x1 x2 x3 x4 → P1 (some (.inl (.inl x))) σ := fun x hx e => h1 x σ (fun P2 h2 => by
    have K := h2 x σ hI (fun _ => rfl)
    simp only [ab_loc, ab_cat, ab_kil, ab_al, ab_ln, ab_lnp, ab_rf, sh_0, sh_1, sh_2, sh_3, sh_4, sh_5, sh_6, sh_7, sh_8, sh_9, sh_10, sh_11, sh_12, sh_13, sh_14, sh_20, sh_21, sh_22, sh_23, sh_24, sh_25, sh_30, sh_31, sh_32, sh_40, sh_41, sh_42, sh_43, sh_44, sh_45, sh_46, sh_47, sh_48, sh_49, sh_50, sh_51, sh_52, sh_53, sh_54, sh_55, sh_56, sh_57, sh_58, sh_59, sh_60, ct_0, ct_1, ct_2, ct_3, ct_4, ct_5, ct_6, ct_7, ct_8, ct_9, ct_10, ct_11, ct_12, ct_13, ct_14, ct_20, ct_21, ct_22, ct_23, ct_24, ct_25, ct_30, ct_31, ct_32, ct_40, ct_41, ct_42, ct_43, ct_44, ct_45, ct_46, ct_47, ct_48, ct_49, ct_50, ct_51, ct_52, ct_53, ct_54, ct_55, ct_56, ct_57, ct_58, ct_59, ct_60, ki_m1, ki_0, ki_1, ki_2, ki_3, ki_4, ki_5, kb_m2, kb_m3, kb_m4, kb_m8, kb_m9, kb_10, kb_100, kb_16, kb_36, kb_6, kb_63, kb_8, kb_9, kb_99, ks_216, ks_2520, ks_256, ks_800, kl_0, kl_1, ↓reduceIte, reduceCtorEq, Nat.reduceAdd, Nat.reduceLT, Nat.reduceLeDiff, Nat.reduceEqDiff, List.map_cons, List.map_nil, List.sum_cons, List.sum_nil, List.cons_append, List.nil_append, Option.toList_some, Option.toList_none, true_and, and_true, true_or, or_true, not_true_eq_false, not_false_eq_true, Nat.lt_add_one, Nat.zero_le, eq_self, or_false, false_or, implies_true, forall_const, false_implies, forall_false, true_implies, and_self, Nat.zero_lt_one, Nat.add_zero, Nat.zero_add, Int32.reduceLT, Int32.reduceLE, Int32.reduceAdd, Int32.reduceSub, Int32.reduceMul, e10, e01, ite_self, ab_mx, ab_mi, ab_mb, ab_ml2, uX8_give, rX8_give_0, rX8_give_1, rX8_give_2, rX8_give_3, rX8_give_4, rX8_give_6]
    refine sX8_mayGive hr ?_
    rw [wm_wv hr hI.2.2.1, ← e]
    simp only [ab_loc, ab_cat, ab_kil, ab_al, ab_ln, ab_lnp, ab_rf, sh_0, sh_1, sh_2, sh_3, sh_4, sh_5, sh_6, sh_7, sh_8, sh_9, sh_10, sh_11, sh_12, sh_13, sh_14, sh_20, sh_21, sh_22, sh_23, sh_24, sh_25, sh_30, sh_31, sh_32, sh_40, sh_41, sh_42, sh_43, sh_44, sh_45, sh_46, sh_47, sh_48, sh_49, sh_50, sh_51, sh_52, sh_53, sh_54, sh_55, sh_56, sh_57, sh_58, sh_59, sh_60, ct_0, ct_1, ct_2, ct_3, ct_4, ct_5, ct_6, ct_7, ct_8, ct_9, ct_10, ct_11, ct_12, ct_13, ct_14, ct_20, ct_21, ct_22, ct_23, ct_24, ct_25, ct_30, ct_31, ct_32, ct_40, ct_41, ct_42, ct_43, ct_44, ct_45, ct_46, ct_47, ct_48, ct_49, ct_50, ct_51, ct_52, ct_53, ct_54, ct_55, ct_56, ct_57, ct_58, ct_59, ct_60, ki_m1, ki_0, ki_1, ki_2, ki_3, ki_4, ki_5, kb_m2, kb_m3, kb_m4, kb_m8, kb_m9, kb_10, kb_100, kb_16, kb_36, kb_6, kb_63, kb_8, kb_9, kb_99, ks_216, ks_2520, ks_256, ks_800, kl_0, kl_1, ↓reduceIte, reduceCtorEq, Nat.reduceAdd, Nat.reduceLT, Nat.reduceLeDiff, Nat.reduceEqDiff, List.map_cons, List.map_nil, List.sum_cons, List.sum_nil, List.cons_append, List.nil_append, Option.toList_some, Option.toList_none, true_and, and_true, true_or, or_true, not_true_eq_false, not_false_eq_true, Nat.lt_add_one, Nat.zero_le, eq_self, or_false, false_or, implies_true, forall_const, false_implies, forall_false, true_implies, and_self, Nat.zero_lt_one, Nat.add_zero, Nat.zero_add, Int32.reduceLT, Int32.reduceLE, Int32.reduceAdd, Int32.reduceSub, Int32.reduceMul, e10, e01, ite_self, ab_mx, ab_mi, ab_mb, ab_ml2, rX8_give_9, rX8_give_11, rX8_give_13, rX8_give_80, rX8_give_82, hx]
    exact K)
  simp only [ab_loc, ab_cat, ab_kil, ab_al, ab_ln, ab_lnp, ab_rf, sh_0, sh_1, sh_2, sh_3, sh_4, sh_5, sh_6, sh_7, sh_8, sh_9, sh_10, sh_11, sh_12, sh_13, sh_14, sh_20, sh_21, sh_22, sh_23, sh_24, sh_25, sh_30, sh_31, sh_32, sh_40, sh_41, sh_42, sh_43, sh_44, sh_45, sh_46, sh_47, sh_48, sh_49, sh_50, sh_51, sh_52, sh_53, sh_54, sh_55, sh_56, sh_57, sh_58, sh_59, sh_60, ct_0, ct_1, ct_2, ct_3, ct_4, ct_5, ct_6, ct_7, ct_8, ct_9, ct_10, ct_11, ct_12, ct_13, ct_14, ct_20, ct_21, ct_22, ct_23, ct_24, ct_25, ct_30, ct_31, ct_32, ct_40, ct_41, ct_42, ct_43, ct_44, ct_45, ct_46, ct_47, ct_48, ct_49, ct_50, ct_51, ct_52, ct_53, ct_54, ct_55, ct_56, ct_57, ct_58, ct_59, ct_60, ki_m1, ki_0, ki_1, ki_2, ki_3, ki_4, ki_5, kb_m2, kb_m3, kb_m4, kb_m8, kb_m9, kb_10, kb_100, kb_16, kb_36, kb_6, kb_63, kb_8, kb_9, kb_99, ks_216, ks_2520, ks_256, ks_800, kl_0, kl_1, ↓reduceIte, reduceCtorEq, Nat.reduceAdd, Nat.reduceLT, Nat.reduceLeDiff, Nat.reduceEqDiff, List.map_cons, List.map_nil, List.sum_cons, List.sum_nil, List.cons_append, List.nil_append, Option.toList_some, Option.toList_none, true_and, and_true, true_or, or_true, not_true_eq_false, not_false_eq_true, Nat.lt_add_one, Nat.zero_le, eq_self, or_false, false_or, implies_true, forall_const, false_implies, forall_false, true_implies, and_self, Nat.zero_lt_one, Nat.add_zero, Nat.zero_add, Int32.reduceLT, Int32.reduceLE, Int32.reduceAdd, Int32.reduceSub, Int32.reduceMul, e10, e01, ite_self, ab_mx, ab_mi, ab_mb, ab_ml2, uX7_give, rX7_give_0, rX7_give_1, rX7_give_2, rX7_give_3, rX7_give_4, rX7_give_6]
  refine sX7_would hr ?_
  rcases wv_cs σ x1 x2 x3 x4 with e | ⟨a1, a2, a3, a4, a5, a6, a7, a8, e⟩
  · have hx : wv σ x1 x2 x3 x4 < 0 := by rcases e with e | e | e <;> rw [e] <;> decide
    have N := no _ hx rfl
    simp only [ab_loc, ab_cat, ab_kil, ab_al, ab_ln, ab_lnp, ab_rf, sh_0, sh_1, sh_2, sh_3, sh_4, sh_5, sh_6, sh_7, sh_8, sh_9, sh_10, sh_11, sh_12, sh_13, sh_14, sh_20, sh_21, sh_22, sh_23, sh_24, sh_25, sh_30, sh_31, sh_32, sh_40, sh_41, sh_42, sh_43, sh_44, sh_45, sh_46, sh_47, sh_48, sh_49, sh_50, sh_51, sh_52, sh_53, sh_54, sh_55, sh_56, sh_57, sh_58, sh_59, sh_60, ct_0, ct_1, ct_2, ct_3, ct_4, ct_5, ct_6, ct_7, ct_8, ct_9, ct_10, ct_11, ct_12, ct_13, ct_14, ct_20, ct_21, ct_22, ct_23, ct_24, ct_25, ct_30, ct_31, ct_32, ct_40, ct_41, ct_42, ct_43, ct_44, ct_45, ct_46, ct_47, ct_48, ct_49, ct_50, ct_51, ct_52, ct_53, ct_54, ct_55, ct_56, ct_57, ct_58, ct_59, ct_60, ki_m1, ki_0, ki_1, ki_2, ki_3, ki_4, ki_5, kb_m2, kb_m3, kb_m4, kb_m8, kb_m9, kb_10, kb_100, kb_16, kb_36, kb_6, kb_63, kb_8, kb_9, kb_99, ks_216, ks_2520, ks_256, ks_800, kl_0, kl_1, ↓reduceIte, reduceCtorEq, Nat.reduceAdd, Nat.reduceLT, Nat.reduceLeDiff, Nat.reduceEqDiff, List.map_cons, List.map_nil, List.sum_cons, List.sum_nil, List.cons_append, List.nil_append, Option.toList_some, Option.toList_none, true_and, and_true, true_or, or_true, not_true_eq_false, not_false_eq_true, Nat.lt_add_one, Nat.zero_le, eq_self, or_false, false_or, implies_true, forall_const, false_implies, forall_false, true_implies, and_self, Nat.zero_lt_one, Nat.add_zero, Nat.zero_add, Int32.reduceLT, Int32.reduceLE, Int32.reduceAdd, Int32.reduceSub, Int32.reduceMul, e10, e01, ite_self, ab_mx, ab_mi, ab_mb, ab_ml2, rX7_give_9, rX7_give_11, rX7_give_12, rX7_give_13, rX7_give_16, rX7_give_18, rX7_give_20, rX7_give_23, rX7_give_25n, rX7_give_25s, rX7_give_28, rX7_give_30, s_townAt, hx]
    exact N
  · have hx : ¬ wv σ x1 x2 x3 x4 < 0 := by rcases e with e | e <;> rw [e] <;> decide
    have hi := bt_lt4 a1
    have hT := hI.2.2.1 _ hi
    have hn : 0 ≤ (σ.1 20 x1.toNatClampNeg 0).toInt ∧ (σ.1 20 x1.toNatClampNeg 0).toInt ≤ 8 := hr 20 _ 0
    have q2 := hd_of hn.1 hn.2 a2
    have q3 := hd_of hn.1 hn.2 a3
    have k1 := le32 (bt_of a1).1
    have k2 := le32 (bt_of a1).2
    rw [t0i] at k1
    rw [show (3 : Int32).toInt = 3 from rfl] at k2
    have v2 : vp_in (8 * x1 + x2) 32 := ix8 k1 k2 q2.2.2.1 q2.2.2.2.2.2 (by omega)
    have v3 : vp_in (8 * x1 + x3) 32 := ix8 k1 k2 q3.2.2.1 q3.2.2.2.2.2 (by omega)
    have i2 := ix8n k1 k2 q2.2.2.1 q2.2.2.2.2.2
    have i3 := ix8n k1 k2 q3.2.2.1 q3.2.2.2.2.2
    have n2 : x2.toNatClampNeg = x2.toInt.toNat := rfl
    have n3 : x3.toNatClampNeg = x3.toInt.toNat := rfl
    have f2 : x2.toInt.toNat < 8 := by omega
    have f3 : x3.toInt.toNat < 8 := by omega
    have ne : ¬ x2.toInt.toNat = x3.toInt.toNat := fun w => a6 (Int32.toInt_inj.mp (by have := q2.2.2.1; have := q3.2.2.1; omega))
    have ab : ¬ x3.toNatClampNeg = x2.toNatClampNeg := fun w => ne w.symm
    have AB : ¬ (8 * x1 + x3).toNatClampNeg = (8 * x1 + x2).toNatClampNeg := by rw [i2, i3]; omega
    have c2 := hT.2 _ f2
    have c3 := hT.2 _ f3
    rw [← i2] at c2
    rw [← i3] at c3
    have d2 := kn_at a5 (show x2.toInt.toNat < _ by omega)
    have d3 := kn_at a5 (show x3.toInt.toNat < _ by omega)
    have ra : 0 ≤ (σ.1 21 x1.toNatClampNeg x2.toNatClampNeg).toInt ∧ (σ.1 21 x1.toNatClampNeg x2.toNatClampNeg).toInt ≤ 99 := hr 21 _ _
    have rb : 0 ≤ (σ.1 21 x1.toNatClampNeg x3.toNatClampNeg).toInt ∧ (σ.1 21 x1.toNatClampNeg x3.toNatClampNeg).toInt ≤ 99 := hr 21 _ _
    have bu := (gv_b ra.1 ra.2 a4).1 a7
    have bw := (gv_b rb.1 rb.2 a4).2 a8
    have m2 : σ.1 43 0 (8 * x1 + x2).toNatClampNeg = σ.1 21 x1.toNatClampNeg x2.toNatClampNeg := c2.2.1.symm.trans d2.symm
    have m3 : σ.1 43 0 (8 * x1 + x3).toNatClampNeg = σ.1 21 x1.toNatClampNeg x3.toNatClampNeg := c3.2.1.symm.trans d3.symm
    have o2 : σ.1 42 0 (8 * x1 + x2).toNatClampNeg = σ.1 21 x1.toNatClampNeg x2.toNatClampNeg := c2.1.symm
    have o3 : σ.1 42 0 (8 * x1 + x3).toNatClampNeg = σ.1 21 x1.toNatClampNeg x3.toNatClampNeg := c3.1.symm
    obtain ⟨u, hu⟩ : ∃ u, σ.1 21 x1.toNatClampNeg x2.toNatClampNeg - x4 = u := ⟨_, rfl⟩
    obtain ⟨w, hw⟩ : ∃ w, σ.1 21 x1.toNatClampNeg x3.toNatClampNeg + x4 = w := ⟨_, rfl⟩
    rw [hu] at bu
    rw [hw] at bw
    have g1 : ¬ (20 : Nat) = 22 := by decide
    have H := h1 (wv σ x1 x2 x3 x4) (ab_si (ab_si (ab_si (ab_si σ 21 x1.toNatClampNeg x2.toNatClampNeg u) 22 x1.toNatClampNeg x2.toNatClampNeg u) 21 x1.toNatClampNeg x3.toNatClampNeg w) 22 x1.toNatClampNeg x3.toNatClampNeg w)
    simp only [ab_loc, ab_cat, ab_kil, ab_al, ab_ln, ab_lnp, ab_rf, sh_0, sh_1, sh_2, sh_3, sh_4, sh_5, sh_6, sh_7, sh_8, sh_9, sh_10, sh_11, sh_12, sh_13, sh_14, sh_20, sh_21, sh_22, sh_23, sh_24, sh_25, sh_30, sh_31, sh_32, sh_40, sh_41, sh_42, sh_43, sh_44, sh_45, sh_46, sh_47, sh_48, sh_49, sh_50, sh_51, sh_52, sh_53, sh_54, sh_55, sh_56, sh_57, sh_58, sh_59, sh_60, ct_0, ct_1, ct_2, ct_3, ct_4, ct_5, ct_6, ct_7, ct_8, ct_9, ct_10, ct_11, ct_12, ct_13, ct_14, ct_20, ct_21, ct_22, ct_23, ct_24, ct_25, ct_30, ct_31, ct_32, ct_40, ct_41, ct_42, ct_43, ct_44, ct_45, ct_46, ct_47, ct_48, ct_49, ct_50, ct_51, ct_52, ct_53, ct_54, ct_55, ct_56, ct_57, ct_58, ct_59, ct_60, ki_m1, ki_0, ki_1, ki_2, ki_3, ki_4, ki_5, kb_m2, kb_m3, kb_m4, kb_m8, kb_m9, kb_10, kb_100, kb_16, kb_36, kb_6, kb_63, kb_8, kb_9, kb_99, ks_216, ks_2520, ks_256, ks_800, kl_0, kl_1, ↓reduceIte, reduceCtorEq, Nat.reduceAdd, Nat.reduceLT, Nat.reduceLeDiff, Nat.reduceEqDiff, List.map_cons, List.map_nil, List.sum_cons, List.sum_nil, List.cons_append, List.nil_append, Option.toList_some, Option.toList_none, true_and, and_true, true_or, or_true, not_true_eq_false, not_false_eq_true, Nat.lt_add_one, Nat.zero_le, eq_self, or_false, false_or, implies_true, forall_const, false_implies, forall_false, true_implies, and_self, Nat.zero_lt_one, Nat.add_zero, Nat.zero_add, Int32.reduceLT, Int32.reduceLE, Int32.reduceAdd, Int32.reduceSub, Int32.reduceMul, e10, e01, ite_self, ab_mx, ab_mi, ab_mb, ab_ml2, rX7_give_9, rX7_give_11, rX7_give_12, rX7_give_13, rX7_give_16, rX7_give_18, rX7_give_20, rX7_give_23, rX7_give_25n, rX7_give_25s, rX7_give_28, rX7_give_30, rX7_give_31, rX7_give_33, rX7_give_34, rX7_give_36, rX7_give_39, rX7_give_40, rX7_give_41, rX7_give_43, rX7_give_44, rX7_give_47, rX7_give_49, rX7_give_50, rX7_give_52, rX7_give_55, rX7_give_56, rX7_give_57, rX7_give_59, rX7_give_60, rX7_give_63, rX7_give_65, uX5_hold, rX5_hold_0, rX5_hold_1, rX5_hold_2, rX5_hold_5, rX5_hold_8, rX5_hold_9, rX5_hold_12, rX5_hold_13, rX5_hold_14, rX5_hold_15, rX5_hold_16, rX5_hold_19, rX5_hold_20, rX5_hold_21, rX5_hold_22, uX5_holds, rX5_holds_0, rX5_holds_1, rX5_holds_4, rX5_holds_5, rX5_holds_6, rX5_holds_9, rX5_holds_12, rX5_holds_13, rX5_holds_16, rX5_holds_17, s_townAt, a1, hx, hi, q2.1, q2.2.1, q3.1, q3.2.1, q2.2.2.2.2.1, q3.2.2.2.2.1, sn_ii, sn_ij ab, hu, hw]
    refine H (fun P2 h2 => ?_)
    have RG : rg_R (ab_si (ab_si (ab_si (ab_si σ 21 x1.toNatClampNeg x2.toNatClampNeg u) 22 x1.toNatClampNeg x2.toNatClampNeg u) 21 x1.toNatClampNeg x3.toNatClampNeg w) 22 x1.toNatClampNeg x3.toNatClampNeg w) := rg_si (rg_si (rg_si (rg_si hr (k := 21) (j := x2.toNatClampNeg) x1.toNatClampNeg bu.1 bu.2) (k := 22) (j := x2.toNatClampNeg) x1.toNatClampNeg bu.1 bu.2) (k := 21) (j := x3.toNatClampNeg) x1.toNatClampNeg bw.1 bw.2) (k := 22) (j := x3.toNatClampNeg) x1.toNatClampNeg bw.1 bw.2
    have WM : wm (ab_si (ab_si (ab_si (ab_si σ 21 x1.toNatClampNeg x2.toNatClampNeg u) 22 x1.toNatClampNeg x2.toNatClampNeg u) 21 x1.toNatClampNeg x3.toNatClampNeg w) 22 x1.toNatClampNeg x3.toNatClampNeg w) x1 x2 x3 x4 = wv σ x1 x2 x3 x4 := (show _ = wm σ x1 x2 x3 x4 from rfl).trans (wm_wv hr hI.2.2.1 _ _ _ _)
    have K := h2 (wv σ x1 x2 x3 x4) (ab_si (ab_si (ab_si (ab_si (ab_si (ab_si (ab_si (ab_si σ 21 x1.toNatClampNeg x2.toNatClampNeg u) 22 x1.toNatClampNeg x2.toNatClampNeg u) 21 x1.toNatClampNeg x3.toNatClampNeg w) 22 x1.toNatClampNeg x3.toNatClampNeg w) 42 0 (8 * x1 + x2).toNatClampNeg u) 43 0 (8 * x1 + x2).toNatClampNeg u) 42 0 (8 * x1 + x3).toNatClampNeg w) 43 0 (8 * x1 + x3).toNatClampNeg w) ⟨rg_si (rg_si (rg_si (rg_si RG (k := 42) (j := (8 * x1 + x2).toNatClampNeg) 0 bu.1 bu.2) (k := 43) (j := (8 * x1 + x2).toNatClampNeg) 0 bu.1 bu.2) (k := 42) (j := (8 * x1 + x3).toNatClampNeg) 0 bw.1 bw.2) (k := 43) (j := (8 * x1 + x3).toNatClampNeg) 0 bw.1 bw.2, fun t f ht hf => by
        simp only [ab_si_at, Nat.reduceEqDiff, false_and, true_and, ↓reduceIte] at hf ⊢
        have old := hI.2.1 t f ht hf
        refine ⟨old.1, ?_⟩
        by_cases e1 : 8 * t + f = (8 * x1 + x3).toNatClampNeg
        · rw [if_pos e1, if_pos e1]; exact Int.le_refl _
        · rw [if_neg e1, if_neg e1]
          by_cases e2 : 8 * t + f = (8 * x1 + x2).toNatClampNeg
          · rw [if_pos e2, if_pos e2]; exact Int.le_refl _
          · rw [if_neg e2, if_neg e2]; exact old.2, fun t ht => by
        simp only [ab_si_at, Nat.reduceEqDiff, false_and, true_and, ↓reduceIte]
        have old := hI.2.2.1 t ht
        refine ⟨old.1, fun f hf8 => ?_⟩
        rw [i2, i3]
        have old := old.2 f hf8
        by_cases e1 : t = x1.toNatClampNeg ∧ f = x3.toNatClampNeg
        · have e1' : 8 * t + f = 8 * x1.toNatClampNeg + x3.toInt.toNat := by omega
          rw [if_pos e1, if_pos e1, if_pos e1', if_pos e1']; exact ⟨rfl, rfl, old.2.2⟩
        · have e1' : ¬ 8 * t + f = 8 * x1.toNatClampNeg + x3.toInt.toNat := fun w => e1 (by omega)
          rw [if_neg e1, if_neg e1, if_neg e1', if_neg e1']
          by_cases e2 : t = x1.toNatClampNeg ∧ f = x2.toNatClampNeg
          · have e2' : 8 * t + f = 8 * x1.toNatClampNeg + x2.toInt.toNat := by omega
            rw [if_pos e2, if_pos e2, if_pos e2', if_pos e2']; exact ⟨rfl, rfl, old.2.2⟩
          · have e2' : ¬ 8 * t + f = 8 * x1.toNatClampNeg + x2.toInt.toNat := fun w => e2 (by omega)
            rw [if_neg e2, if_neg e2, if_neg e2', if_neg e2']; exact old, hI.2.2.2⟩ (fun _ => rfl)
    simp only [ab_loc, ab_cat, ab_kil, ab_al, ab_ln, ab_lnp, ab_rf, sh_0, sh_1, sh_2, sh_3, sh_4, sh_5, sh_6, sh_7, sh_8, sh_9, sh_10, sh_11, sh_12, sh_13, sh_14, sh_20, sh_21, sh_22, sh_23, sh_24, sh_25, sh_30, sh_31, sh_32, sh_40, sh_41, sh_42, sh_43, sh_44, sh_45, sh_46, sh_47, sh_48, sh_49, sh_50, sh_51, sh_52, sh_53, sh_54, sh_55, sh_56, sh_57, sh_58, sh_59, sh_60, ct_0, ct_1, ct_2, ct_3, ct_4, ct_5, ct_6, ct_7, ct_8, ct_9, ct_10, ct_11, ct_12, ct_13, ct_14, ct_20, ct_21, ct_22, ct_23, ct_24, ct_25, ct_30, ct_31, ct_32, ct_40, ct_41, ct_42, ct_43, ct_44, ct_45, ct_46, ct_47, ct_48, ct_49, ct_50, ct_51, ct_52, ct_53, ct_54, ct_55, ct_56, ct_57, ct_58, ct_59, ct_60, ki_m1, ki_0, ki_1, ki_2, ki_3, ki_4, ki_5, kb_m2, kb_m3, kb_m4, kb_m8, kb_m9, kb_10, kb_100, kb_16, kb_36, kb_6, kb_63, kb_8, kb_9, kb_99, ks_216, ks_2520, ks_256, ks_800, kl_0, kl_1, ↓reduceIte, reduceCtorEq, Nat.reduceAdd, Nat.reduceLT, Nat.reduceLeDiff, Nat.reduceEqDiff, List.map_cons, List.map_nil, List.sum_cons, List.sum_nil, List.cons_append, List.nil_append, Option.toList_some, Option.toList_none, true_and, and_true, true_or, or_true, not_true_eq_false, not_false_eq_true, Nat.lt_add_one, Nat.zero_le, eq_self, or_false, false_or, implies_true, forall_const, false_implies, forall_false, true_implies, and_self, Nat.zero_lt_one, Nat.add_zero, Nat.zero_add, Int32.reduceLT, Int32.reduceLE, Int32.reduceAdd, Int32.reduceSub, Int32.reduceMul, e10, e01, ite_self, ab_mx, ab_mi, ab_mb, ab_ml2, uX8_give, rX8_give_0, rX8_give_1, rX8_give_2, rX8_give_3, rX8_give_4, rX8_give_6]
    refine sX8_mayGive RG ?_
    rw [WM]
    simp only [ab_loc, ab_cat, ab_kil, ab_al, ab_ln, ab_lnp, ab_rf, sh_0, sh_1, sh_2, sh_3, sh_4, sh_5, sh_6, sh_7, sh_8, sh_9, sh_10, sh_11, sh_12, sh_13, sh_14, sh_20, sh_21, sh_22, sh_23, sh_24, sh_25, sh_30, sh_31, sh_32, sh_40, sh_41, sh_42, sh_43, sh_44, sh_45, sh_46, sh_47, sh_48, sh_49, sh_50, sh_51, sh_52, sh_53, sh_54, sh_55, sh_56, sh_57, sh_58, sh_59, sh_60, ct_0, ct_1, ct_2, ct_3, ct_4, ct_5, ct_6, ct_7, ct_8, ct_9, ct_10, ct_11, ct_12, ct_13, ct_14, ct_20, ct_21, ct_22, ct_23, ct_24, ct_25, ct_30, ct_31, ct_32, ct_40, ct_41, ct_42, ct_43, ct_44, ct_45, ct_46, ct_47, ct_48, ct_49, ct_50, ct_51, ct_52, ct_53, ct_54, ct_55, ct_56, ct_57, ct_58, ct_59, ct_60, ki_m1, ki_0, ki_1, ki_2, ki_3, ki_4, ki_5, kb_m2, kb_m3, kb_m4, kb_m8, kb_m9, kb_10, kb_100, kb_16, kb_36, kb_6, kb_63, kb_8, kb_9, kb_99, ks_216, ks_2520, ks_256, ks_800, kl_0, kl_1, ↓reduceIte, reduceCtorEq, Nat.reduceAdd, Nat.reduceLT, Nat.reduceLeDiff, Nat.reduceEqDiff, List.map_cons, List.map_nil, List.sum_cons, List.sum_nil, List.cons_append, List.nil_append, Option.toList_some, Option.toList_none, true_and, and_true, true_or, or_true, not_true_eq_false, not_false_eq_true, Nat.lt_add_one, Nat.zero_le, eq_self, or_false, false_or, implies_true, forall_const, false_implies, forall_false, true_implies, and_self, Nat.zero_lt_one, Nat.add_zero, Nat.zero_add, Int32.reduceLT, Int32.reduceLE, Int32.reduceAdd, Int32.reduceSub, Int32.reduceMul, e10, e01, ite_self, ab_mx, ab_mi, ab_mb, ab_ml2, rX8_give_9, rX8_give_11, rX8_give_13, rX8_give_16, rX8_give_17, rX8_give_20, rX8_give_22, rX8_give_23, rX8_give_24, rX8_give_25, rX8_give_26a, rX8_give_26l, rX8_give_27, rX8_give_28, rX8_give_30, rX8_give_31, rX8_give_32, rX8_give_33, rX8_give_36, rX8_give_38, rX8_give_39, rX8_give_40, rX8_give_41, rX8_give_42a, rX8_give_42l, rX8_give_43, rX8_give_44, rX8_give_46, rX8_give_47, rX8_give_48, rX8_give_49, rX8_give_52, rX8_give_54, rX8_give_55, rX8_give_56, rX8_give_57, rX8_give_58a, rX8_give_58l, rX8_give_59, rX8_give_60, rX8_give_62, rX8_give_63, rX8_give_64, rX8_give_65, rX8_give_68, rX8_give_70, rX8_give_71, rX8_give_72, rX8_give_73, rX8_give_74a, rX8_give_74l, rX8_give_75, rX8_give_76, rX8_give_78, rX8_give_79, rX8_give_80, rX8_give_82, hx, v2, v3, sn_ii, sn_ij AB, m2, m3, o2, o3, hu, hw]
    exact K
