/-! order: the reference tells -/
def rvc (σ : ab_S) (s : Nat) (E W : Nat → Int) (n : Nat) (H A : Int) : Prop := (σ.1 49 0 s).toInt = n ∧ (σ.1 50 0 s).toInt = H ∧ (σ.2 51 0 s).toInt = A ∧ ∀ j, j < n → (σ.2 48 0 (8 * s + j)).toInt = E j ∧ (σ.1 47 0 (8 * s + j)).toInt = W j
theorem rvc.k {σ σ' : ab_S} {s n : Nat} {E W : Nat → Int} {H A : Int} (h : rvc σ s E W n H A) (f : fr brS σ σ') : rvc σ' s E W n H A := ⟨by rw [(f.2 49 0 s rfl).1]; exact h.1, by rw [(f.2 50 0 s rfl).1]; exact h.2.1, by rw [(f.2 51 0 s rfl).2]; exact h.2.2.1, fun j hj => by
  rw [(f.2 48 0 _ rfl).2, (f.2 47 0 _ rfl).1]; exact h.2.2.2 j hj⟩
def bkH (σ : ab_S) (u w : Nat → Int) (N : Nat) : Prop := (σ.1 40 0 11).toInt = N ∧ ∀ j, j < N → (σ.1 52 0 j).toInt = (bkS u w N).1 j ∧ (σ.1 53 0 j).toInt = (bkS u w N).2 j
set_option maxRecDepth 100000 in
set_option maxHeartbeats 1000000 in
theorem bk_in {σ : ab_S} {P : ab_P} {x1 : Int32} {E W u w : Nat → Int} {N0 n : Nat} {H A : Int} (l1 : 0 ≤ x1.toInt) (m1 : x1.toInt ≤ 1) (hb : cvb E W n H) (hr : rvc σ x1.toNatClampNeg E W n H A) (h16 : N0 + n ≤ 16) (hu : ∀ F, F < n → u (N0 + F) = cuI W (F + 1) ∧ w (N0 + F) = H) (hub : ∀ j, j < N0 + n → (0 ≤ u j ∧ u j ≤ 72) ∧ 0 ≤ w j ∧ w j ≤ 72) (nxt : ∀ (c : ab_S) (tl k : Int32), fr brS σ c → bkH c u w (N0 + n) → ab_wp mX8_layBreaks cX8_layBreaks none P 60 [some (.inr (some (40, 0))), some (.inl (.inl x1)), some (.inl (.inl tl)), some (.inl (.inl k))] [] c) : ∀ (r F : Nat) (k tl : Int32) (c : ab_S), F + r = n → k.toInt = 8 * x1.toInt + F → tl.toInt = cuI W F → fr brS σ c → bkH c u w (N0 + F) → ab_wp mX8_layBreaks cX8_layBreaks none P 19 [some (.inr (some (40, 0))), some (.inl (.inl x1)), some (.inl (.inl tl)), some (.inl (.inl k))] [] c := by
  have v1 : vp_in x1 2 := vp_of l1 (by omega)
  have n8 := hb.1
  intro r
  induction r with
  | zero =>
    intro F k tl c er hk ht fc hh
    have c2 := fb_le l1 m1 hk (hr.k fc).1 n8
    rw [eq_true (show n ≤ F by omega)] at c2
    rw [show F = n by omega] at hh
    have Q := nxt c tl k fc hh
    rw [rX8_layBreaks_19]
    simp only [ab_loc, ab_cat, ab_kil, ab_al, ab_ln, ab_lnp, ab_rf, sh_0, sh_1, sh_2, sh_3, sh_4, sh_5, sh_6, sh_7, sh_8, sh_9, sh_10, sh_11, sh_12, sh_13, sh_14, sh_20, sh_21, sh_22, sh_23, sh_24, sh_25, sh_30, sh_31, sh_32, sh_40, sh_41, sh_42, sh_43, sh_44, sh_45, sh_46, sh_47, sh_48, sh_49, sh_50, sh_51, sh_52, sh_53, sh_54, sh_55, sh_56, sh_57, sh_58, sh_59, sh_60, ct_0, ct_1, ct_2, ct_3, ct_4, ct_5, ct_6, ct_7, ct_8, ct_9, ct_10, ct_11, ct_12, ct_13, ct_14, ct_20, ct_21, ct_22, ct_23, ct_24, ct_25, ct_30, ct_31, ct_32, ct_40, ct_41, ct_42, ct_43, ct_44, ct_45, ct_46, ct_47, ct_48, ct_49, ct_50, ct_51, ct_52, ct_53, ct_54, ct_55, ct_56, ct_57, ct_58, ct_59, ct_60, ki_m1, ki_0, ki_1, ki_2, ki_3, ki_4, ki_5, kb_m2, kb_m3, kb_m4, kb_m8, kb_m9, kb_10, kb_100, kb_16, kb_36, kb_6, kb_63, kb_8, kb_9, kb_99, ks_216, ks_2520, ks_256, ks_800, kl_0, kl_1, ↓reduceIte, reduceCtorEq, Nat.reduceAdd, Nat.reduceLT, Nat.reduceLeDiff, Nat.reduceEqDiff, List.map_cons, List.map_nil, List.sum_cons, List.sum_nil, List.cons_append, List.nil_append, Option.toList_some, Option.toList_none, true_and, and_true, true_or, or_true, not_true_eq_false, not_false_eq_true, Nat.lt_add_one, Nat.zero_le, eq_self, or_false, false_or, implies_true, forall_const, false_implies, forall_false, true_implies, and_self, Nat.zero_lt_one, Nat.add_zero, Nat.zero_add, Int32.reduceLT, Int32.reduceLE, Int32.reduceAdd, Int32.reduceSub, Int32.reduceMul, e10, e01, ite_self, ab_mx, ab_mi, ab_mb, ab_ml2, rX8_layBreaks_20, rX8_layBreaks_22, rX8_layBreaks_23, rX8_layBreaks_24, rX8_layBreaks_25, rX8_layBreaks_28, rX8_layBreaks_29, rX8_layBreaks_30, rX8_layBreaks_31, v1, c2]
    exact Q
  | succ r ih =>
    intro F k tl c er hk ht fc hh
    have hc := hr.k fc
    have c2 := fb_le l1 m1 hk hc.1 n8
    rw [eq_false (show ¬ n ≤ F by omega)] at c2
    obtain ⟨vk, nk, ek⟩ := fb_ix l1 m1 hk (by omega)
    have ew := (hc.2.2.2 F (by omega)).2
    have bF := hb.c (show F ≤ n by omega)
    have bF1 := hb.c (show F + 1 ≤ n by omega)
    have es : (tl + c.1 47 0 (8 * x1.toNatClampNeg + F)).toInt = cuI W (F + 1) := by
      rw [cu_s] at bF1 ⊢
      rw [i32_add (by rw [ht, ew]; omega) (by rw [ht, ew]; omega), ht, ew]
    have hF := hu F (by omega)
    have fu := bk_all (Q := fun a b => (0 ≤ a ∧ a ≤ 72) ∧ 0 ≤ b ∧ b ≤ 72) (u := u) (w := w) (n := N0 + F) (fun j hj => hub j (by omega))
    rw [rX8_layBreaks_19]
    simp only [ab_loc, ab_cat, ab_kil, ab_al, ab_ln, ab_lnp, ab_rf, sh_0, sh_1, sh_2, sh_3, sh_4, sh_5, sh_6, sh_7, sh_8, sh_9, sh_10, sh_11, sh_12, sh_13, sh_14, sh_20, sh_21, sh_22, sh_23, sh_24, sh_25, sh_30, sh_31, sh_32, sh_40, sh_41, sh_42, sh_43, sh_44, sh_45, sh_46, sh_47, sh_48, sh_49, sh_50, sh_51, sh_52, sh_53, sh_54, sh_55, sh_56, sh_57, sh_58, sh_59, sh_60, ct_0, ct_1, ct_2, ct_3, ct_4, ct_5, ct_6, ct_7, ct_8, ct_9, ct_10, ct_11, ct_12, ct_13, ct_14, ct_20, ct_21, ct_22, ct_23, ct_24, ct_25, ct_30, ct_31, ct_32, ct_40, ct_41, ct_42, ct_43, ct_44, ct_45, ct_46, ct_47, ct_48, ct_49, ct_50, ct_51, ct_52, ct_53, ct_54, ct_55, ct_56, ct_57, ct_58, ct_59, ct_60, ki_m1, ki_0, ki_1, ki_2, ki_3, ki_4, ki_5, kb_m2, kb_m3, kb_m4, kb_m8, kb_m9, kb_10, kb_100, kb_16, kb_36, kb_6, kb_63, kb_8, kb_9, kb_99, ks_216, ks_2520, ks_256, ks_800, kl_0, kl_1, ↓reduceIte, reduceCtorEq, Nat.reduceAdd, Nat.reduceLT, Nat.reduceLeDiff, Nat.reduceEqDiff, List.map_cons, List.map_nil, List.sum_cons, List.sum_nil, List.cons_append, List.nil_append, Option.toList_some, Option.toList_none, true_and, and_true, true_or, or_true, not_true_eq_false, not_false_eq_true, Nat.lt_add_one, Nat.zero_le, eq_self, or_false, false_or, implies_true, forall_const, false_implies, forall_false, true_implies, and_self, Nat.zero_lt_one, Nat.add_zero, Nat.zero_add, Int32.reduceLT, Int32.reduceLE, Int32.reduceAdd, Int32.reduceSub, Int32.reduceMul, e10, e01, ite_self, ab_mx, ab_mi, ab_mb, ab_ml2, rX8_layBreaks_20, rX8_layBreaks_22, rX8_layBreaks_23, rX8_layBreaks_24, rX8_layBreaks_25, rX8_layBreaks_28, rX8_layBreaks_29, rX8_layBreaks_30, rX8_layBreaks_31, rX8_layBreaks_34, rX8_layBreaks_35, rX8_layBreaks_36, rX8_layBreaks_39, rX8_layBreaks_40, rX8_layBreaks_41, rX8_layBreaks_42, rX8_layBreaks_43, rX8_layBreaks_44, rX8_layBreaks_45, rX8_layBreaks_46, rX8_layBreaks_49, rX8_layBreaks_50, rX8_layBreaks_51, v1, c2, vk, nk]
    refine sX8_addBreakF fc hh.1 (by omega) hh.2 fu (es.trans hF.1.symm) (hc.2.1.trans hF.2.symm) (hub (N0 + F) (by omega)).1 (hub (N0 + F) (by omega)).2 (fun d fd d0 dj => ?_)
    have Q := ih (F + 1) (k + 1) (tl + c.1 47 0 (8 * x1.toNatClampNeg + F)) d (by omega) ek es fd ⟨d0, dj⟩
    simp only [ab_loc, ab_cat, ab_kil, ab_al, ab_ln, ab_lnp, ab_rf, sh_0, sh_1, sh_2, sh_3, sh_4, sh_5, sh_6, sh_7, sh_8, sh_9, sh_10, sh_11, sh_12, sh_13, sh_14, sh_20, sh_21, sh_22, sh_23, sh_24, sh_25, sh_30, sh_31, sh_32, sh_40, sh_41, sh_42, sh_43, sh_44, sh_45, sh_46, sh_47, sh_48, sh_49, sh_50, sh_51, sh_52, sh_53, sh_54, sh_55, sh_56, sh_57, sh_58, sh_59, sh_60, ct_0, ct_1, ct_2, ct_3, ct_4, ct_5, ct_6, ct_7, ct_8, ct_9, ct_10, ct_11, ct_12, ct_13, ct_14, ct_20, ct_21, ct_22, ct_23, ct_24, ct_25, ct_30, ct_31, ct_32, ct_40, ct_41, ct_42, ct_43, ct_44, ct_45, ct_46, ct_47, ct_48, ct_49, ct_50, ct_51, ct_52, ct_53, ct_54, ct_55, ct_56, ct_57, ct_58, ct_59, ct_60, ki_m1, ki_0, ki_1, ki_2, ki_3, ki_4, ki_5, kb_m2, kb_m3, kb_m4, kb_m8, kb_m9, kb_10, kb_100, kb_16, kb_36, kb_6, kb_63, kb_8, kb_9, kb_99, ks_216, ks_2520, ks_256, ks_800, kl_0, kl_1, ↓reduceIte, reduceCtorEq, Nat.reduceAdd, Nat.reduceLT, Nat.reduceLeDiff, Nat.reduceEqDiff, List.map_cons, List.map_nil, List.sum_cons, List.sum_nil, List.cons_append, List.nil_append, Option.toList_some, Option.toList_none, true_and, and_true, true_or, or_true, not_true_eq_false, not_false_eq_true, Nat.lt_add_one, Nat.zero_le, eq_self, or_false, false_or, implies_true, forall_const, false_implies, forall_false, true_implies, and_self, Nat.zero_lt_one, Nat.add_zero, Nat.zero_add, Int32.reduceLT, Int32.reduceLE, Int32.reduceAdd, Int32.reduceSub, Int32.reduceMul, e10, e01, ite_self, ab_mx, ab_mi, ab_mb, ab_ml2, rX8_layBreaks_54, rX8_layBreaks_57]
    exact Q
def uB (n1 : Nat) (W1 W2 : Nat → Int) (k : Nat) : Int := if k < n1 then cuI W1 (k + 1) else cuI W2 (k - n1 + 1)
def wB (n1 : Nat) (H1 H2 : Int) (k : Nat) : Int := if k < n1 then H1 else H2
theorem ub_b {E1 W1 E2 W2 : Nat → Int} {n1 n2 : Nat} {H1 H2 : Int} (b1 : cvb E1 W1 n1 H1) (b2 : cvb E2 W2 n2 H2) : ∀ j, j < n1 + n2 → (0 ≤ uB n1 W1 W2 j ∧ uB n1 W1 W2 j ≤ 72) ∧ 1 ≤ wB n1 H1 H2 j ∧ wB n1 H1 H2 j ≤ 72 := fun j hj => by
  unfold uB wB
  split
  · rename_i a
    have := b1.c (show j + 1 ≤ n1 by omega)
    have := b1.2.2.2
    omega
  · have := b2.c (show j - n1 + 1 ≤ n2 by omega)
    have := b2.2.2.2
    omega
set_option maxRecDepth 100000 in
theorem sX8_layBreaksF {σ : ab_S} {P : ab_P} {E1 W1 E2 W2 : Nat → Int} {n1 n2 : Nat} {H1 H2 A1 A2 : Int} (hR : rg_R σ) (b1 : cvb E1 W1 n1 H1) (b2 : cvb E2 W2 n2 H2) (c1 : rvc σ 0 E1 W1 n1 H1 A1) (c2 : rvc σ 1 E2 W2 n2 H2 A2) (hP : ∀ σ', fr brS σ σ' → bkH σ' (uB n1 W1 W2) (wB n1 H1 H2) (n1 + n2) → P none σ') : ab_sp mX8_layBreaks cX8_layBreaks [.inr (some (40, 0))] σ P := by
  have k1 := b1.1
  have k2 := b2.1
  have ub := ub_b b1 b2
  have t8 : (8 : Int32) * 0 = 0 := rfl
  have t81 : (8 : Int32) * 1 = 8 := rfl
  have i20 : ((2 : Int32) ≤ 0) = False := by decide
  have i21 : ((2 : Int32) ≤ 1) = False := by decide
  have i22 : ((2 : Int32) ≤ 2) = True := by decide
  have a1 : (0 : Int32) + 1 = 1 := rfl
  have a2 : (1 : Int32) + 1 = 2 := rfl
  have S2 := bk_in (P := P) (x1 := 1) (u := uB n1 W1 W2) (w := wB n1 H1 H2) (N0 := n1) (by decide) (by decide) b2 c2 (by omega) (fun F hF => by
    unfold uB wB
    rw [if_neg (by omega), if_neg (by omega), show n1 + F - n1 = F by omega]
    exact ⟨rfl, rfl⟩) (fun j hj => by have := ub j hj; omega) (fun c tl k fc hh => by
    have Q := hP c fc hh
    simp only [ab_loc, ab_cat, ab_kil, ab_al, ab_ln, ab_lnp, ab_rf, sh_0, sh_1, sh_2, sh_3, sh_4, sh_5, sh_6, sh_7, sh_8, sh_9, sh_10, sh_11, sh_12, sh_13, sh_14, sh_20, sh_21, sh_22, sh_23, sh_24, sh_25, sh_30, sh_31, sh_32, sh_40, sh_41, sh_42, sh_43, sh_44, sh_45, sh_46, sh_47, sh_48, sh_49, sh_50, sh_51, sh_52, sh_53, sh_54, sh_55, sh_56, sh_57, sh_58, sh_59, sh_60, ct_0, ct_1, ct_2, ct_3, ct_4, ct_5, ct_6, ct_7, ct_8, ct_9, ct_10, ct_11, ct_12, ct_13, ct_14, ct_20, ct_21, ct_22, ct_23, ct_24, ct_25, ct_30, ct_31, ct_32, ct_40, ct_41, ct_42, ct_43, ct_44, ct_45, ct_46, ct_47, ct_48, ct_49, ct_50, ct_51, ct_52, ct_53, ct_54, ct_55, ct_56, ct_57, ct_58, ct_59, ct_60, ki_m1, ki_0, ki_1, ki_2, ki_3, ki_4, ki_5, kb_m2, kb_m3, kb_m4, kb_m8, kb_m9, kb_10, kb_100, kb_16, kb_36, kb_6, kb_63, kb_8, kb_9, kb_99, ks_216, ks_2520, ks_256, ks_800, kl_0, kl_1, ↓reduceIte, reduceCtorEq, Nat.reduceAdd, Nat.reduceLT, Nat.reduceLeDiff, Nat.reduceEqDiff, List.map_cons, List.map_nil, List.sum_cons, List.sum_nil, List.cons_append, List.nil_append, Option.toList_some, Option.toList_none, true_and, and_true, true_or, or_true, not_true_eq_false, not_false_eq_true, Nat.lt_add_one, Nat.zero_le, eq_self, or_false, false_or, implies_true, forall_const, false_implies, forall_false, true_implies, and_self, Nat.zero_lt_one, Nat.add_zero, Nat.zero_add, Int32.reduceLT, Int32.reduceLE, Int32.reduceAdd, Int32.reduceSub, Int32.reduceMul, e10, e01, ite_self, ab_mx, ab_mi, ab_mb, ab_ml2, rX8_layBreaks_7, rX8_layBreaks_8, rX8_layBreaks_9, rX8_layBreaks_60, rX8_layBreaks_63, rX8_layBreaks_66, a2, i22]
    exact Q)
  have S1 := bk_in (P := P) (x1 := 0) (u := uB n1 W1 W2) (w := wB n1 H1 H2) (N0 := 0) (by decide) (by decide) b1 c1 (by omega) (fun F hF => by
    unfold uB wB
    rw [Nat.zero_add, if_pos hF, if_pos hF]
    exact ⟨rfl, rfl⟩) (fun j hj => by have := ub j (by omega); omega) (fun c tl k fc hh => by
    rw [Nat.zero_add] at hh
    have Q := S2 n2 0 (8 * 1) 0 c (by omega) rfl rfl fc hh
    simp only [ab_loc, ab_cat, ab_kil, ab_al, ab_ln, ab_lnp, ab_rf, sh_0, sh_1, sh_2, sh_3, sh_4, sh_5, sh_6, sh_7, sh_8, sh_9, sh_10, sh_11, sh_12, sh_13, sh_14, sh_20, sh_21, sh_22, sh_23, sh_24, sh_25, sh_30, sh_31, sh_32, sh_40, sh_41, sh_42, sh_43, sh_44, sh_45, sh_46, sh_47, sh_48, sh_49, sh_50, sh_51, sh_52, sh_53, sh_54, sh_55, sh_56, sh_57, sh_58, sh_59, sh_60, ct_0, ct_1, ct_2, ct_3, ct_4, ct_5, ct_6, ct_7, ct_8, ct_9, ct_10, ct_11, ct_12, ct_13, ct_14, ct_20, ct_21, ct_22, ct_23, ct_24, ct_25, ct_30, ct_31, ct_32, ct_40, ct_41, ct_42, ct_43, ct_44, ct_45, ct_46, ct_47, ct_48, ct_49, ct_50, ct_51, ct_52, ct_53, ct_54, ct_55, ct_56, ct_57, ct_58, ct_59, ct_60, ki_m1, ki_0, ki_1, ki_2, ki_3, ki_4, ki_5, kb_m2, kb_m3, kb_m4, kb_m8, kb_m9, kb_10, kb_100, kb_16, kb_36, kb_6, kb_63, kb_8, kb_9, kb_99, ks_216, ks_2520, ks_256, ks_800, kl_0, kl_1, ↓reduceIte, reduceCtorEq, Nat.reduceAdd, Nat.reduceLT, Nat.reduceLeDiff, Nat.reduceEqDiff, List.map_cons, List.map_nil, List.sum_cons, List.sum_nil, List.cons_append, List.nil_append, Option.toList_some, Option.toList_none, true_and, and_true, true_or, or_true, not_true_eq_false, not_false_eq_true, Nat.lt_add_one, Nat.zero_le, eq_self, or_false, false_or, implies_true, forall_const, false_implies, forall_false, true_implies, and_self, Nat.zero_lt_one, Nat.add_zero, Nat.zero_add, Int32.reduceLT, Int32.reduceLE, Int32.reduceAdd, Int32.reduceSub, Int32.reduceMul, e10, e01, ite_self, ab_mx, ab_mi, ab_mb, ab_ml2, rX8_layBreaks_7, rX8_layBreaks_8, rX8_layBreaks_9, rX8_layBreaks_12, rX8_layBreaks_13, rX8_layBreaks_14, rX8_layBreaks_16, rX8_layBreaks_17, rX8_layBreaks_18, rX8_layBreaks_60, rX8_layBreaks_63, a1, i21]
    exact Q)
  have Q := S1 n1 0 (8 * 0) 0 (ab_si σ 40 0 11 0) (by omega) rfl rfl ((fr.rf hR).si 40 0 11 rfl (by decide) (by decide)) ⟨rfl, fun j hj => absurd hj (Nat.not_lt_zero j)⟩
  simp only [ab_loc, ab_cat, ab_kil, ab_al, ab_ln, ab_lnp, ab_rf, sh_0, sh_1, sh_2, sh_3, sh_4, sh_5, sh_6, sh_7, sh_8, sh_9, sh_10, sh_11, sh_12, sh_13, sh_14, sh_20, sh_21, sh_22, sh_23, sh_24, sh_25, sh_30, sh_31, sh_32, sh_40, sh_41, sh_42, sh_43, sh_44, sh_45, sh_46, sh_47, sh_48, sh_49, sh_50, sh_51, sh_52, sh_53, sh_54, sh_55, sh_56, sh_57, sh_58, sh_59, sh_60, ct_0, ct_1, ct_2, ct_3, ct_4, ct_5, ct_6, ct_7, ct_8, ct_9, ct_10, ct_11, ct_12, ct_13, ct_14, ct_20, ct_21, ct_22, ct_23, ct_24, ct_25, ct_30, ct_31, ct_32, ct_40, ct_41, ct_42, ct_43, ct_44, ct_45, ct_46, ct_47, ct_48, ct_49, ct_50, ct_51, ct_52, ct_53, ct_54, ct_55, ct_56, ct_57, ct_58, ct_59, ct_60, ki_m1, ki_0, ki_1, ki_2, ki_3, ki_4, ki_5, kb_m2, kb_m3, kb_m4, kb_m8, kb_m9, kb_10, kb_100, kb_16, kb_36, kb_6, kb_63, kb_8, kb_9, kb_99, ks_216, ks_2520, ks_256, ks_800, kl_0, kl_1, ↓reduceIte, reduceCtorEq, Nat.reduceAdd, Nat.reduceLT, Nat.reduceLeDiff, Nat.reduceEqDiff, List.map_cons, List.map_nil, List.sum_cons, List.sum_nil, List.cons_append, List.nil_append, Option.toList_some, Option.toList_none, true_and, and_true, true_or, or_true, not_true_eq_false, not_false_eq_true, Nat.lt_add_one, Nat.zero_le, eq_self, or_false, false_or, implies_true, forall_const, false_implies, forall_false, true_implies, and_self, Nat.zero_lt_one, Nat.add_zero, Nat.zero_add, Int32.reduceLT, Int32.reduceLE, Int32.reduceAdd, Int32.reduceSub, Int32.reduceMul, e10, e01, ite_self, ab_mx, ab_mi, ab_mb, ab_ml2, uX8_layBreaks, rX8_layBreaks_0, rX8_layBreaks_1, rX8_layBreaks_2, rX8_layBreaks_5, rX8_layBreaks_6, rX8_layBreaks_7, rX8_layBreaks_8, rX8_layBreaks_9, rX8_layBreaks_12, rX8_layBreaks_13, rX8_layBreaks_14, rX8_layBreaks_16, rX8_layBreaks_17, rX8_layBreaks_18, i20]
  exact Q
def byR (kd : Int32) (H A : Int) : Int := if kd = 1 ∨ A = 0 then 2520 * H else A
def onR (kd : Int32) (E1 W1 : Nat → Int) (n1 : Nat) (H1 A1 H2 A2 u w : Int) : Int := if kd = 1 ∧ A1 = 0 then 0 else hsH E1 W1 w (H1 * u) n1 * byR kd H2 A2
theorem by_b {kd : Int32} {H A : Int} (h0 : 1 ≤ H) (h1 : H ≤ 72) (A0 : 0 ≤ A) (A1 : A ≤ 17962560) : 0 ≤ byR kd H A ∧ byR kd H A ≤ 17962560 := by
  unfold byR
  split <;> omega
theorem on_b {kd : Int32} {E1 W1 : Nat → Int} {n1 : Nat} {H1 H2 A2 u w : Int} (b1 : cvb E1 W1 n1 H1) (h0 : 1 ≤ H2) (h1 : H2 ≤ 72) (A20 : 0 ≤ A2) (A21 : A2 ≤ 17962560) (u0 : 0 ≤ u) (u1 : u ≤ 72) (w0 : 0 ≤ w) : 0 ≤ hsH E1 W1 w (H1 * u) n1 * byR kd H2 A2 ∧ hsH E1 W1 w (H1 * u) n1 * byR kd H2 A2 ≤ 1293304320 * 17962560 ∧ 0 ≤ H1 * u ∧ H1 * u ≤ 5184 := by
  have g := b1.2.2.2
  have x0 : 0 ≤ H1 * u := Int.mul_nonneg (by omega) u0
  have x1 : H1 * u ≤ 72 * 72 := Int.mul_le_mul g.2 u1 u0 (by decide)
  have B := hs_u (m := w) b1 w0 x0 (by omega)
  have Y := by_b (kd := kd) h0 h1 A20 A21
  exact ⟨Int.mul_nonneg B.1 Y.1, Int.mul_le_mul B.2 Y.2 Y.1 (by decide), x0, by omega⟩
theorem sg3_le {a b : Int} : (sg3 a b ≤ 0) = (a ≤ b) := by
  unfold sg3
  by_cases x : a < b
  · rw [if_pos x]; exact propext ⟨fun _ => by omega, fun _ => by decide⟩
  · rw [if_neg x]
    by_cases y : a = b
    · rw [if_pos y]; exact propext ⟨fun _ => by omega, fun _ => by decide⟩
    · rw [if_neg y]; exact propext ⟨fun h => absurd h (by decide), fun h => by omega⟩
theorem sg3_ge {a b : Int} : (0 ≤ sg3 a b) = (b ≤ a) := by
  unfold sg3
  by_cases x : a < b
  · rw [if_pos x]; exact propext ⟨fun h => absurd h (by decide), fun h => by omega⟩
  · rw [if_neg x]
    by_cases y : a = b
    · rw [if_pos y]; exact propext ⟨fun _ => by omega, fun _ => by decide⟩
    · rw [if_neg y]; exact propext ⟨fun _ => by omega, fun _ => by decide⟩
