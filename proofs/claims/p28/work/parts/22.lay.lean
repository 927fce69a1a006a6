theorem ix8 {x k : Int32} {n : Nat} (h0 : 0 ≤ x.toInt) (h1 : x.toInt ≤ 3) (k0 : 0 ≤ k.toInt) (k1 : k.toInt ≤ 7) (hn : 8 * x.toInt + 8 ≤ n) : vp_in (8 * x + k) n := by
  have e8 : (8 : Int32).toInt = 8 := rfl
  have ea : (8 * x).toInt = 8 * x.toInt := by rw [i32_mul (by rw [e8]; omega) (by rw [e8]; omega), e8]
  have es : (8 * x + k).toInt = 8 * x.toInt + k.toInt := by rw [i32_add (by omega) (by omega), ea]
  exact vp_of (by omega) (by omega)
theorem ix8n {x k : Int32} (h0 : 0 ≤ x.toInt) (h1 : x.toInt ≤ 3) (k0 : 0 ≤ k.toInt) (k1 : k.toInt ≤ 7) : (8 * x + k).toNatClampNeg = 8 * x.toNatClampNeg + k.toInt.toNat := by
  have e8 : (8 : Int32).toInt = 8 := rfl
  have ea : (8 * x).toInt = 8 * x.toInt := by rw [i32_mul (by rw [e8]; omega) (by rw [e8]; omega), e8]
  have es : (8 * x + k).toInt = 8 * x.toInt + k.toInt := by rw [i32_add (by omega) (by omega), ea]
  have n2 : x.toNatClampNeg = x.toInt.toNat := rfl
  show (8 * x + k).toInt.toNat = _
  omega
theorem ix8m {x k : Int32} {n : Nat} (h0 : 0 ≤ x.toInt) (h1 : x.toInt ≤ 3) (k0 : 1 ≤ k.toInt) (k1 : k.toInt ≤ 7) (hn : 8 * x.toInt + 8 ≤ n) : vp_in (8 * x + k - 1) n := by
  have e8 : (8 : Int32).toInt = 8 := rfl
  have ea : (8 * x).toInt = 8 * x.toInt := by rw [i32_mul (by rw [e8]; omega) (by rw [e8]; omega), e8]
  have es : (8 * x + k).toInt = 8 * x.toInt + k.toInt := by rw [i32_add (by omega) (by omega), ea]
  have es1 : (8 * x + k - 1).toInt = 8 * x.toInt + k.toInt - 1 := by rw [i32_m1 (by omega), es]
  exact vp_of (by omega) (by omega)
theorem i32_dec {k : Int32} (h : 1 ≤ k.toInt) : (k + -1).toInt = k.toInt - 1 := by
  have h2 := i32_hi k
  rw [i32_add (by rw [show (-1 : Int32).toInt = -1 from rfl]; omega) (by rw [show (-1 : Int32).toInt = -1 from rfl]; omega), show (-1 : Int32).toInt = -1 from rfl]
  omega
theorem ly_v0 {h : Int32} (h0 : 0 ≤ h.toInt) (h1 : h.toInt ≤ 99) : (2520 * h.toInt64).toInt = 2520 * h.toInt := by
  have e2 : (2520 : Int64).toInt = 2520 := rfl
  have eh : h.toInt64.toInt = h.toInt := Int32.toInt_toInt64 _
  rw [i64_mul (by rw [e2, eh]; omega) (by rw [e2, eh]; omega), e2, eh]
theorem ly_b0 {h : Int32} (h0 : 0 ≤ h.toInt) (h1 : h.toInt ≤ 99) : 0 ≤ (2520 * h.toInt64).toInt ∧ (2520 * h.toInt64).toInt ≤ 249480 := by
  rw [ly_v0 h0 h1]
  omega
theorem ly_b1 {h s : Int32} (h0 : 0 ≤ h.toInt) (h1 : h.toInt ≤ 99) (s0 : 1 ≤ s.toInt) : ¬ s.toInt64 = 0 ∧ 0 ≤ (2520 * h.toInt64 / s.toInt64).toInt ∧ (2520 * h.toInt64 / s.toInt64).toInt ≤ 249480 := by
  have ev := ly_v0 h0 h1
  have ess : s.toInt64.toInt = s.toInt := Int32.toInt_toInt64 _
  refine ⟨fun e => ?_, ?_⟩
  · rw [e, show (0 : Int64).toInt = 0 from rfl] at ess
    omega
  · rw [i64_div (by rw [ev]; omega) (by rw [ess]; exact s0), ev, ess]
    have b1 : 0 ≤ 2520 * h.toInt / s.toInt := Int.ediv_nonneg (by omega) (by omega)
    have b1' : 2520 * h.toInt / s.toInt ≤ 2520 * h.toInt := Int.ediv_le_self _ (by omega)
    exact ⟨b1, by omega⟩
theorem ly_b2 {h s : Int32} (h0 : 0 ≤ h.toInt) (h1 : h.toInt ≤ 99) (s0 : 1 ≤ s.toInt) (s1 : s.toInt ≤ 9) : ¬ (s + 1).toInt64 = 0 ∧ 0 ≤ (2 * (2520 * h.toInt64) / (s + 1).toInt64).toInt ∧ (2 * (2520 * h.toInt64) / (s + 1).toInt64).toInt ≤ 249480 := by
  have ev := ly_v0 h0 h1
  have ess : (s + 1).toInt64.toInt = s.toInt + 1 := by rw [Int32.toInt_toInt64, i32_p1 (by omega)]
  have e22 : (2 : Int64).toInt = 2 := rfl
  have e2v : (2 * (2520 * h.toInt64)).toInt = 5040 * h.toInt := by rw [i64_mul (by rw [e22, ev]; omega) (by rw [e22, ev]; omega), e22, ev]; omega
  refine ⟨fun e => ?_, ?_⟩
  · rw [e, show (0 : Int64).toInt = 0 from rfl] at ess
    omega
  · rw [i64_div (by rw [e2v]; omega) (by rw [ess]; omega), e2v, ess]
    have b2 : 0 ≤ 5040 * h.toInt / (s.toInt + 1) := Int.ediv_nonneg (by omega) (by omega)
    have b3 : 5040 * h.toInt / (s.toInt + 1) ≤ 249480 := by
      refine Int.le_trans (Int.ediv_le_ediv (by omega) (show 5040 * h.toInt ≤ 249480 * (s.toInt + 1) by omega)) ?_
      rw [Int.mul_ediv_cancel _ (by omega)]
      exact Int.le_refl _
    exact ⟨b2, b3⟩
theorem ly_t {a s : Int32} {b v : Int64} {f : Int} (s0 : 1 ≤ s.toInt) (s1 : s.toInt ≤ 9) (w0 : 0 ≤ v.toInt) (w1 : v.toInt ≤ 249480) (f0 : 0 ≤ f) (f1 : f ≤ 8) (h3 : f ≤ a.toInt ∧ a.toInt ≤ 9 * f) (h4 : 0 ≤ b.toInt ∧ b.toInt ≤ 2245320 * f) : (f + 1 ≤ (a + s).toInt ∧ (a + s).toInt ≤ 9 * (f + 1)) ∧ (0 ≤ (b + s.toInt64 * v).toInt ∧ (b + s.toInt64 * v).toInt ≤ 2245320 * (f + 1)) := by
  have p0 : 0 ≤ s.toInt * v.toInt := Int.mul_nonneg (by omega) w0
  have p1 : s.toInt * v.toInt ≤ 9 * 249480 := Int.mul_le_mul s1 w1 w0 (by decide)
  have em : s.toInt64.toInt = s.toInt := Int32.toInt_toInt64 _
  have ep : (s.toInt64 * v).toInt = s.toInt * v.toInt := by rw [i64_mul (by rw [em]; omega) (by rw [em]; omega), em]
  rw [i32_add (x := a) (y := s) (by omega) (by omega), i64_add (x := b) (y := s.toInt64 * v) (by rw [ep]; omega) (by rw [ep]; omega), ep]
  omega
def ly_I (σ0 σ : ab_S) (s t : Nat) (f : Int) (c : ab_S) : Prop := ck_J 0 σ0 c ∧ c.1 49 0 s = σ0.1 41 0 t ∧ (f ≤ (c.1 50 0 s).toInt ∧ (c.1 50 0 s).toInt ≤ 9 * f) ∧ (0 ≤ (c.2 51 0 s).toInt ∧ (c.2 51 0 s).toInt ≤ 2245320 * f) ∧ ∀ j, ¬ j = s → c.1 49 0 j = σ.1 49 0 j ∧ c.1 50 0 j = σ.1 50 0 j ∧ c.2 51 0 j = σ.2 51 0 j
theorem ly_I.a {σ0 σ c : ab_S} {s t j : Nat} {f : Int} {v : Int64} (h : ly_I σ0 σ s t f c) : ly_I σ0 σ s t f (ab_sl c 48 0 j v) := ⟨h.1.sl 0 rfl, h.2⟩
theorem ly_I.b {σ0 σ c : ab_S} {s t j : Nat} {f : Int} {v : Int32} (h : ly_I σ0 σ s t f c) : ly_I σ0 σ s t f (ab_si c 47 0 j v) := ⟨h.1.si 0 rfl (i32_lo _) (i32_hi _), h.2⟩
set_option maxRecDepth 100000 in
set_option maxHeartbeats 400000 in
theorem sX8_lay {σ0 σ : ab_S} {P : ab_P} {x1 x2 x3 : Int32} (hJ : ck_J 0 σ0 σ) (l1 : 0 ≤ x1.toInt) (m1 : x1.toInt ≤ 1) (l2 : 0 ≤ x2.toInt) (m2 : x2.toInt ≤ 3) (hP : ∀ σ', ly_I σ0 σ x1.toNatClampNeg x2.toNatClampNeg (σ0.1 41 0 x2.toNatClampNeg).toInt σ' → P none σ') : ab_sp mX8_lay cX8_lay [.inr (some (40, 0)), .inl (.inl x1), .inl (.inl x2), .inl (.inl x3)] σ P := by
  have v1 : vp_in x1 2 := vp_of l1 (by omega)
  have v2 : vp_in x2 4 := vp_of l2 (by omega)
  have n2 : x2.toNatClampNeg = x2.toInt.toNat := rfl
  have nt : x2.toNatClampNeg < 4 := by omega
  have hm : 0 ≤ (σ0.1 41 0 x2.toNatClampNeg).toInt ∧ (σ0.1 41 0 x2.toNatClampNeg).toInt ≤ 8 := by rw [← (hJ.2.1 41 _ rfl 0).1]; exact hJ.1 41 0 _
  have hp := hJ.2.2 x2.toNatClampNeg
  have many : ∀ c, ck_J 0 σ0 c → c.1 41 0 x2.toNatClampNeg = σ0.1 41 0 x2.toNatClampNeg := fun c h => (h.2.1 41 _ rfl 0).1
  have k0 : ck_J 0 σ0 (ab_sl (ab_si (ab_si σ 49 0 x1.toNatClampNeg (σ0.1 41 0 x2.toNatClampNeg)) 50 0 x1.toNatClampNeg 0) 51 0 x1.toNatClampNeg 0) := (((hJ.si (k := 49) 0 rfl hm.1 hm.2).si (k := 50) (j := x1.toNatClampNeg) 0 rfl (i32_lo _) (i32_hi _)).sl 0 rfl)
  have hi0 : ly_I σ0 σ x1.toNatClampNeg x2.toNatClampNeg 0 (ab_sl (ab_si (ab_si σ 49 0 x1.toNatClampNeg (σ0.1 41 0 x2.toNatClampNeg)) 50 0 x1.toNatClampNeg 0) 51 0 x1.toNatClampNeg 0) := by
    refine ⟨k0, ?_, ?_, ?_, fun j hj => ⟨?_, ?_, ?_⟩⟩
    · rw [sn_li, sn_ii (by decide), sn_ie]
    · rw [sn_li, sn_ie]; decide
    · rw [sn_le]; decide
    · rw [sn_li, sn_ii (by decide), sn_ij hj]
    · rw [sn_li, sn_ij hj, sn_ii (by decide)]
    · rw [sn_lj hj, sn_il, sn_il]
  have hM0 := many σ hJ
  obtain ⟨M, eM⟩ : ∃ M, σ0.1 41 0 x2.toNatClampNeg = M := ⟨_, rfl⟩
  rw [eM] at hP hm hp hi0 hM0
  have many : ∀ c, ck_J 0 σ0 c → c.1 41 0 x2.toNatClampNeg = M := fun c h => (many c h).trans eM
  have fin : ∀ (n : Nat) (k : Int32) (c : ab_S) (l5 l6 l7 l8 : Option ab_V), (8 - k.toInt).toNat = n → 0 ≤ k.toInt → ly_I σ0 σ x1.toNatClampNeg x2.toNatClampNeg M.toInt c → ab_wp mX8_lay cX8_lay none P 269 [some (.inr (some (40, 0))), some (.inl (.inl x1)), some (.inl (.inl x2)), some (.inl (.inl x3)), some (.inl (.inl k)), l5, l6, l7, l8] [] c := by
    intro n
    induction n with
    | zero =>
      intro k c l5 l6 l7 l8 en k0 hc
      have em := many c hc.1
      have c2 : M ≤ k := Int32.le_iff_toInt_le.mpr (by omega)
      rw [rX8_lay_269]
      simp only [ab_loc, ab_cat, ab_kil, ab_al, ab_ln, ab_lnp, ab_rf, sh_0, sh_1, sh_2, sh_3, sh_4, sh_5, sh_6, sh_7, sh_8, sh_9, sh_10, sh_11, sh_12, sh_13, sh_14, sh_20, sh_21, sh_22, sh_23, sh_24, sh_25, sh_30, sh_31, sh_32, sh_40, sh_41, sh_42, sh_43, sh_44, sh_45, sh_46, sh_47, sh_48, sh_49, sh_50, sh_51, sh_52, sh_53, sh_54, sh_55, sh_56, sh_57, sh_58, sh_59, sh_60, ct_0, ct_1, ct_2, ct_3, ct_4, ct_5, ct_6, ct_7, ct_8, ct_9, ct_10, ct_11, ct_12, ct_13, ct_14, ct_20, ct_21, ct_22, ct_23, ct_24, ct_25, ct_30, ct_31, ct_32, ct_40, ct_41, ct_42, ct_43, ct_44, ct_45, ct_46, ct_47, ct_48, ct_49, ct_50, ct_51, ct_52, ct_53, ct_54, ct_55, ct_56, ct_57, ct_58, ct_59, ct_60, ki_m1, ki_0, ki_1, ki_2, ki_3, ki_4, ki_5, kb_m2, kb_m3, kb_m4, kb_m8, kb_m9, kb_10, kb_100, kb_16, kb_36, kb_6, kb_63, kb_8, kb_9, kb_99, ks_216, ks_2520, ks_256, ks_800, kl_0, kl_1, ↓reduceIte, reduceCtorEq, Nat.reduceAdd, Nat.reduceLT, Nat.reduceLeDiff, Nat.reduceEqDiff, List.map_cons, List.map_nil, List.sum_cons, List.sum_nil, List.cons_append, List.nil_append, Option.toList_some, Option.toList_none, true_and, and_true, true_or, or_true, not_true_eq_false, not_false_eq_true, Nat.lt_add_one, Nat.zero_le, eq_self, or_false, false_or, implies_true, forall_const, false_implies, forall_false, true_implies, and_self, Nat.zero_lt_one, Nat.add_zero, Nat.zero_add, Int32.reduceLT, Int32.reduceLE, Int32.reduceAdd, Int32.reduceSub, Int32.reduceMul, e10, e01, ite_self, ab_mx, ab_mi, ab_mb, ab_ml2, rX8_lay_271, rX8_lay_272, rX8_lay_275, rX8_lay_276, rX8_lay_277, rX8_lay_280, rX8_lay_281, rX8_lay_284, rX8_lay_285, rX8_lay_286, rX8_lay_287, rX8_lay_288, rX8_lay_291, rX8_lay_292, rX8_lay_295, rX8_lay_297, rX8_lay_298, rX8_lay_299, rX8_lay_301, rX8_lay_302, rX8_lay_305, rX8_lay_306, rX8_lay_309, rX8_lay_312, v2, em, c2]
      exact hP _ hc
    | succ n ih =>
      intro k c l5 l6 l7 l8 en k0 hc
      have em := many c hc.1
      rw [rX8_lay_269]
      by_cases c2 : M ≤ k
      · simp only [ab_loc, ab_cat, ab_kil, ab_al, ab_ln, ab_lnp, ab_rf, sh_0, sh_1, sh_2, sh_3, sh_4, sh_5, sh_6, sh_7, sh_8, sh_9, sh_10, sh_11, sh_12, sh_13, sh_14, sh_20, sh_21, sh_22, sh_23, sh_24, sh_25, sh_30, sh_31, sh_32, sh_40, sh_41, sh_42, sh_43, sh_44, sh_45, sh_46, sh_47, sh_48, sh_49, sh_50, sh_51, sh_52, sh_53, sh_54, sh_55, sh_56, sh_57, sh_58, sh_59, sh_60, ct_0, ct_1, ct_2, ct_3, ct_4, ct_5, ct_6, ct_7, ct_8, ct_9, ct_10, ct_11, ct_12, ct_13, ct_14, ct_20, ct_21, ct_22, ct_23, ct_24, ct_25, ct_30, ct_31, ct_32, ct_40, ct_41, ct_42, ct_43, ct_44, ct_45, ct_46, ct_47, ct_48, ct_49, ct_50, ct_51, ct_52, ct_53, ct_54, ct_55, ct_56, ct_57, ct_58, ct_59, ct_60, ki_m1, ki_0, ki_1, ki_2, ki_3, ki_4, ki_5, kb_m2, kb_m3, kb_m4, kb_m8, kb_m9, kb_10, kb_100, kb_16, kb_36, kb_6, kb_63, kb_8, kb_9, kb_99, ks_216, ks_2520, ks_256, ks_800, kl_0, kl_1, ↓reduceIte, reduceCtorEq, Nat.reduceAdd, Nat.reduceLT, Nat.reduceLeDiff, Nat.reduceEqDiff, List.map_cons, List.map_nil, List.sum_cons, List.sum_nil, List.cons_append, List.nil_append, Option.toList_some, Option.toList_none, true_and, and_true, true_or, or_true, not_true_eq_false, not_false_eq_true, Nat.lt_add_one, Nat.zero_le, eq_self, or_false, false_or, implies_true, forall_const, false_implies, forall_false, true_implies, and_self, Nat.zero_lt_one, Nat.add_zero, Nat.zero_add, Int32.reduceLT, Int32.reduceLE, Int32.reduceAdd, Int32.reduceSub, Int32.reduceMul, e10, e01, ite_self, ab_mx, ab_mi, ab_mb, ab_ml2, rX8_lay_271, rX8_lay_272, rX8_lay_275, rX8_lay_276, rX8_lay_277, rX8_lay_280, rX8_lay_281, rX8_lay_284, rX8_lay_285, rX8_lay_286, rX8_lay_287, rX8_lay_288, rX8_lay_291, rX8_lay_292, rX8_lay_295, rX8_lay_297, rX8_lay_298, rX8_lay_299, rX8_lay_301, rX8_lay_302, rX8_lay_305, rX8_lay_306, rX8_lay_309, rX8_lay_312, v2, em, c2]
        exact hP _ hc
      · have c1 := nle32 c2
        have ek : (k + 1).toInt = k.toInt + 1 := i32_p1 (by omega)
        have vk : vp_in (8 * x1 + k) 16 := ix8 l1 (by omega) k0 (by omega) (by omega)
        simp only [ab_loc, ab_cat, ab_kil, ab_al, ab_ln, ab_lnp, ab_rf, sh_0, sh_1, sh_2, sh_3, sh_4, sh_5, sh_6, sh_7, sh_8, sh_9, sh_10, sh_11, sh_12, sh_13, sh_14, sh_20, sh_21, sh_22, sh_23, sh_24, sh_25, sh_30, sh_31, sh_32, sh_40, sh_41, sh_42, sh_43, sh_44, sh_45, sh_46, sh_47, sh_48, sh_49, sh_50, sh_51, sh_52, sh_53, sh_54, sh_55, sh_56, sh_57, sh_58, sh_59, sh_60, ct_0, ct_1, ct_2, ct_3, ct_4, ct_5, ct_6, ct_7, ct_8, ct_9, ct_10, ct_11, ct_12, ct_13, ct_14, ct_20, ct_21, ct_22, ct_23, ct_24, ct_25, ct_30, ct_31, ct_32, ct_40, ct_41, ct_42, ct_43, ct_44, ct_45, ct_46, ct_47, ct_48, ct_49, ct_50, ct_51, ct_52, ct_53, ct_54, ct_55, ct_56, ct_57, ct_58, ct_59, ct_60, ki_m1, ki_0, ki_1, ki_2, ki_3, ki_4, ki_5, kb_m2, kb_m3, kb_m4, kb_m8, kb_m9, kb_10, kb_100, kb_16, kb_36, kb_6, kb_63, kb_8, kb_9, kb_99, ks_216, ks_2520, ks_256, ks_800, kl_0, kl_1, ↓reduceIte, reduceCtorEq, Nat.reduceAdd, Nat.reduceLT, Nat.reduceLeDiff, Nat.reduceEqDiff, List.map_cons, List.map_nil, List.sum_cons, List.sum_nil, List.cons_append, List.nil_append, Option.toList_some, Option.toList_none, true_and, and_true, true_or, or_true, not_true_eq_false, not_false_eq_true, Nat.lt_add_one, Nat.zero_le, eq_self, or_false, false_or, implies_true, forall_const, false_implies, forall_false, true_implies, and_self, Nat.zero_lt_one, Nat.add_zero, Nat.zero_add, Int32.reduceLT, Int32.reduceLE, Int32.reduceAdd, Int32.reduceSub, Int32.reduceMul, e10, e01, ite_self, ab_mx, ab_mi, ab_mb, ab_ml2, rX8_lay_271, rX8_lay_272, rX8_lay_275, rX8_lay_276, rX8_lay_277, rX8_lay_280, rX8_lay_281, rX8_lay_284, rX8_lay_285, rX8_lay_286, rX8_lay_287, rX8_lay_288, rX8_lay_291, rX8_lay_292, rX8_lay_295, rX8_lay_297, rX8_lay_298, rX8_lay_299, rX8_lay_301, rX8_lay_302, rX8_lay_305, rX8_lay_306, rX8_lay_309, rX8_lay_312, v1, v2, vk, em, c2]
        split
        · first | exact hP _ hc | exact ih _ _ _ _ _ _ (by omega) (by omega) hc.a
        · first | exact hP _ hc | exact ih _ _ _ _ _ _ (by omega) (by omega) hc.a
  have inner : ∀ (f s5 : Int32) (v : Int64), 0 ≤ f.toInt → f.toInt < M.toInt → 1 ≤ s5.toInt → s5.toInt ≤ 9 → 0 ≤ v.toInt → v.toInt ≤ 249480 → (∀ (c : ab_S) (l5 l6 l7 l8 : Option ab_V), ly_I σ0 σ x1.toNatClampNeg x2.toNatClampNeg (f.toInt + 1) c → ab_wp mX8_lay cX8_lay none P 29 [some (.inr (some (40, 0))), some (.inl (.inl x1)), some (.inl (.inl x2)), some (.inl (.inl x3)), some (.inl (.inl (f + 1))), l5, l6, l7, l8] [] c) → ∀ (n : Nat) (k : Int32) (c : ab_S), k.toInt = n → k.toInt ≤ f.toInt → ly_I σ0 σ x1.toNatClampNeg x2.toNatClampNeg f.toInt c → ab_wp mX8_lay cX8_lay none P 123 [some (.inr (some (40, 0))), some (.inl (.inl x1)), some (.inl (.inl x2)), some (.inl (.inl x3)), some (.inl (.inl f)), some (.inl (.inl s5)), some (.inl (.inr v)), none, some (.inl (.inl k))] [] c := by
    intro f s5 v f0 f1 s0 s1 w0 w1 nxt
    have tail : ∀ (k : Int32) (c : ab_S), 0 ≤ k.toInt → k.toInt ≤ f.toInt → ly_I σ0 σ x1.toNatClampNeg x2.toNatClampNeg f.toInt c → ab_wp mX8_lay cX8_lay none P 206 [some (.inr (some (40, 0))), some (.inl (.inl x1)), some (.inl (.inl x2)), some (.inl (.inl x3)), some (.inl (.inl f)), some (.inl (.inl s5)), some (.inl (.inr v)), none, some (.inl (.inl k))] [] c := by
      intro k c k0 k1 hc
      have vk : vp_in (8 * x1 + k) 16 := ix8 l1 (by omega) k0 (by omega) (by omega)
      have hq := ly_t s0 s1 w0 w1 f0 (by omega) hc.2.2.1 hc.2.2.2.1
      have q : ly_I σ0 σ x1.toNatClampNeg x2.toNatClampNeg (f.toInt + 1) (ab_sl (ab_si (ab_si (ab_sl c 48 0 (8 * x1 + k).toNatClampNeg v) 47 0 (8 * x1 + k).toNatClampNeg s5) 50 0 x1.toNatClampNeg (c.1 50 0 x1.toNatClampNeg + s5)) 51 0 x1.toNatClampNeg (c.2 51 0 x1.toNatClampNeg + s5.toInt64 * v)) := by
        refine ⟨((hc.a.b.1).si (k := 50) (j := x1.toNatClampNeg) 0 rfl (i32_lo _) (i32_hi _)).sl 0 rfl, ?_, ?_, ?_, fun j hj => ⟨?_, ?_, ?_⟩⟩
        · rw [sn_li, sn_ii (by decide), sn_ii (by decide), sn_li]; exact hc.2.1
        · rw [sn_li, sn_ie]; exact hq.1
        · rw [sn_le]; exact hq.2
        · rw [sn_li, sn_ii (by decide), sn_ii (by decide), sn_li]; exact (hc.2.2.2.2 j hj).1
        · rw [sn_li, sn_ij hj, sn_ii (by decide), sn_li]; exact (hc.2.2.2.2 j hj).2.1
        · rw [sn_lj hj, sn_il, sn_il, sn_ll (by decide)]; exact (hc.2.2.2.2 j hj).2.2
      have key := nxt _ (some (.inl (.inl s5))) (some (.inl (.inr v))) none (some (.inl (.inl k))) q
      simp only [ab_loc, ab_cat, ab_kil, ab_al, ab_ln, ab_lnp, ab_rf, sh_0, sh_1, sh_2, sh_3, sh_4, sh_5, sh_6, sh_7, sh_8, sh_9, sh_10, sh_11, sh_12, sh_13, sh_14, sh_20, sh_21, sh_22, sh_23, sh_24, sh_25, sh_30, sh_31, sh_32, sh_40, sh_41, sh_42, sh_43, sh_44, sh_45, sh_46, sh_47, sh_48, sh_49, sh_50, sh_51, sh_52, sh_53, sh_54, sh_55, sh_56, sh_57, sh_58, sh_59, sh_60, ct_0, ct_1, ct_2, ct_3, ct_4, ct_5, ct_6, ct_7, ct_8, ct_9, ct_10, ct_11, ct_12, ct_13, ct_14, ct_20, ct_21, ct_22, ct_23, ct_24, ct_25, ct_30, ct_31, ct_32, ct_40, ct_41, ct_42, ct_43, ct_44, ct_45, ct_46, ct_47, ct_48, ct_49, ct_50, ct_51, ct_52, ct_53, ct_54, ct_55, ct_56, ct_57, ct_58, ct_59, ct_60, ki_m1, ki_0, ki_1, ki_2, ki_3, ki_4, ki_5, kb_m2, kb_m3, kb_m4, kb_m8, kb_m9, kb_10, kb_100, kb_16, kb_36, kb_6, kb_63, kb_8, kb_9, kb_99, ks_216, ks_2520, ks_256, ks_800, kl_0, kl_1, ↓reduceIte, reduceCtorEq, Nat.reduceAdd, Nat.reduceLT, Nat.reduceLeDiff, Nat.reduceEqDiff, List.map_cons, List.map_nil, List.sum_cons, List.sum_nil, List.cons_append, List.nil_append, Option.toList_some, Option.toList_none, true_and, and_true, true_or, or_true, not_true_eq_false, not_false_eq_true, Nat.lt_add_one, Nat.zero_le, eq_self, or_false, false_or, implies_true, forall_const, false_implies, forall_false, true_implies, and_self, Nat.zero_lt_one, Nat.add_zero, Nat.zero_add, Int32.reduceLT, Int32.reduceLE, Int32.reduceAdd, Int32.reduceSub, Int32.reduceMul, e10, e01, ite_self, ab_mx, ab_mi, ab_mb, ab_ml2, rX8_lay_206, rX8_lay_207, rX8_lay_210, rX8_lay_212, rX8_lay_213, rX8_lay_214, rX8_lay_216, rX8_lay_217, rX8_lay_219, rX8_lay_220, rX8_lay_221, rX8_lay_224, rX8_lay_226, rX8_lay_227, rX8_lay_228, rX8_lay_230, rX8_lay_231, rX8_lay_233, rX8_lay_234, rX8_lay_235, rX8_lay_238, rX8_lay_239a, rX8_lay_239l, rX8_lay_240, rX8_lay_241, rX8_lay_243, rX8_lay_244, rX8_lay_245, rX8_lay_246, rX8_lay_249, rX8_lay_250a, rX8_lay_250l, rX8_lay_251, rX8_lay_252, rX8_lay_254, rX8_lay_255, rX8_lay_257, rX8_lay_258, rX8_lay_259, rX8_lay_260, rX8_lay_263, v1, vk, sn_ii, sn_il, sn_li, sn_ll]
      exact key
    intro n
    induction n with
    | zero =>
      intro k c e _ hc
      have c2 : k ≤ 0 := Int32.le_iff_toInt_le.mpr (by rw [t0i]; omega)
      rw [rX8_lay_123, rX8_lay_125, if_pos c2]
      exact tail k c (by omega) (by omega) hc
    | succ n ih =>
      intro k c e kf hc
      have c2 : ¬ k ≤ 0 := fun q => by have q := le32 q; rw [t0i] at q; omega
      have vk : vp_in (8 * x1 + k) 16 := ix8 l1 (by omega) (by omega) (by omega) (by omega)
      have vk1 : vp_in (8 * x1 + k - 1) 16 := ix8m l1 (by omega) (by omega) (by omega) (by omega)
      have tl := tail k c (by omega) (by omega) hc
      have ee : (k + -1).toInt = n ∧ (k + -1).toInt ≤ f.toInt := by rw [i32_dec (show 1 ≤ k.toInt by omega)]; omega
      have K := fun (j j' : Nat) (w : Int64) (y : Int32) => ih (k + -1) (ab_si (ab_sl c 48 0 j w) 47 0 j' y) ee.1 ee.2 hc.a.b
      rw [rX8_lay_123]
      simp only [ab_loc, ab_cat, ab_kil, ab_al, ab_ln, ab_lnp, ab_rf, sh_0, sh_1, sh_2, sh_3, sh_4, sh_5, sh_6, sh_7, sh_8, sh_9, sh_10, sh_11, sh_12, sh_13, sh_14, sh_20, sh_21, sh_22, sh_23, sh_24, sh_25, sh_30, sh_31, sh_32, sh_40, sh_41, sh_42, sh_43, sh_44, sh_45, sh_46, sh_47, sh_48, sh_49, sh_50, sh_51, sh_52, sh_53, sh_54, sh_55, sh_56, sh_57, sh_58, sh_59, sh_60, ct_0, ct_1, ct_2, ct_3, ct_4, ct_5, ct_6, ct_7, ct_8, ct_9, ct_10, ct_11, ct_12, ct_13, ct_14, ct_20, ct_21, ct_22, ct_23, ct_24, ct_25, ct_30, ct_31, ct_32, ct_40, ct_41, ct_42, ct_43, ct_44, ct_45, ct_46, ct_47, ct_48, ct_49, ct_50, ct_51, ct_52, ct_53, ct_54, ct_55, ct_56, ct_57, ct_58, ct_59, ct_60, ki_m1, ki_0, ki_1, ki_2, ki_3, ki_4, ki_5, kb_m2, kb_m3, kb_m4, kb_m8, kb_m9, kb_10, kb_100, kb_16, kb_36, kb_6, kb_63, kb_8, kb_9, kb_99, ks_216, ks_2520, ks_256, ks_800, kl_0, kl_1, ↓reduceIte, reduceCtorEq, Nat.reduceAdd, Nat.reduceLT, Nat.reduceLeDiff, Nat.reduceEqDiff, List.map_cons, List.map_nil, List.sum_cons, List.sum_nil, List.cons_append, List.nil_append, Option.toList_some, Option.toList_none, true_and, and_true, true_or, or_true, not_true_eq_false, not_false_eq_true, Nat.lt_add_one, Nat.zero_le, eq_self, or_false, false_or, implies_true, forall_const, false_implies, forall_false, true_implies, and_self, Nat.zero_lt_one, Nat.add_zero, Nat.zero_add, Int32.reduceLT, Int32.reduceLE, Int32.reduceAdd, Int32.reduceSub, Int32.reduceMul, e10, e01, ite_self, ab_mx, ab_mi, ab_mb, ab_ml2, rX8_lay_125, rX8_lay_128, rX8_lay_129, rX8_lay_132, rX8_lay_134, rX8_lay_135, rX8_lay_136, rX8_lay_138, rX8_lay_139, rX8_lay_140, rX8_lay_141, rX8_lay_142, rX8_lay_144, rX8_lay_145, rX8_lay_148, rX8_lay_149, rX8_lay_152, rX8_lay_154, rX8_lay_155, rX8_lay_156, rX8_lay_158, rX8_lay_159, rX8_lay_160, rX8_lay_163, rX8_lay_165, rX8_lay_166, rX8_lay_167, rX8_lay_169, rX8_lay_170, rX8_lay_171, rX8_lay_172, rX8_lay_173, rX8_lay_174, rX8_lay_175, rX8_lay_178, rX8_lay_180, rX8_lay_181, rX8_lay_182, rX8_lay_184, rX8_lay_185, rX8_lay_186, rX8_lay_189, rX8_lay_191, rX8_lay_192, rX8_lay_193, rX8_lay_195, rX8_lay_196, rX8_lay_197, rX8_lay_198, rX8_lay_199, rX8_lay_200, rX8_lay_203, vk, vk1, c2]
      split
      · exact tl
      · exact K _ _ _ _
  have outer : ∀ (n : Nat) (f : Int32) (c : ab_S) (l5 l6 l7 l8 : Option ab_V), (8 - f.toInt).toNat = n → 0 ≤ f.toInt → f.toInt ≤ M.toInt → ly_I σ0 σ x1.toNatClampNeg x2.toNatClampNeg f.toInt c → ab_wp mX8_lay cX8_lay none P 29 [some (.inr (some (40, 0))), some (.inl (.inl x1)), some (.inl (.inl x2)), some (.inl (.inl x3)), some (.inl (.inl f)), l5, l6, l7, l8] [] c := by
    intro n
    induction n with
    | zero =>
      intro f c l5 l6 l7 l8 en f0 f1 hc
      have em := many c hc.1
      have c2 : M ≤ f := Int32.le_iff_toInt_le.mpr (by omega)
      have ef : f.toInt = M.toInt := by omega
      rw [ef] at hc
      simp only [ab_loc, ab_cat, ab_kil, ab_al, ab_ln, ab_lnp, ab_rf, sh_0, sh_1, sh_2, sh_3, sh_4, sh_5, sh_6, sh_7, sh_8, sh_9, sh_10, sh_11, sh_12, sh_13, sh_14, sh_20, sh_21, sh_22, sh_23, sh_24, sh_25, sh_30, sh_31, sh_32, sh_40, sh_41, sh_42, sh_43, sh_44, sh_45, sh_46, sh_47, sh_48, sh_49, sh_50, sh_51, sh_52, sh_53, sh_54, sh_55, sh_56, sh_57, sh_58, sh_59, sh_60, ct_0, ct_1, ct_2, ct_3, ct_4, ct_5, ct_6, ct_7, ct_8, ct_9, ct_10, ct_11, ct_12, ct_13, ct_14, ct_20, ct_21, ct_22, ct_23, ct_24, ct_25, ct_30, ct_31, ct_32, ct_40, ct_41, ct_42, ct_43, ct_44, ct_45, ct_46, ct_47, ct_48, ct_49, ct_50, ct_51, ct_52, ct_53, ct_54, ct_55, ct_56, ct_57, ct_58, ct_59, ct_60, ki_m1, ki_0, ki_1, ki_2, ki_3, ki_4, ki_5, kb_m2, kb_m3, kb_m4, kb_m8, kb_m9, kb_10, kb_100, kb_16, kb_36, kb_6, kb_63, kb_8, kb_9, kb_99, ks_216, ks_2520, ks_256, ks_800, kl_0, kl_1, ↓reduceIte, reduceCtorEq, Nat.reduceAdd, Nat.reduceLT, Nat.reduceLeDiff, Nat.reduceEqDiff, List.map_cons, List.map_nil, List.sum_cons, List.sum_nil, List.cons_append, List.nil_append, Option.toList_some, Option.toList_none, true_and, and_true, true_or, or_true, not_true_eq_false, not_false_eq_true, Nat.lt_add_one, Nat.zero_le, eq_self, or_false, false_or, implies_true, forall_const, false_implies, forall_false, true_implies, and_self, Nat.zero_lt_one, Nat.add_zero, Nat.zero_add, Int32.reduceLT, Int32.reduceLE, Int32.reduceAdd, Int32.reduceSub, Int32.reduceMul, e10, e01, ite_self, ab_mx, ab_mi, ab_mb, ab_ml2, rX8_lay_29, rX8_lay_31, rX8_lay_32, rX8_lay_35, rX8_lay_36, rX8_lay_37, rX8_lay_266, rX8_lay_267, v2, em, c2]
      exact fin _ _ _ _ _ _ _ rfl (by decide) hc
    | succ n ih =>
      intro f c l5 l6 l7 l8 en f0 f1 hc
      have em := many c hc.1
      by_cases c2 : M ≤ f
      · have ef : f.toInt = M.toInt := by have := le32 c2; omega
        rw [ef] at hc
        simp only [ab_loc, ab_cat, ab_kil, ab_al, ab_ln, ab_lnp, ab_rf, sh_0, sh_1, sh_2, sh_3, sh_4, sh_5, sh_6, sh_7, sh_8, sh_9, sh_10, sh_11, sh_12, sh_13, sh_14, sh_20, sh_21, sh_22, sh_23, sh_24, sh_25, sh_30, sh_31, sh_32, sh_40, sh_41, sh_42, sh_43, sh_44, sh_45, sh_46, sh_47, sh_48, sh_49, sh_50, sh_51, sh_52, sh_53, sh_54, sh_55, sh_56, sh_57, sh_58, sh_59, sh_60, ct_0, ct_1, ct_2, ct_3, ct_4, ct_5, ct_6, ct_7, ct_8, ct_9, ct_10, ct_11, ct_12, ct_13, ct_14, ct_20, ct_21, ct_22, ct_23, ct_24, ct_25, ct_30, ct_31, ct_32, ct_40, ct_41, ct_42, ct_43, ct_44, ct_45, ct_46, ct_47, ct_48, ct_49, ct_50, ct_51, ct_52, ct_53, ct_54, ct_55, ct_56, ct_57, ct_58, ct_59, ct_60, ki_m1, ki_0, ki_1, ki_2, ki_3, ki_4, ki_5, kb_m2, kb_m3, kb_m4, kb_m8, kb_m9, kb_10, kb_100, kb_16, kb_36, kb_6, kb_63, kb_8, kb_9, kb_99, ks_216, ks_2520, ks_256, ks_800, kl_0, kl_1, ↓reduceIte, reduceCtorEq, Nat.reduceAdd, Nat.reduceLT, Nat.reduceLeDiff, Nat.reduceEqDiff, List.map_cons, List.map_nil, List.sum_cons, List.sum_nil, List.cons_append, List.nil_append, Option.toList_some, Option.toList_none, true_and, and_true, true_or, or_true, not_true_eq_false, not_false_eq_true, Nat.lt_add_one, Nat.zero_le, eq_self, or_false, false_or, implies_true, forall_const, false_implies, forall_false, true_implies, and_self, Nat.zero_lt_one, Nat.add_zero, Nat.zero_add, Int32.reduceLT, Int32.reduceLE, Int32.reduceAdd, Int32.reduceSub, Int32.reduceMul, e10, e01, ite_self, ab_mx, ab_mi, ab_mb, ab_ml2, rX8_lay_29, rX8_lay_31, rX8_lay_32, rX8_lay_35, rX8_lay_36, rX8_lay_37, rX8_lay_266, rX8_lay_267, v2, em, c2]
        exact fin _ _ _ _ _ _ _ rfl (by decide) hc
      · have c1 := nle32 c2
        have va : vp_in (8 * x1 + f) 16 := ix8 l1 (by omega) f0 (by omega) (by omega)
        have vb : vp_in (8 * x2 + f) 32 := ix8 l2 m2 f0 (by omega) (by omega)
        have et2 := ix8n l2 m2 f0 (show f.toInt ≤ 7 by omega)
        have hs := (hp f.toInt.toNat nt (by omega)).1
        rw [← et2, ← (hc.1.2.1 44 _ rfl 0).1] at hs
        have hs9 : (c.1 44 0 (8 * x2 + f).toNatClampNeg).toInt ≤ 9 := (hc.1.1 44 0 _).2
        have hh : 0 ≤ (c.1 46 0 (8 * x1 + f).toNatClampNeg).toInt ∧ (c.1 46 0 (8 * x1 + f).toNatClampNeg).toInt ≤ 99 := hc.1.1 46 0 _
        obtain ⟨s, hse⟩ : ∃ s, c.1 44 0 (8 * x2 + f).toNatClampNeg = s := ⟨_, rfl⟩
        obtain ⟨h, hhe⟩ : ∃ h, c.1 46 0 (8 * x1 + f).toNatClampNeg = h := ⟨_, rfl⟩
        rw [hse] at hs hs9
        rw [hhe] at hh
        have fM : f.toInt < M.toInt := by omega
        have fn : f.toInt = f.toInt.toNat := by omega
        have nx : ∀ (c : ab_S) (l5 l6 l7 l8 : Option ab_V), ly_I σ0 σ x1.toNatClampNeg x2.toNatClampNeg (f.toInt + 1) c → ab_wp mX8_lay cX8_lay none P 29 [some (.inr (some (40, 0))), some (.inl (.inl x1)), some (.inl (.inl x2)), some (.inl (.inl x3)), some (.inl (.inl (f + 1))), l5, l6, l7, l8] [] c := fun c l5 l6 l7 l8 h => by
          have ef : (f + 1).toInt = f.toInt + 1 := i32_p1 (by omega)
          exact ih (f + 1) c l5 l6 l7 l8 (by omega) (by omega) (by omega) (by rw [ef]; exact h)
        have B0 := ly_b0 hh.1 hh.2
        have B1 := ly_b1 hh.1 hh.2 hs
        have B2 := ly_b2 hh.1 hh.2 hs hs9
        by_cases h0 : x3 = 0
        · have q0 : (x3 = 0) = True := eq_true h0
          have q1 : (x3 = 1) = False := eq_false (fun e => by rw [h0] at e; cases e)
          have q2 : (x3 = 2) = False := eq_false (fun e => by rw [h0] at e; cases e)
          have K := inner f 1 (2520 * h.toInt64) f0 fM (by decide) (by decide) B0.1 B0.2 nx f.toInt.toNat f c fn (Int.le_refl _) hc
          simp only [ab_loc, ab_cat, ab_kil, ab_al, ab_ln, ab_lnp, ab_rf, sh_0, sh_1, sh_2, sh_3, sh_4, sh_5, sh_6, sh_7, sh_8, sh_9, sh_10, sh_11, sh_12, sh_13, sh_14, sh_20, sh_21, sh_22, sh_23, sh_24, sh_25, sh_30, sh_31, sh_32, sh_40, sh_41, sh_42, sh_43, sh_44, sh_45, sh_46, sh_47, sh_48, sh_49, sh_50, sh_51, sh_52, sh_53, sh_54, sh_55, sh_56, sh_57, sh_58, sh_59, sh_60, ct_0, ct_1, ct_2, ct_3, ct_4, ct_5, ct_6, ct_7, ct_8, ct_9, ct_10, ct_11, ct_12, ct_13, ct_14, ct_20, ct_21, ct_22, ct_23, ct_24, ct_25, ct_30, ct_31, ct_32, ct_40, ct_41, ct_42, ct_43, ct_44, ct_45, ct_46, ct_47, ct_48, ct_49, ct_50, ct_51, ct_52, ct_53, ct_54, ct_55, ct_56, ct_57, ct_58, ct_59, ct_60, ki_m1, ki_0, ki_1, ki_2, ki_3, ki_4, ki_5, kb_m2, kb_m3, kb_m4, kb_m8, kb_m9, kb_10, kb_100, kb_16, kb_36, kb_6, kb_63, kb_8, kb_9, kb_99, ks_216, ks_2520, ks_256, ks_800, kl_0, kl_1, ↓reduceIte, reduceCtorEq, Nat.reduceAdd, Nat.reduceLT, Nat.reduceLeDiff, Nat.reduceEqDiff, List.map_cons, List.map_nil, List.sum_cons, List.sum_nil, List.cons_append, List.nil_append, Option.toList_some, Option.toList_none, true_and, and_true, true_or, or_true, not_true_eq_false, not_false_eq_true, Nat.lt_add_one, Nat.zero_le, eq_self, or_false, false_or, implies_true, forall_const, false_implies, forall_false, true_implies, and_self, Nat.zero_lt_one, Nat.add_zero, Nat.zero_add, Int32.reduceLT, Int32.reduceLE, Int32.reduceAdd, Int32.reduceSub, Int32.reduceMul, e10, e01, ite_self, ab_mx, ab_mi, ab_mb, ab_ml2, rX8_lay_29, rX8_lay_31, rX8_lay_32, rX8_lay_35, rX8_lay_36, rX8_lay_37, rX8_lay_40, rX8_lay_41, rX8_lay_44, rX8_lay_45, rX8_lay_48, rX8_lay_49, rX8_lay_52, rX8_lay_54, rX8_lay_55, rX8_lay_56, rX8_lay_58, rX8_lay_59, rX8_lay_60, rX8_lay_62, rX8_lay_65, rX8_lay_66, rX8_lay_69, rX8_lay_71, rX8_lay_72, rX8_lay_73, rX8_lay_75, rX8_lay_76, rX8_lay_77, rX8_lay_78, rX8_lay_79, rX8_lay_81, rX8_lay_82, rX8_lay_83, rX8_lay_86, rX8_lay_88, rX8_lay_90, rX8_lay_91, rX8_lay_92, rX8_lay_95, rX8_lay_96, rX8_lay_97, rX8_lay_100, rX8_lay_103, rX8_lay_105, rX8_lay_106, rX8_lay_108, rX8_lay_109, rX8_lay_110, rX8_lay_111, rX8_lay_112, rX8_lay_115, rX8_lay_117, rX8_lay_119, rX8_lay_121, v1, v2, va, vb, em, c2, q0, q1, q2, hse, hhe]
          exact K
        · have q0 : (x3 = 0) = False := eq_false h0
          by_cases h1 : x3 = 1
          · have q1 : (x3 = 1) = True := eq_true h1
            have K := inner f s (2520 * h.toInt64 / s.toInt64) f0 fM hs hs9 B1.2.1 B1.2.2 nx f.toInt.toNat f c fn (Int.le_refl _) hc
            simp only [ab_loc, ab_cat, ab_kil, ab_al, ab_ln, ab_lnp, ab_rf, sh_0, sh_1, sh_2, sh_3, sh_4, sh_5, sh_6, sh_7, sh_8, sh_9, sh_10, sh_11, sh_12, sh_13, sh_14, sh_20, sh_21, sh_22, sh_23, sh_24, sh_25, sh_30, sh_31, sh_32, sh_40, sh_41, sh_42, sh_43, sh_44, sh_45, sh_46, sh_47, sh_48, sh_49, sh_50, sh_51, sh_52, sh_53, sh_54, sh_55, sh_56, sh_57, sh_58, sh_59, sh_60, ct_0, ct_1, ct_2, ct_3, ct_4, ct_5, ct_6, ct_7, ct_8, ct_9, ct_10, ct_11, ct_12, ct_13, ct_14, ct_20, ct_21, ct_22, ct_23, ct_24, ct_25, ct_30, ct_31, ct_32, ct_40, ct_41, ct_42, ct_43, ct_44, ct_45, ct_46, ct_47, ct_48, ct_49, ct_50, ct_51, ct_52, ct_53, ct_54, ct_55, ct_56, ct_57, ct_58, ct_59, ct_60, ki_m1, ki_0, ki_1, ki_2, ki_3, ki_4, ki_5, kb_m2, kb_m3, kb_m4, kb_m8, kb_m9, kb_10, kb_100, kb_16, kb_36, kb_6, kb_63, kb_8, kb_9, kb_99, ks_216, ks_2520, ks_256, ks_800, kl_0, kl_1, ↓reduceIte, reduceCtorEq, Nat.reduceAdd, Nat.reduceLT, Nat.reduceLeDiff, Nat.reduceEqDiff, List.map_cons, List.map_nil, List.sum_cons, List.sum_nil, List.cons_append, List.nil_append, Option.toList_some, Option.toList_none, true_and, and_true, true_or, or_true, not_true_eq_false, not_false_eq_true, Nat.lt_add_one, Nat.zero_le, eq_self, or_false, false_or, implies_true, forall_const, false_implies, forall_false, true_implies, and_self, Nat.zero_lt_one, Nat.add_zero, Nat.zero_add, Int32.reduceLT, Int32.reduceLE, Int32.reduceAdd, Int32.reduceSub, Int32.reduceMul, e10, e01, ite_self, ab_mx, ab_mi, ab_mb, ab_ml2, rX8_lay_29, rX8_lay_31, rX8_lay_32, rX8_lay_35, rX8_lay_36, rX8_lay_37, rX8_lay_40, rX8_lay_41, rX8_lay_44, rX8_lay_45, rX8_lay_48, rX8_lay_49, rX8_lay_52, rX8_lay_54, rX8_lay_55, rX8_lay_56, rX8_lay_58, rX8_lay_59, rX8_lay_60, rX8_lay_62, rX8_lay_65, rX8_lay_66, rX8_lay_69, rX8_lay_71, rX8_lay_72, rX8_lay_73, rX8_lay_75, rX8_lay_76, rX8_lay_77, rX8_lay_78, rX8_lay_79, rX8_lay_81, rX8_lay_82, rX8_lay_83, rX8_lay_86, rX8_lay_88, rX8_lay_90, rX8_lay_91, rX8_lay_92, rX8_lay_95, rX8_lay_96, rX8_lay_97, rX8_lay_100, rX8_lay_103, rX8_lay_105, rX8_lay_106, rX8_lay_108, rX8_lay_109, rX8_lay_110, rX8_lay_111, rX8_lay_112, rX8_lay_115, rX8_lay_117, rX8_lay_119, rX8_lay_121, v1, v2, va, vb, em, c2, q0, q1, hse, hhe, B1.1]
            exact K
          · have q1 : (x3 = 1) = False := eq_false h1
            by_cases h2 : x3 = 2
            · have q2 : (x3 = 2) = True := eq_true h2
              have K := inner f s (2 * (2520 * h.toInt64) / (s + 1).toInt64) f0 fM hs hs9 B2.2.1 B2.2.2 nx f.toInt.toNat f c fn (Int.le_refl _) hc
              simp only [ab_loc, ab_cat, ab_kil, ab_al, ab_ln, ab_lnp, ab_rf, sh_0, sh_1, sh_2, sh_3, sh_4, sh_5, sh_6, sh_7, sh_8, sh_9, sh_10, sh_11, sh_12, sh_13, sh_14, sh_20, sh_21, sh_22, sh_23, sh_24, sh_25, sh_30, sh_31, sh_32, sh_40, sh_41, sh_42, sh_43, sh_44, sh_45, sh_46, sh_47, sh_48, sh_49, sh_50, sh_51, sh_52, sh_53, sh_54, sh_55, sh_56, sh_57, sh_58, sh_59, sh_60, ct_0, ct_1, ct_2, ct_3, ct_4, ct_5, ct_6, ct_7, ct_8, ct_9, ct_10, ct_11, ct_12, ct_13, ct_14, ct_20, ct_21, ct_22, ct_23, ct_24, ct_25, ct_30, ct_31, ct_32, ct_40, ct_41, ct_42, ct_43, ct_44, ct_45, ct_46, ct_47, ct_48, ct_49, ct_50, ct_51, ct_52, ct_53, ct_54, ct_55, ct_56, ct_57, ct_58, ct_59, ct_60, ki_m1, ki_0, ki_1, ki_2, ki_3, ki_4, ki_5, kb_m2, kb_m3, kb_m4, kb_m8, kb_m9, kb_10, kb_100, kb_16, kb_36, kb_6, kb_63, kb_8, kb_9, kb_99, ks_216, ks_2520, ks_256, ks_800, kl_0, kl_1, ↓reduceIte, reduceCtorEq, Nat.reduceAdd, Nat.reduceLT, Nat.reduceLeDiff, Nat.reduceEqDiff, List.map_cons, List.map_nil, List.sum_cons, List.sum_nil, List.cons_append, List.nil_append, Option.toList_some, Option.toList_none, true_and, and_true, true_or, or_true, not_true_eq_false, not_false_eq_true, Nat.lt_add_one, Nat.zero_le, eq_self, or_false, false_or, implies_true, forall_const, false_implies, forall_false, true_implies, and_self, Nat.zero_lt_one, Nat.add_zero, Nat.zero_add, Int32.reduceLT, Int32.reduceLE, Int32.reduceAdd, Int32.reduceSub, Int32.reduceMul, e10, e01, ite_self, ab_mx, ab_mi, ab_mb, ab_ml2, rX8_lay_29, rX8_lay_31, rX8_lay_32, rX8_lay_35, rX8_lay_36, rX8_lay_37, rX8_lay_40, rX8_lay_41, rX8_lay_44, rX8_lay_45, rX8_lay_48, rX8_lay_49, rX8_lay_52, rX8_lay_54, rX8_lay_55, rX8_lay_56, rX8_lay_58, rX8_lay_59, rX8_lay_60, rX8_lay_62, rX8_lay_65, rX8_lay_66, rX8_lay_69, rX8_lay_71, rX8_lay_72, rX8_lay_73, rX8_lay_75, rX8_lay_76, rX8_lay_77, rX8_lay_78, rX8_lay_79, rX8_lay_81, rX8_lay_82, rX8_lay_83, rX8_lay_86, rX8_lay_88, rX8_lay_90, rX8_lay_91, rX8_lay_92, rX8_lay_95, rX8_lay_96, rX8_lay_97, rX8_lay_100, rX8_lay_103, rX8_lay_105, rX8_lay_106, rX8_lay_108, rX8_lay_109, rX8_lay_110, rX8_lay_111, rX8_lay_112, rX8_lay_115, rX8_lay_117, rX8_lay_119, rX8_lay_121, v1, v2, va, vb, em, c2, q0, q1, q2, hse, hhe, B2.1]
              exact K
            · have q2 : (x3 = 2) = False := eq_false h2
              have K := inner f s (2520 * h.toInt64) f0 fM hs hs9 B0.1 B0.2 nx f.toInt.toNat f c fn (Int.le_refl _) hc
              simp only [ab_loc, ab_cat, ab_kil, ab_al, ab_ln, ab_lnp, ab_rf, sh_0, sh_1, sh_2, sh_3, sh_4, sh_5, sh_6, sh_7, sh_8, sh_9, sh_10, sh_11, sh_12, sh_13, sh_14, sh_20, sh_21, sh_22, sh_23, sh_24, sh_25, sh_30, sh_31, sh_32, sh_40, sh_41, sh_42, sh_43, sh_44, sh_45, sh_46, sh_47, sh_48, sh_49, sh_50, sh_51, sh_52, sh_53, sh_54, sh_55, sh_56, sh_57, sh_58, sh_59, sh_60, ct_0, ct_1, ct_2, ct_3, ct_4, ct_5, ct_6, ct_7, ct_8, ct_9, ct_10, ct_11, ct_12, ct_13, ct_14, ct_20, ct_21, ct_22, ct_23, ct_24, ct_25, ct_30, ct_31, ct_32, ct_40, ct_41, ct_42, ct_43, ct_44, ct_45, ct_46, ct_47, ct_48, ct_49, ct_50, ct_51, ct_52, ct_53, ct_54, ct_55, ct_56, ct_57, ct_58, ct_59, ct_60, ki_m1, ki_0, ki_1, ki_2, ki_3, ki_4, ki_5, kb_m2, kb_m3, kb_m4, kb_m8, kb_m9, kb_10, kb_100, kb_16, kb_36, kb_6, kb_63, kb_8, kb_9, kb_99, ks_216, ks_2520, ks_256, ks_800, kl_0, kl_1, ↓reduceIte, reduceCtorEq, Nat.reduceAdd, Nat.reduceLT, Nat.reduceLeDiff, Nat.reduceEqDiff, List.map_cons, List.map_nil, List.sum_cons, List.sum_nil, List.cons_append, List.nil_append, Option.toList_some, Option.toList_none, true_and, and_true, true_or, or_true, not_true_eq_false, not_false_eq_true, Nat.lt_add_one, Nat.zero_le, eq_self, or_false, false_or, implies_true, forall_const, false_implies, forall_false, true_implies, and_self, Nat.zero_lt_one, Nat.add_zero, Nat.zero_add, Int32.reduceLT, Int32.reduceLE, Int32.reduceAdd, Int32.reduceSub, Int32.reduceMul, e10, e01, ite_self, ab_mx, ab_mi, ab_mb, ab_ml2, rX8_lay_29, rX8_lay_31, rX8_lay_32, rX8_lay_35, rX8_lay_36, rX8_lay_37, rX8_lay_40, rX8_lay_41, rX8_lay_44, rX8_lay_45, rX8_lay_48, rX8_lay_49, rX8_lay_52, rX8_lay_54, rX8_lay_55, rX8_lay_56, rX8_lay_58, rX8_lay_59, rX8_lay_60, rX8_lay_62, rX8_lay_65, rX8_lay_66, rX8_lay_69, rX8_lay_71, rX8_lay_72, rX8_lay_73, rX8_lay_75, rX8_lay_76, rX8_lay_77, rX8_lay_78, rX8_lay_79, rX8_lay_81, rX8_lay_82, rX8_lay_83, rX8_lay_86, rX8_lay_88, rX8_lay_90, rX8_lay_91, rX8_lay_92, rX8_lay_95, rX8_lay_96, rX8_lay_97, rX8_lay_100, rX8_lay_103, rX8_lay_105, rX8_lay_106, rX8_lay_108, rX8_lay_109, rX8_lay_110, rX8_lay_111, rX8_lay_112, rX8_lay_115, rX8_lay_117, rX8_lay_119, rX8_lay_121, v1, v2, va, vb, em, c2, q0, q1, q2, hse, hhe]
              exact K
  have K := outer 8 0 _ none none none none rfl (by decide) (by rw [t0i]; exact hm.1) hi0
  simp only [ab_loc, ab_cat, ab_kil, ab_al, ab_ln, ab_lnp, ab_rf, sh_0, sh_1, sh_2, sh_3, sh_4, sh_5, sh_6, sh_7, sh_8, sh_9, sh_10, sh_11, sh_12, sh_13, sh_14, sh_20, sh_21, sh_22, sh_23, sh_24, sh_25, sh_30, sh_31, sh_32, sh_40, sh_41, sh_42, sh_43, sh_44, sh_45, sh_46, sh_47, sh_48, sh_49, sh_50, sh_51, sh_52, sh_53, sh_54, sh_55, sh_56, sh_57, sh_58, sh_59, sh_60, ct_0, ct_1, ct_2, ct_3, ct_4, ct_5, ct_6, ct_7, ct_8, ct_9, ct_10, ct_11, ct_12, ct_13, ct_14, ct_20, ct_21, ct_22, ct_23, ct_24, ct_25, ct_30, ct_31, ct_32, ct_40, ct_41, ct_42, ct_43, ct_44, ct_45, ct_46, ct_47, ct_48, ct_49, ct_50, ct_51, ct_52, ct_53, ct_54, ct_55, ct_56, ct_57, ct_58, ct_59, ct_60, ki_m1, ki_0, ki_1, ki_2, ki_3, ki_4, ki_5, kb_m2, kb_m3, kb_m4, kb_m8, kb_m9, kb_10, kb_100, kb_16, kb_36, kb_6, kb_63, kb_8, kb_9, kb_99, ks_216, ks_2520, ks_256, ks_800, kl_0, kl_1, ↓reduceIte, reduceCtorEq, Nat.reduceAdd, Nat.reduceLT, Nat.reduceLeDiff, Nat.reduceEqDiff, List.map_cons, List.map_nil, List.sum_cons, List.sum_nil, List.cons_append, List.nil_append, Option.toList_some, Option.toList_none, true_and, and_true, true_or, or_true, not_true_eq_false, not_false_eq_true, Nat.lt_add_one, Nat.zero_le, eq_self, or_false, false_or, implies_true, forall_const, false_implies, forall_false, true_implies, and_self, Nat.zero_lt_one, Nat.add_zero, Nat.zero_add, Int32.reduceLT, Int32.reduceLE, Int32.reduceAdd, Int32.reduceSub, Int32.reduceMul, e10, e01, ite_self, ab_mx, ab_mi, ab_mb, ab_ml2, uX8_lay, rX8_lay_0, rX8_lay_1, rX8_lay_4, rX8_lay_5, rX8_lay_6, rX8_lay_9, rX8_lay_10, rX8_lay_11, rX8_lay_12, rX8_lay_13, rX8_lay_16, rX8_lay_17, rX8_lay_18, rX8_lay_19, rX8_lay_20, rX8_lay_23, rX8_lay_24, rX8_lay_25, rX8_lay_26, rX8_lay_27, v1, v2, hM0]
  exact K
set_option maxRecDepth 100000 in
theorem gX8_lay {σ0 σ : ab_S} {P : ab_P} (hJ : ck_J 0 σ0 σ) {x1 : Int32} (l1 : 0 ≤ x1.toInt) (m1 : x1.toInt ≤ 1) {x2 : Int32} (l2 : 0 ≤ x2.toInt) (m2 : x2.toInt ≤ 3) {x3 : Int32} (l3 : 0 ≤ x3.toInt) (m3 : x3.toInt ≤ 2) (hP : ∀ σ', ck_J 0 σ0 σ' → P none σ') : ab_sp mX8_lay cX8_lay [.inr (some (40, 0)), .inl (.inl x1), .inl (.inl x2), .inl (.inl x3)] σ P := by
  exact sX8_lay hJ l1 m1 l2 m2 (fun σ' h => hP _ h.1)
theorem zX8_lay {σ0 : ab_S} : ∀ c ∈ qX8_lay, ck_co (ck_J 0 σ0) c (ab_sp mX8_lay cX8_lay) := ck_one (fun as σ P hJ hd hP => by
  obtain ⟨_, u0, rfl, ⟨i0, rfl, _, b0⟩, hd0⟩ := ck_dc hd
  obtain rfl := Nat.le_zero.mp b0
  obtain ⟨_, u1, rfl, ⟨x1, rfl, l1, m1, _⟩, hd1⟩ := ck_dc hd0
  obtain ⟨_, u2, rfl, ⟨x2, rfl, l2, m2, _⟩, hd2⟩ := ck_dc hd1
  obtain ⟨_, u3, rfl, ⟨x3, rfl, l3, m3, _⟩, hd3⟩ := ck_dc hd2
  have e := ck_dn hd3
  subst e
  exact gX8_lay hJ l1 m1 l2 m2 l3 m3 (ck_oV hP))
