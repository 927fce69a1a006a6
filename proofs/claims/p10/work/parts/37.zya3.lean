/-! coins: the class, sums and groups -/
theorem nar0 : vp_nar .boolean (0 : Int32) = 0 := by decide
theorem nar1 : vp_nar .boolean (1 : Int32) = 1 := by decide
theorem i32_andN {x y : Int32} {a b : Nat} (hx : x.toInt = a) (hy : y.toInt = b) : (x &&& y).toInt = (a &&& b : Nat) := by
  have mx := i32_nn (y := x) (by omega)
  have my := i32_nn (y := y) (by omega)
  have hm : (x &&& y).toBitVec.msb = false := by rw [Int32.toBitVec_and, BitVec.msb_and, my, Bool.and_false]
  have ex := i32_nat mx
  have ey := i32_nat my
  rw [i32_nat hm, Int32.toBitVec_and, BitVec.toNat_and, show x.toBitVec.toNat = a by omega, show y.toBitVec.toNat = b by omega]
theorem shl_N {k : Int32} {K : Nat} (hk : k.toInt = K) (K8 : K ≤ 8) : ((1 : Int32) <<< (k &&& 31)).toInt = ((2 ^ K : Nat) : Int) := by
  have e : k = Int32.ofInt K := by rw [← hk, Int32.ofInt_toInt]
  rw [e]
  exact i32_shl1 ⟨K, by omega⟩
theorem p2_8 {K : Nat} (h : K ≤ 8) : 1 ≤ 2 ^ K ∧ 2 ^ K ≤ 256 := ⟨Nat.two_pow_pos K, Nat.le_trans (Nat.pow_le_pow_right (show 0 < 2 by decide) h) (by decide)⟩
def fsS (k _ _ : Nat) : Bool := Nat.beq k 8 || Nat.beq k 9
def scH (σ : ab_S) (D : Nat → Int) (n N : Nat) : Prop := ∀ s, s < N → (σ.1 8 0 s).toInt = smF D n s ∧ σ.1 9 0 s = bi (gdF D n s)
set_option maxRecDepth 100000 in
set_option maxHeartbeats 1000000 in
theorem sX2_findSumsF {σ : ab_S} {P : ab_P} {n : Nat} {x1 : Int32} {D : Nat → Int} (hr : rg_R σ) (n8 : n ≤ 8) (hx : x1.toInt = n) (hD : ∀ k, k < n → (σ.1 7 0 k).toInt = D k) (bD : ∀ k, k < n → -99 ≤ D k ∧ D k ≤ 99) (hP : ∀ σ', fr fsS σ σ' → scH σ' D n (2 ^ n) → P none σ') : ab_sp mX2_findSums cX2_findSums [.inr (some (6, 0)), .inl (.inl x1)] σ P := by
  have v0 : vp_in (0 : Int32) 256 := vp_of (by decide) (by decide)
  have n0 : (0 : Int32).toNatClampNeg = 0 := rfl
  have inner : ∀ (T : Nat) (top bt' : Int32), T < n → top.toInt = T → bt'.toInt = ((2 ^ T : Nat) : Int) → (∀ (d : ab_S) (l4 : Option ab_V), fr fsS σ d → scH d D n (2 ^ (T + 1)) → ab_wp mX2_findSums cX2_findSums none P 99 [some (.inr (some (6, 0))), some (.inl (.inl x1)), some (.inl (.inl top)), some (.inl (.inl bt')), l4] [] d) → ∀ (r R : Nat) (re : Int32) (d : ab_S), R + r = 2 ^ T → re.toInt = R → fr fsS σ d → scH d D n (2 ^ T + R) → ab_wp mX2_findSums cX2_findSums none P 28 [some (.inr (some (6, 0))), some (.inl (.inl x1)), some (.inl (.inl top)), some (.inl (.inl bt')), some (.inl (.inl re))] [] d := by
    intro T top bt' Tn hT hb nxt r
    have p7 : 2 ^ T ≤ 128 := Nat.le_trans (Nat.pow_le_pow_right (show 0 < 2 by decide) (show T ≤ 7 by omega)) (by decide)
    induction r with
    | zero =>
      intro R re d er hR fd hs
      have q : bt' ≤ re := Int32.le_iff_toInt_le.mpr (by omega)
      rw [show 2 ^ T + R = 2 ^ (T + 1) by rw [Nat.pow_succ]; omega] at hs
      have Z := nxt d (some (.inl (.inl re))) fd hs
      rw [rX2_findSums_28]
      simp only [ab_loc, ab_cat, ab_kil, ab_al, ab_ln, ab_lnp, ab_rf, sh_0, sh_1, sh_2, sh_3, sh_4, sh_5, sh_6, sh_7, sh_8, sh_9, sh_10, sh_11, sh_12, sh_13, sh_14, sh_20, sh_21, sh_22, sh_23, sh_24, sh_25, sh_30, sh_31, sh_32, sh_40, sh_41, sh_42, sh_43, sh_44, sh_45, sh_46, sh_47, sh_48, sh_49, sh_50, sh_51, sh_52, sh_53, sh_54, sh_55, sh_56, sh_57, sh_58, sh_59, sh_60, ct_0, ct_1, ct_2, ct_3, ct_4, ct_5, ct_6, ct_7, ct_8, ct_9, ct_10, ct_11, ct_12, ct_13, ct_14, ct_20, ct_21, ct_22, ct_23, ct_24, ct_25, ct_30, ct_31, ct_32, ct_40, ct_41, ct_42, ct_43, ct_44, ct_45, ct_46, ct_47, ct_48, ct_49, ct_50, ct_51, ct_52, ct_53, ct_54, ct_55, ct_56, ct_57, ct_58, ct_59, ct_60, ki_m1, ki_0, ki_1, ki_2, ki_3, ki_4, ki_5, kb_m2, kb_m3, kb_m4, kb_m8, kb_m9, kb_10, kb_100, kb_16, kb_36, kb_6, kb_63, kb_8, kb_9, kb_99, ks_216, ks_2520, ks_256, ks_800, kl_0, kl_1, ↓reduceIte, reduceCtorEq, Nat.reduceAdd, Nat.reduceLT, Nat.reduceLeDiff, Nat.reduceEqDiff, List.map_cons, List.map_nil, List.sum_cons, List.sum_nil, List.cons_append, List.nil_append, Option.toList_some, Option.toList_none, true_and, and_true, true_or, or_true, not_true_eq_false, not_false_eq_true, Nat.lt_add_one, Nat.zero_le, eq_self, or_false, false_or, implies_true, forall_const, false_implies, forall_false, true_implies, and_self, Nat.zero_lt_one, Nat.add_zero, Nat.zero_add, Int32.reduceLT, Int32.reduceLE, Int32.reduceAdd, Int32.reduceSub, Int32.reduceMul, e10, e01, ite_self, ab_mx, ab_mi, ab_mb, ab_ml2, rX2_findSums_30, rX2_findSums_31, q]
      exact Z
    | succ r ih =>
      intro R re d er hR fd hs
      have q : ¬ bt' ≤ re := fun w => by have w := le32 w; omega
      have eR : (re + 1).toInt = (R + 1 : Nat) := by rw [i32_p1 (by omega)]; omega
      have ei : (bt' + re).toInt = (2 ^ T + R : Nat) := by rw [i32_add (by omega) (by omega)]; omega
      have vi : vp_in (bt' + re) 256 := vp_of (by omega) (by omega)
      have ni : (bt' + re).toNatClampNeg = 2 ^ T + R := by show (bt' + re).toInt.toNat = _; omega
      have vr : vp_in re 256 := vp_of (by omega) (by omega)
      have nr : re.toNatClampNeg = R := by show re.toInt.toNat = _; omega
      have vt : vp_in top 8 := vp_of (by omega) (by omega)
      have nt : top.toNatClampNeg = T := by show top.toInt.toNat = _; omega
      have S := sm_t (D := D) (show R < 2 ^ T by omega) Tn
      have c := hs R (by omega)
      have d7 : (d.1 7 0 T).toInt = D T := by rw [(fd.2 7 0 T rfl).1]; exact hD T Tn
      have bT := bD T Tn
      have bs := sm_b (D := D) (s := R) (k := n) bD
      have es : (d.1 8 0 R + d.1 7 0 T).toInt = smF D n (2 ^ T + R) := by rw [i32_add (by rw [c.1, d7]; omega) (by rw [c.1, d7]; omega), c.1, d7, S.1]
      have mk : ∀ y : Int32, y = bi (gdF D n (2 ^ T + R)) → ab_wp mX2_findSums cX2_findSums none P 28 [some (.inr (some (6, 0))), some (.inl (.inl x1)), some (.inl (.inl top)), some (.inl (.inl bt')), some (.inl (.inl (re + 1)))] [] (ab_si (ab_si d 8 0 (2 ^ T + R) (d.1 8 0 R + d.1 7 0 T)) 9 0 (2 ^ T + R) y) := fun y hy => ih (R + 1) (re + 1) _ (by omega) eR ((fd.si 8 0 _ rfl (i32_lo _) (i32_hi _)).si 9 0 _ rfl (i32_lo _) (i32_hi _)) (fun s hs' => by
        rw [sn_ii (k := 9) (k' := 8) (by decide)]
        by_cases e : s = 2 ^ T + R
        · rw [e, sn_ie, sn_ie]; exact ⟨es, hy⟩
        · rw [sn_ij e, sn_ij e, sn_ii (by decide)]; exact hs s (by omega))
      have f8 : (ab_si d 8 0 (2 ^ T + R) (d.1 8 0 R + d.1 7 0 T)).1 8 0 (2 ^ T + R) = d.1 8 0 R + d.1 7 0 T := sn_ie
      have f9 : (ab_si d 8 0 (2 ^ T + R) (d.1 8 0 R + d.1 7 0 T)).1 9 0 R = bi (gdF D n R) := by rw [sn_ii (by decide)]; exact c.2
      rw [S.2] at mk
      rw [rX2_findSums_28]
      by_cases a : gdF D n R = true
      · rw [a] at f9 mk
        have z9 : ((1 : Int32) = 0) = False := by decide
        have f9 : (ab_si d 8 0 (2 ^ T + R) (d.1 8 0 R + d.1 7 0 T)).1 9 0 R = 1 := f9
        by_cases b : 0 ≤ smF D n (2 ^ T + R)
        · have q8 : ¬ d.1 8 0 R + d.1 7 0 T < 0 := fun w => by have w := lt32 w; rw [es, t0i] at w; omega
          rw [decide_eq_true b] at mk
          have Z := mk 1 rfl
          simp only [ab_loc, ab_cat, ab_kil, ab_al, ab_ln, ab_lnp, ab_rf, sh_0, sh_1, sh_2, sh_3, sh_4, sh_5, sh_6, sh_7, sh_8, sh_9, sh_10, sh_11, sh_12, sh_13, sh_14, sh_20, sh_21, sh_22, sh_23, sh_24, sh_25, sh_30, sh_31, sh_32, sh_40, sh_41, sh_42, sh_43, sh_44, sh_45, sh_46, sh_47, sh_48, sh_49, sh_50, sh_51, sh_52, sh_53, sh_54, sh_55, sh_56, sh_57, sh_58, sh_59, sh_60, ct_0, ct_1, ct_2, ct_3, ct_4, ct_5, ct_6, ct_7, ct_8, ct_9, ct_10, ct_11, ct_12, ct_13, ct_14, ct_20, ct_21, ct_22, ct_23, ct_24, ct_25, ct_30, ct_31, ct_32, ct_40, ct_41, ct_42, ct_43, ct_44, ct_45, ct_46, ct_47, ct_48, ct_49, ct_50, ct_51, ct_52, ct_53, ct_54, ct_55, ct_56, ct_57, ct_58, ct_59, ct_60, ki_m1, ki_0, ki_1, ki_2, ki_3, ki_4, ki_5, kb_m2, kb_m3, kb_m4, kb_m8, kb_m9, kb_10, kb_100, kb_16, kb_36, kb_6, kb_63, kb_8, kb_9, kb_99, ks_216, ks_2520, ks_256, ks_800, kl_0, kl_1, ↓reduceIte, reduceCtorEq, Nat.reduceAdd, Nat.reduceLT, Nat.reduceLeDiff, Nat.reduceEqDiff, List.map_cons, List.map_nil, List.sum_cons, List.sum_nil, List.cons_append, List.nil_append, Option.toList_some, Option.toList_none, true_and, and_true, true_or, or_true, not_true_eq_false, not_false_eq_true, Nat.lt_add_one, Nat.zero_le, eq_self, or_false, false_or, implies_true, forall_const, false_implies, forall_false, true_implies, and_self, Nat.zero_lt_one, Nat.add_zero, Nat.zero_add, Int32.reduceLT, Int32.reduceLE, Int32.reduceAdd, Int32.reduceSub, Int32.reduceMul, e10, e01, ite_self, ab_mx, ab_mi, ab_mb, ab_ml2, rX2_findSums_30, rX2_findSums_31, rX2_findSums_34, rX2_findSums_35, rX2_findSums_38, rX2_findSums_39, rX2_findSums_41, rX2_findSums_42, rX2_findSums_43, rX2_findSums_46, rX2_findSums_48, rX2_findSums_49, rX2_findSums_50, rX2_findSums_53, rX2_findSums_54, rX2_findSums_55, rX2_findSums_56, rX2_findSums_57, rX2_findSums_58, rX2_findSums_61, rX2_findSums_62, rX2_findSums_64, rX2_findSums_65, rX2_findSums_66, rX2_findSums_69, rX2_findSums_71, rX2_findSums_72, rX2_findSums_75, rX2_findSums_76, rX2_findSums_79, rX2_findSums_80, rX2_findSums_82, rX2_findSums_83, rX2_findSums_84, rX2_findSums_87, rX2_findSums_88, rX2_findSums_91, rX2_findSums_92, rX2_findSums_93, rX2_findSums_96, q, vi, ni, vr, nr, vt, nt, f9, f8, z9, q8, nar1]
          exact Z
        · have q8 : d.1 8 0 R + d.1 7 0 T < 0 := Int32.lt_iff_toInt_lt.mpr (by rw [es, t0i]; omega)
          rw [decide_eq_false b] at mk
          have Z := mk 0 rfl
          simp only [ab_loc, ab_cat, ab_kil, ab_al, ab_ln, ab_lnp, ab_rf, sh_0, sh_1, sh_2, sh_3, sh_4, sh_5, sh_6, sh_7, sh_8, sh_9, sh_10, sh_11, sh_12, sh_13, sh_14, sh_20, sh_21, sh_22, sh_23, sh_24, sh_25, sh_30, sh_31, sh_32, sh_40, sh_41, sh_42, sh_43, sh_44, sh_45, sh_46, sh_47, sh_48, sh_49, sh_50, sh_51, sh_52, sh_53, sh_54, sh_55, sh_56, sh_57, sh_58, sh_59, sh_60, ct_0, ct_1, ct_2, ct_3, ct_4, ct_5, ct_6, ct_7, ct_8, ct_9, ct_10, ct_11, ct_12, ct_13, ct_14, ct_20, ct_21, ct_22, ct_23, ct_24, ct_25, ct_30, ct_31, ct_32, ct_40, ct_41, ct_42, ct_43, ct_44, ct_45, ct_46, ct_47, ct_48, ct_49, ct_50, ct_51, ct_52, ct_53, ct_54, ct_55, ct_56, ct_57, ct_58, ct_59, ct_60, ki_m1, ki_0, ki_1, ki_2, ki_3, ki_4, ki_5, kb_m2, kb_m3, kb_m4, kb_m8, kb_m9, kb_10, kb_100, kb_16, kb_36, kb_6, kb_63, kb_8, kb_9, kb_99, ks_216, ks_2520, ks_256, ks_800, kl_0, kl_1, ↓reduceIte, reduceCtorEq, Nat.reduceAdd, Nat.reduceLT, Nat.reduceLeDiff, Nat.reduceEqDiff, List.map_cons, List.map_nil, List.sum_cons, List.sum_nil, List.cons_append, List.nil_append, Option.toList_some, Option.toList_none, true_and, and_true, true_or, or_true, not_true_eq_false, not_false_eq_true, Nat.lt_add_one, Nat.zero_le, eq_self, or_false, false_or, implies_true, forall_const, false_implies, forall_false, true_implies, and_self, Nat.zero_lt_one, Nat.add_zero, Nat.zero_add, Int32.reduceLT, Int32.reduceLE, Int32.reduceAdd, Int32.reduceSub, Int32.reduceMul, e10, e01, ite_self, ab_mx, ab_mi, ab_mb, ab_ml2, rX2_findSums_30, rX2_findSums_31, rX2_findSums_34, rX2_findSums_35, rX2_findSums_38, rX2_findSums_39, rX2_findSums_41, rX2_findSums_42, rX2_findSums_43, rX2_findSums_46, rX2_findSums_48, rX2_findSums_49, rX2_findSums_50, rX2_findSums_53, rX2_findSums_54, rX2_findSums_55, rX2_findSums_56, rX2_findSums_57, rX2_findSums_58, rX2_findSums_61, rX2_findSums_62, rX2_findSums_64, rX2_findSums_65, rX2_findSums_66, rX2_findSums_69, rX2_findSums_71, rX2_findSums_72, rX2_findSums_75, rX2_findSums_76, rX2_findSums_79, rX2_findSums_80, rX2_findSums_82, rX2_findSums_83, rX2_findSums_84, rX2_findSums_87, rX2_findSums_88, rX2_findSums_91, rX2_findSums_92, rX2_findSums_93, rX2_findSums_96, q, vi, ni, vr, nr, vt, nt, f9, f8, z9, q8, nar0]
          exact Z
      · have a : gdF D n R = false := by
          cases e : gdF D n R with
          | false => rfl
          | true => exact absurd e a
        rw [a] at f9 mk
        have f9 : (ab_si d 8 0 (2 ^ T + R) (d.1 8 0 R + d.1 7 0 T)).1 9 0 R = 0 := f9
        have Z := mk 0 rfl
        simp only [ab_loc, ab_cat, ab_kil, ab_al, ab_ln, ab_lnp, ab_rf, sh_0, sh_1, sh_2, sh_3, sh_4, sh_5, sh_6, sh_7, sh_8, sh_9, sh_10, sh_11, sh_12, sh_13, sh_14, sh_20, sh_21, sh_22, sh_23, sh_24, sh_25, sh_30, sh_31, sh_32, sh_40, sh_41, sh_42, sh_43, sh_44, sh_45, sh_46, sh_47, sh_48, sh_49, sh_50, sh_51, sh_52, sh_53, sh_54, sh_55, sh_56, sh_57, sh_58, sh_59, sh_60, ct_0, ct_1, ct_2, ct_3, ct_4, ct_5, ct_6, ct_7, ct_8, ct_9, ct_10, ct_11, ct_12, ct_13, ct_14, ct_20, ct_21, ct_22, ct_23, ct_24, ct_25, ct_30, ct_31, ct_32, ct_40, ct_41, ct_42, ct_43, ct_44, ct_45, ct_46, ct_47, ct_48, ct_49, ct_50, ct_51, ct_52, ct_53, ct_54, ct_55, ct_56, ct_57, ct_58, ct_59, ct_60, ki_m1, ki_0, ki_1, ki_2, ki_3, ki_4, ki_5, kb_m2, kb_m3, kb_m4, kb_m8, kb_m9, kb_10, kb_100, kb_16, kb_36, kb_6, kb_63, kb_8, kb_9, kb_99, ks_216, ks_2520, ks_256, ks_800, kl_0, kl_1, ↓reduceIte, reduceCtorEq, Nat.reduceAdd, Nat.reduceLT, Nat.reduceLeDiff, Nat.reduceEqDiff, List.map_cons, List.map_nil, List.sum_cons, List.sum_nil, List.cons_append, List.nil_append, Option.toList_some, Option.toList_none, true_and, and_true, true_or, or_true, not_true_eq_false, not_false_eq_true, Nat.lt_add_one, Nat.zero_le, eq_self, or_false, false_or, implies_true, forall_const, false_implies, forall_false, true_implies, and_self, Nat.zero_lt_one, Nat.add_zero, Nat.zero_add, Int32.reduceLT, Int32.reduceLE, Int32.reduceAdd, Int32.reduceSub, Int32.reduceMul, e10, e01, ite_self, ab_mx, ab_mi, ab_mb, ab_ml2, rX2_findSums_30, rX2_findSums_31, rX2_findSums_34, rX2_findSums_35, rX2_findSums_38, rX2_findSums_39, rX2_findSums_41, rX2_findSums_42, rX2_findSums_43, rX2_findSums_46, rX2_findSums_48, rX2_findSums_49, rX2_findSums_50, rX2_findSums_53, rX2_findSums_54, rX2_findSums_55, rX2_findSums_56, rX2_findSums_57, rX2_findSums_58, rX2_findSums_61, rX2_findSums_62, rX2_findSums_64, rX2_findSums_65, rX2_findSums_66, rX2_findSums_69, rX2_findSums_71, rX2_findSums_72, rX2_findSums_75, rX2_findSums_76, rX2_findSums_79, rX2_findSums_80, rX2_findSums_82, rX2_findSums_83, rX2_findSums_84, rX2_findSums_87, rX2_findSums_88, rX2_findSums_91, rX2_findSums_92, rX2_findSums_93, rX2_findSums_96, q, vi, ni, vr, nr, vt, nt, f9, nar0]
        exact Z
  have outer : ∀ (r T : Nat) (top : Int32) (d : ab_S) (l3 l4 : Option ab_V), T + r = n → top.toInt = T → fr fsS σ d → scH d D n (2 ^ T) → ab_wp mX2_findSums cX2_findSums none P 16 [some (.inr (some (6, 0))), some (.inl (.inl x1)), some (.inl (.inl top)), l3, l4] [] d := by
    intro r
    induction r with
    | zero =>
      intro T top d l3 l4 er hT fd hs
      have q : x1 ≤ top := Int32.le_iff_toInt_le.mpr (by omega)
      rw [show T = n by omega] at hs
      have Z := hP d fd hs
      rw [rX2_findSums_16]
      simp only [ab_loc, ab_cat, ab_kil, ab_al, ab_ln, ab_lnp, ab_rf, sh_0, sh_1, sh_2, sh_3, sh_4, sh_5, sh_6, sh_7, sh_8, sh_9, sh_10, sh_11, sh_12, sh_13, sh_14, sh_20, sh_21, sh_22, sh_23, sh_24, sh_25, sh_30, sh_31, sh_32, sh_40, sh_41, sh_42, sh_43, sh_44, sh_45, sh_46, sh_47, sh_48, sh_49, sh_50, sh_51, sh_52, sh_53, sh_54, sh_55, sh_56, sh_57, sh_58, sh_59, sh_60, ct_0, ct_1, ct_2, ct_3, ct_4, ct_5, ct_6, ct_7, ct_8, ct_9, ct_10, ct_11, ct_12, ct_13, ct_14, ct_20, ct_21, ct_22, ct_23, ct_24, ct_25, ct_30, ct_31, ct_32, ct_40, ct_41, ct_42, ct_43, ct_44, ct_45, ct_46, ct_47, ct_48, ct_49, ct_50, ct_51, ct_52, ct_53, ct_54, ct_55, ct_56, ct_57, ct_58, ct_59, ct_60, ki_m1, ki_0, ki_1, ki_2, ki_3, ki_4, ki_5, kb_m2, kb_m3, kb_m4, kb_m8, kb_m9, kb_10, kb_100, kb_16, kb_36, kb_6, kb_63, kb_8, kb_9, kb_99, ks_216, ks_2520, ks_256, ks_800, kl_0, kl_1, ↓reduceIte, reduceCtorEq, Nat.reduceAdd, Nat.reduceLT, Nat.reduceLeDiff, Nat.reduceEqDiff, List.map_cons, List.map_nil, List.sum_cons, List.sum_nil, List.cons_append, List.nil_append, Option.toList_some, Option.toList_none, true_and, and_true, true_or, or_true, not_true_eq_false, not_false_eq_true, Nat.lt_add_one, Nat.zero_le, eq_self, or_false, false_or, implies_true, forall_const, false_implies, forall_false, true_implies, and_self, Nat.zero_lt_one, Nat.add_zero, Nat.zero_add, Int32.reduceLT, Int32.reduceLE, Int32.reduceAdd, Int32.reduceSub, Int32.reduceMul, e10, e01, ite_self, ab_mx, ab_mi, ab_mb, ab_ml2, rX2_findSums_17, rX2_findSums_18, rX2_findSums_105, q]
      exact Z
    | succ r ih =>
      intro T top d l3 l4 er hT fd hs
      have q : ¬ x1 ≤ top := fun w => by have w := le32 w; omega
      have eT : (top + 1).toInt = (T + 1 : Nat) := by rw [i32_p1 (by omega)]; omega
      have eb := shl_N hT (by omega)
      have Z := inner T top ((1 : Int32) <<< (top &&& 31)) (by omega) hT eb (fun e l4 fe he => by
        have Y := ih (T + 1) (top + 1) e (some (.inl (.inl ((1 : Int32) <<< (top &&& 31))))) l4 (by omega) eT fe he
        simp only [ab_loc, ab_cat, ab_kil, ab_al, ab_ln, ab_lnp, ab_rf, sh_0, sh_1, sh_2, sh_3, sh_4, sh_5, sh_6, sh_7, sh_8, sh_9, sh_10, sh_11, sh_12, sh_13, sh_14, sh_20, sh_21, sh_22, sh_23, sh_24, sh_25, sh_30, sh_31, sh_32, sh_40, sh_41, sh_42, sh_43, sh_44, sh_45, sh_46, sh_47, sh_48, sh_49, sh_50, sh_51, sh_52, sh_53, sh_54, sh_55, sh_56, sh_57, sh_58, sh_59, sh_60, ct_0, ct_1, ct_2, ct_3, ct_4, ct_5, ct_6, ct_7, ct_8, ct_9, ct_10, ct_11, ct_12, ct_13, ct_14, ct_20, ct_21, ct_22, ct_23, ct_24, ct_25, ct_30, ct_31, ct_32, ct_40, ct_41, ct_42, ct_43, ct_44, ct_45, ct_46, ct_47, ct_48, ct_49, ct_50, ct_51, ct_52, ct_53, ct_54, ct_55, ct_56, ct_57, ct_58, ct_59, ct_60, ki_m1, ki_0, ki_1, ki_2, ki_3, ki_4, ki_5, kb_m2, kb_m3, kb_m4, kb_m8, kb_m9, kb_10, kb_100, kb_16, kb_36, kb_6, kb_63, kb_8, kb_9, kb_99, ks_216, ks_2520, ks_256, ks_800, kl_0, kl_1, ↓reduceIte, reduceCtorEq, Nat.reduceAdd, Nat.reduceLT, Nat.reduceLeDiff, Nat.reduceEqDiff, List.map_cons, List.map_nil, List.sum_cons, List.sum_nil, List.cons_append, List.nil_append, Option.toList_some, Option.toList_none, true_and, and_true, true_or, or_true, not_true_eq_false, not_false_eq_true, Nat.lt_add_one, Nat.zero_le, eq_self, or_false, false_or, implies_true, forall_const, false_implies, forall_false, true_implies, and_self, Nat.zero_lt_one, Nat.add_zero, Nat.zero_add, Int32.reduceLT, Int32.reduceLE, Int32.reduceAdd, Int32.reduceSub, Int32.reduceMul, e10, e01, ite_self, ab_mx, ab_mi, ab_mb, ab_ml2, rX2_findSums_99, rX2_findSums_102]
        exact Y) (2 ^ T) 0 0 d (by omega) rfl fd (by rw [Nat.add_zero]; exact hs)
      rw [rX2_findSums_16]
      simp only [ab_loc, ab_cat, ab_kil, ab_al, ab_ln, ab_lnp, ab_rf, sh_0, sh_1, sh_2, sh_3, sh_4, sh_5, sh_6, sh_7, sh_8, sh_9, sh_10, sh_11, sh_12, sh_13, sh_14, sh_20, sh_21, sh_22, sh_23, sh_24, sh_25, sh_30, sh_31, sh_32, sh_40, sh_41, sh_42, sh_43, sh_44, sh_45, sh_46, sh_47, sh_48, sh_49, sh_50, sh_51, sh_52, sh_53, sh_54, sh_55, sh_56, sh_57, sh_58, sh_59, sh_60, ct_0, ct_1, ct_2, ct_3, ct_4, ct_5, ct_6, ct_7, ct_8, ct_9, ct_10, ct_11, ct_12, ct_13, ct_14, ct_20, ct_21, ct_22, ct_23, ct_24, ct_25, ct_30, ct_31, ct_32, ct_40, ct_41, ct_42, ct_43, ct_44, ct_45, ct_46, ct_47, ct_48, ct_49, ct_50, ct_51, ct_52, ct_53, ct_54, ct_55, ct_56, ct_57, ct_58, ct_59, ct_60, ki_m1, ki_0, ki_1, ki_2, ki_3, ki_4, ki_5, kb_m2, kb_m3, kb_m4, kb_m8, kb_m9, kb_10, kb_100, kb_16, kb_36, kb_6, kb_63, kb_8, kb_9, kb_99, ks_216, ks_2520, ks_256, ks_800, kl_0, kl_1, ↓reduceIte, reduceCtorEq, Nat.reduceAdd, Nat.reduceLT, Nat.reduceLeDiff, Nat.reduceEqDiff, List.map_cons, List.map_nil, List.sum_cons, List.sum_nil, List.cons_append, List.nil_append, Option.toList_some, Option.toList_none, true_and, and_true, true_or, or_true, not_true_eq_false, not_false_eq_true, Nat.lt_add_one, Nat.zero_le, eq_self, or_false, false_or, implies_true, forall_const, false_implies, forall_false, true_implies, and_self, Nat.zero_lt_one, Nat.add_zero, Nat.zero_add, Int32.reduceLT, Int32.reduceLE, Int32.reduceAdd, Int32.reduceSub, Int32.reduceMul, e10, e01, ite_self, ab_mx, ab_mi, ab_mb, ab_ml2, rX2_findSums_17, rX2_findSums_18, rX2_findSums_21, rX2_findSums_22, rX2_findSums_23, rX2_findSums_24, rX2_findSums_25, rX2_findSums_26, q]
      exact Z
  have z := sm_z (D := D) (k := n)
  have Z := outer n 0 0 (ab_si (ab_si σ 8 0 0 0) 9 0 0 1) none none (by omega) rfl (((fr.rf hr).si 8 0 0 rfl (i32_lo _) (i32_hi _)).si 9 0 0 rfl (i32_lo _) (i32_hi _)) (fun s hs => by
    have e : s = 0 := by have hs : s < 1 := hs; omega
    rw [e, sn_ii (k := 9) (k' := 8) (by decide), sn_ie, sn_ie, z.1, z.2]
    exact ⟨rfl, rfl⟩)
  simp only [ab_loc, ab_cat, ab_kil, ab_al, ab_ln, ab_lnp, ab_rf, sh_0, sh_1, sh_2, sh_3, sh_4, sh_5, sh_6, sh_7, sh_8, sh_9, sh_10, sh_11, sh_12, sh_13, sh_14, sh_20, sh_21, sh_22, sh_23, sh_24, sh_25, sh_30, sh_31, sh_32, sh_40, sh_41, sh_42, sh_43, sh_44, sh_45, sh_46, sh_47, sh_48, sh_49, sh_50, sh_51, sh_52, sh_53, sh_54, sh_55, sh_56, sh_57, sh_58, sh_59, sh_60, ct_0, ct_1, ct_2, ct_3, ct_4, ct_5, ct_6, ct_7, ct_8, ct_9, ct_10, ct_11, ct_12, ct_13, ct_14, ct_20, ct_21, ct_22, ct_23, ct_24, ct_25, ct_30, ct_31, ct_32, ct_40, ct_41, ct_42, ct_43, ct_44, ct_45, ct_46, ct_47, ct_48, ct_49, ct_50, ct_51, ct_52, ct_53, ct_54, ct_55, ct_56, ct_57, ct_58, ct_59, ct_60, ki_m1, ki_0, ki_1, ki_2, ki_3, ki_4, ki_5, kb_m2, kb_m3, kb_m4, kb_m8, kb_m9, kb_10, kb_100, kb_16, kb_36, kb_6, kb_63, kb_8, kb_9, kb_99, ks_216, ks_2520, ks_256, ks_800, kl_0, kl_1, ↓reduceIte, reduceCtorEq, Nat.reduceAdd, Nat.reduceLT, Nat.reduceLeDiff, Nat.reduceEqDiff, List.map_cons, List.map_nil, List.sum_cons, List.sum_nil, List.cons_append, List.nil_append, Option.toList_some, Option.toList_none, true_and, and_true, true_or, or_true, not_true_eq_false, not_false_eq_true, Nat.lt_add_one, Nat.zero_le, eq_self, or_false, false_or, implies_true, forall_const, false_implies, forall_false, true_implies, and_self, Nat.zero_lt_one, Nat.add_zero, Nat.zero_add, Int32.reduceLT, Int32.reduceLE, Int32.reduceAdd, Int32.reduceSub, Int32.reduceMul, e10, e01, ite_self, ab_mx, ab_mi, ab_mb, ab_ml2, uX2_findSums, rX2_findSums_0, rX2_findSums_1, rX2_findSums_4, rX2_findSums_5, rX2_findSums_6, rX2_findSums_7, rX2_findSums_8, rX2_findSums_11, rX2_findSums_12, rX2_findSums_13, rX2_findSums_14, rX2_findSums_15, v0, n0, nar1]
  exact Z
/-- the most groups over a list of sets -/
def mgF (ev : Nat → Bool) (C : Nat → Int) (s lw : Nat) (l : List Nat) (m : Int) : Int := match l with
  | [] => m
  | x :: l => mgF ev C s lw l (if ev (x + lw) = true ∧ m < C (s - (x + lw)) + 1 then C (s - (x + lw)) + 1 else m)
theorem mg_p {ev : Nat → Bool} {C : Nat → Int} {s lw : Nat} : ∀ {l : List Nat} {m : Int}, m ≤ mgF ev C s lw l m ∧ (∀ x, x ∈ l → ev (x + lw) = true → C (s - (x + lw)) + 1 ≤ mgF ev C s lw l m) ∧ (mgF ev C s lw l m = m ∨ ∃ x, x ∈ l ∧ ev (x + lw) = true ∧ mgF ev C s lw l m = C (s - (x + lw)) + 1)
  | [], m => ⟨Int.le_refl m, fun x hx => absurd hx List.not_mem_nil, Or.inl rfl⟩
  | x :: l, m => by
    have ih := mg_p (ev := ev) (C := C) (s := s) (lw := lw) (l := l) (m := if ev (x + lw) = true ∧ m < C (s - (x + lw)) + 1 then C (s - (x + lw)) + 1 else m)
    have e : mgF ev C s lw (x :: l) m = mgF ev C s lw l (if ev (x + lw) = true ∧ m < C (s - (x + lw)) + 1 then C (s - (x + lw)) + 1 else m) := rfl
    rw [e]
    by_cases a : ev (x + lw) = true ∧ m < C (s - (x + lw)) + 1
    · rw [if_pos a] at ih ⊢
      refine ⟨by omega, fun y hy hev => ?_, ?_⟩
      · rcases List.mem_cons.mp hy with w | w
        · rw [w]; exact ih.1
        · exact ih.2.1 y w hev
      · rcases ih.2.2 with w | ⟨y, w1, w2, w3⟩
        · exact Or.inr ⟨x, List.mem_cons_self, a.1, w⟩
        · exact Or.inr ⟨y, List.mem_cons_of_mem _ w1, w2, w3⟩
    · rw [if_neg a] at ih ⊢
      refine ⟨ih.1, fun y hy hev => ?_, ?_⟩
      · rcases List.mem_cons.mp hy with w | w
        · rw [w] at hev ⊢
          have : ¬ m < C (s - (x + lw)) + 1 := fun q => a ⟨hev, q⟩
          omega
        · exact ih.2.1 y w hev
      · rcases ih.2.2 with w | ⟨y, w1, w2, w3⟩
        · exact Or.inl w
        · exact Or.inr ⟨y, List.mem_cons_of_mem _ w1, w2, w3⟩
