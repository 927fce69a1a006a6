/-! spread within a part -/
theorem flt {m g : Nat → Int32} {p : Int32} : ∀ n : Nat, ∃ (h : Nat → Int) (c : Nat), (c : Int) = isum (cnf m p) n ∧ isum h c = isum (smf m g p) n ∧ isum (sqf h) c = isum (sqp m g p) n
  | 0 => ⟨fun _ => 0, 0, rfl, rfl, rfl⟩
  | n + 1 => by
    obtain ⟨h, c, e1, e2, e3⟩ := flt (m := m) (g := g) (p := p) n
    by_cases q : m n = p
    · have a1 : cnf m p n = 1 := if_pos q
      have a2 : smf m g p n = (g n).toInt := if_pos q
      have a3 : sqp m g p n = (g n).toInt * (g n).toInt := if_pos q
      have hA : (fun j => if j = c then (g n).toInt else h j) c = (g n).toInt := if_pos rfl
      have hB : ∀ j, j < c → (fun j => if j = c then (g n).toInt else h j) j = h j := fun j hj => if_neg (by omega)
      refine ⟨fun j => if j = c then (g n).toInt else h j, c + 1, ?_, ?_, ?_⟩
      · show ((c + 1 : Nat) : Int) = isum (cnf m p) n + cnf m p n
        rw [a1, ← e1]; rfl
      · show isum _ c + (fun j => if j = c then (g n).toInt else h j) c = isum (smf m g p) n + smf m g p n
        rw [hA, isum_cg hB, e2, a2]
      · show isum _ c + (fun j => if j = c then (g n).toInt else h j) c * (fun j => if j = c then (g n).toInt else h j) c = isum (sqp m g p) n + sqp m g p n
        rw [hA, isum_cg (h := sqf h) (fun j hj => by
          show (fun j => if j = c then (g n).toInt else h j) j * (fun j => if j = c then (g n).toInt else h j) j = h j * h j
          rw [hB j hj]), e3, a3]
    · have a1 : cnf m p n = 0 := if_neg q
      have a2 : smf m g p n = 0 := if_neg q
      have a3 : sqp m g p n = 0 := if_neg q
      refine ⟨h, c, ?_, ?_, ?_⟩
      · show _ = isum (cnf m p) n + cnf m p n
        omega
      · show _ = isum (smf m g p) n + smf m g p n
        omega
      · show _ = isum (sqp m g p) n + sqp m g p n
        omega
theorem cs_p2 {m g : Nat → Int32} {p : Int32} {n : Nat} : isum (smf m g p) n * isum (smf m g p) n ≤ isum (cnf m p) n * isum (sqp m g p) n := by
  obtain ⟨h, c, e1, e2, e3⟩ := flt (m := m) (g := g) (p := p) n
  rw [← e1, ← e2, ← e3]
  exact cs_i
def swv (u : Bool) (m g : Nat → Int32) (p : Int32) (n : Nat) : Int := if isum (cnf m p) n = 0 then ltv u 0 1 else ltv u (isum (cnf m p) n * isum (sqp m g p) n - isum (smf m g p) n * isum (smf m g p) n) (isum (cnf m p) n * n)
def wmp (m : Nat → Int32) (p : Int32) (j : Nat) : Int32 := if p = -1 then -1 else m j
theorem sw_e {C Q S : Int} {N : Nat} {a b c : Int64} {n : Int32} (hc : c.toInt = C) (hq : a.toInt = Q) (hs : b.toInt = S) (hn : n.toInt = N) (c0 : 0 ≤ C) (c1 : C ≤ N) (q0 : 0 ≤ Q) (q1 : Q ≤ 9801 * N) (s0 : 0 ≤ S) (s1 : S ≤ 99 * N) (n8 : N ≤ 8) : (c * a - b * b).toInt = C * Q - S * S ∧ (c * n.toInt64).toInt = C * N := by
  have p1 : 0 ≤ C * Q := Int.mul_nonneg c0 q0
  have p2 : C * Q ≤ 8 * 78408 := Int.mul_le_mul (by omega) (by omega) q0 (by decide)
  have p3 : 0 ≤ S * S := Int.mul_nonneg s0 s0
  have p4 : S * S ≤ 792 * 792 := Int.mul_le_mul (by omega) (by omega) s0 (by decide)
  have p5 : 0 ≤ C * (N : Int) := Int.mul_nonneg c0 (by omega)
  have p6 : C * (N : Int) ≤ 8 * 8 := Int.mul_le_mul (by omega) (by omega) (by omega) (by decide)
  have e1 : (c * a).toInt = C * Q := by rw [i64_mul (by rw [hc, hq]; omega) (by rw [hc, hq]; omega), hc, hq]
  have e2 : (b * b).toInt = S * S := by rw [i64_mul (by rw [hs]; omega) (by rw [hs]; omega), hs]
  refine ⟨by rw [i64_sub (by rw [e1, e2]; omega) (by rw [e1, e2]; omega), e1, e2], ?_⟩
  rw [i64_mul (by rw [hc, l64, hn]; omega) (by rw [hc, l64, hn]; omega), hc, l64, hn]
set_option maxRecDepth 100000 in
set_option maxHeartbeats 400000 in
theorem sX7_spreadWithin {σ : ab_S} {P : ab_P} {i : Nat} {p : Int32} {u : Bool} (hi : i < 4) (hr : rg_R σ) (hg : ∀ j : Nat, (j : Int) < (σ.1 20 i 0).toInt → 0 ≤ (σ.1 21 i j).toInt ∧ (σ.1 21 i j).toInt ≤ 99) (n1 : 1 ≤ (σ.1 20 i 0).toInt) (hP : ∀ y : Int64, y.toInt = swv u (wmp (σ.1 24 i) p) (σ.1 21 i) p (σ.1 20 i 0).toInt.toNat → P (some (.inl (.inr y))) σ) : ab_sp mX7_spreadWithin cX7_spreadWithin [.inr (some (20, i)), .inl (.inl p), .inl (.inl (if u = true then 1 else 0))] σ P := by
  have hn : 0 ≤ (σ.1 20 i 0).toInt ∧ (σ.1 20 i 0).toInt ≤ 8 := hr 20 i 0
  have o1 : (1 : Int64).toInt = 1 := rfl
  obtain ⟨m, hm⟩ : ∃ m, wmp (σ.1 24 i) p = m := ⟨_, rfl⟩
  have hmj : ∀ j, (m j = p) = (p = -1 ∨ σ.1 24 i j = p) := fun j => by
    rw [← hm]
    unfold wmp
    by_cases q : p = -1
    · rw [if_pos q, q]
      exact propext ⟨fun _ => Or.inl rfl, fun _ => rfl⟩
    · rw [if_neg q]
      exact propext ⟨Or.inr, fun w => w.resolve_left q⟩
  rw [hm] at hP
  have key : ∀ (n : Nat) (f : Int32) (a b c : Int64), ((σ.1 20 i 0).toInt - f.toInt).toNat = n → 0 ≤ f.toInt → f.toInt ≤ (σ.1 20 i 0).toInt → a.toInt = isum (cnf m p) f.toInt.toNat → b.toInt = isum (smf m (σ.1 21 i) p) f.toInt.toNat → c.toInt = isum (sqp m (σ.1 21 i) p) f.toInt.toNat → ab_wp mX7_spreadWithin cX7_spreadWithin none P 11 [some (.inr (some (20, i))), some (.inl (.inl p)), some (.inl (.inl (if u = true then 1 else 0))), some (.inl (.inr a)), none, some (.inl (.inr b)), none, some (.inl (.inr c)), none, some (.inl (.inl f))] [] σ := by
    intro n
    induction n with
    | zero =>
      intro f a b c en f0 f1 ha hb hc
      have c2 : σ.1 20 i 0 ≤ f := Int32.le_iff_toInt_le.mpr (by omega)
      rw [show f.toInt.toNat = (σ.1 20 i 0).toInt.toNat by omega] at ha hb hc
      have b1 := isum_b (g := cnf m p) (c := 1) (n := (σ.1 20 i 0).toInt.toNat) (fun _ _ => cn_b)
      have b2 := isum_b (g := smf m (σ.1 21 i) p) (c := 99) (n := (σ.1 20 i 0).toInt.toNat) (fun j hj => sm_b (hg j (by omega)))
      have b3 := isum_b (g := sqp m (σ.1 21 i) p) (c := 9801) (n := (σ.1 20 i 0).toInt.toNat) (fun j hj => sqp_b (hg j (by omega)))
      unfold swv at hP
      rw [rX7_spreadWithin_11]
      by_cases z : a = 0
      · rw [if_pos (by rw [← ha, z]; rfl)] at hP
        simp only [ab_loc, ab_cat, ab_kil, ab_al, ab_ln, ab_lnp, ab_rf, sh_0, sh_1, sh_2, sh_3, sh_4, sh_5, sh_6, sh_7, sh_8, sh_9, sh_10, sh_11, sh_12, sh_13, sh_14, sh_20, sh_21, sh_22, sh_23, sh_24, sh_25, sh_30, sh_31, sh_32, sh_40, sh_41, sh_42, sh_43, sh_44, sh_45, sh_46, sh_47, sh_48, sh_49, sh_50, sh_51, sh_52, sh_53, sh_54, sh_55, sh_56, sh_57, sh_58, sh_59, sh_60, ct_0, ct_1, ct_2, ct_3, ct_4, ct_5, ct_6, ct_7, ct_8, ct_9, ct_10, ct_11, ct_12, ct_13, ct_14, ct_20, ct_21, ct_22, ct_23, ct_24, ct_25, ct_30, ct_31, ct_32, ct_40, ct_41, ct_42, ct_43, ct_44, ct_45, ct_46, ct_47, ct_48, ct_49, ct_50, ct_51, ct_52, ct_53, ct_54, ct_55, ct_56, ct_57, ct_58, ct_59, ct_60, ki_m1, ki_0, ki_1, ki_2, ki_3, ki_4, ki_5, kb_m2, kb_m3, kb_m4, kb_m8, kb_m9, kb_10, kb_100, kb_16, kb_36, kb_6, kb_63, kb_8, kb_9, kb_99, ks_216, ks_2520, ks_256, ks_800, kl_0, kl_1, ↓reduceIte, reduceCtorEq, Nat.reduceAdd, Nat.reduceLT, Nat.reduceLeDiff, Nat.reduceEqDiff, List.map_cons, List.map_nil, List.sum_cons, List.sum_nil, List.cons_append, List.nil_append, Option.toList_some, Option.toList_none, true_and, and_true, true_or, or_true, not_true_eq_false, not_false_eq_true, Nat.lt_add_one, Nat.zero_le, eq_self, or_false, false_or, implies_true, forall_const, false_implies, forall_false, true_implies, and_self, Nat.zero_lt_one, Nat.add_zero, Nat.zero_add, Int32.reduceLT, Int32.reduceLE, Int32.reduceAdd, Int32.reduceSub, Int32.reduceMul, e10, e01, ite_self, ab_mx, ab_mi, ab_mb, ab_ml2, rX7_spreadWithin_13, rX7_spreadWithin_14, rX7_spreadWithin_17, rX7_spreadWithin_81, rX7_spreadWithin_82, rX7_spreadWithin_83, rX7_spreadWithin_84, rX7_spreadWithin_87, rX7_spreadWithin_88, rX7_spreadWithin_89, rX7_spreadWithin_90, c2, hi, lg_cmp_eq, z]
        refine sX7_inLeastTerms (by decide) (by decide) (by decide) (fun y hy => ?_)
        have F := hP y hy
        simp only [ab_loc, ab_cat, ab_kil, ab_al, ab_ln, ab_lnp, ab_rf, sh_0, sh_1, sh_2, sh_3, sh_4, sh_5, sh_6, sh_7, sh_8, sh_9, sh_10, sh_11, sh_12, sh_13, sh_14, sh_20, sh_21, sh_22, sh_23, sh_24, sh_25, sh_30, sh_31, sh_32, sh_40, sh_41, sh_42, sh_43, sh_44, sh_45, sh_46, sh_47, sh_48, sh_49, sh_50, sh_51, sh_52, sh_53, sh_54, sh_55, sh_56, sh_57, sh_58, sh_59, sh_60, ct_0, ct_1, ct_2, ct_3, ct_4, ct_5, ct_6, ct_7, ct_8, ct_9, ct_10, ct_11, ct_12, ct_13, ct_14, ct_20, ct_21, ct_22, ct_23, ct_24, ct_25, ct_30, ct_31, ct_32, ct_40, ct_41, ct_42, ct_43, ct_44, ct_45, ct_46, ct_47, ct_48, ct_49, ct_50, ct_51, ct_52, ct_53, ct_54, ct_55, ct_56, ct_57, ct_58, ct_59, ct_60, ki_m1, ki_0, ki_1, ki_2, ki_3, ki_4, ki_5, kb_m2, kb_m3, kb_m4, kb_m8, kb_m9, kb_10, kb_100, kb_16, kb_36, kb_6, kb_63, kb_8, kb_9, kb_99, ks_216, ks_2520, ks_256, ks_800, kl_0, kl_1, ↓reduceIte, reduceCtorEq, Nat.reduceAdd, Nat.reduceLT, Nat.reduceLeDiff, Nat.reduceEqDiff, List.map_cons, List.map_nil, List.sum_cons, List.sum_nil, List.cons_append, List.nil_append, Option.toList_some, Option.toList_none, true_and, and_true, true_or, or_true, not_true_eq_false, not_false_eq_true, Nat.lt_add_one, Nat.zero_le, eq_self, or_false, false_or, implies_true, forall_const, false_implies, forall_false, true_implies, and_self, Nat.zero_lt_one, Nat.add_zero, Nat.zero_add, Int32.reduceLT, Int32.reduceLE, Int32.reduceAdd, Int32.reduceSub, Int32.reduceMul, e10, e01, ite_self, ab_mx, ab_mi, ab_mb, ab_ml2, rX7_spreadWithin_93]
        exact F
      · have z0 : ¬ isum (cnf m p) (σ.1 20 i 0).toInt.toNat = 0 := fun q => z (Int64.toInt_inj.mp (by rw [ha, q]; rfl))
        have E := sw_e ha hc hb (show (σ.1 20 i 0).toInt = ((σ.1 20 i 0).toInt.toNat : Nat) by omega) b1.1 (by omega) b3.1 b3.2 b2.1 b2.2 (by omega)
        have cs := cs_p2 (m := m) (g := σ.1 21 i) (p := p) (n := (σ.1 20 i 0).toInt.toNat)
        have p5 : 1 * 1 ≤ isum (cnf m p) (σ.1 20 i 0).toInt.toNat * ((σ.1 20 i 0).toInt.toNat : Int) := Int.mul_le_mul (by omega) (by omega) (by decide) b1.1
        have p6 : isum (cnf m p) (σ.1 20 i 0).toInt.toNat * ((σ.1 20 i 0).toInt.toNat : Int) ≤ 8 * 8 := Int.mul_le_mul (by omega) (by omega) (by omega) (by decide)
        rw [if_neg z0, ← E.1, ← E.2] at hP
        simp only [ab_loc, ab_cat, ab_kil, ab_al, ab_ln, ab_lnp, ab_rf, sh_0, sh_1, sh_2, sh_3, sh_4, sh_5, sh_6, sh_7, sh_8, sh_9, sh_10, sh_11, sh_12, sh_13, sh_14, sh_20, sh_21, sh_22, sh_23, sh_24, sh_25, sh_30, sh_31, sh_32, sh_40, sh_41, sh_42, sh_43, sh_44, sh_45, sh_46, sh_47, sh_48, sh_49, sh_50, sh_51, sh_52, sh_53, sh_54, sh_55, sh_56, sh_57, sh_58, sh_59, sh_60, ct_0, ct_1, ct_2, ct_3, ct_4, ct_5, ct_6, ct_7, ct_8, ct_9, ct_10, ct_11, ct_12, ct_13, ct_14, ct_20, ct_21, ct_22, ct_23, ct_24, ct_25, ct_30, ct_31, ct_32, ct_40, ct_41, ct_42, ct_43, ct_44, ct_45, ct_46, ct_47, ct_48, ct_49, ct_50, ct_51, ct_52, ct_53, ct_54, ct_55, ct_56, ct_57, ct_58, ct_59, ct_60, ki_m1, ki_0, ki_1, ki_2, ki_3, ki_4, ki_5, kb_m2, kb_m3, kb_m4, kb_m8, kb_m9, kb_10, kb_100, kb_16, kb_36, kb_6, kb_63, kb_8, kb_9, kb_99, ks_216, ks_2520, ks_256, ks_800, kl_0, kl_1, ↓reduceIte, reduceCtorEq, Nat.reduceAdd, Nat.reduceLT, Nat.reduceLeDiff, Nat.reduceEqDiff, List.map_cons, List.map_nil, List.sum_cons, List.sum_nil, List.cons_append, List.nil_append, Option.toList_some, Option.toList_none, true_and, and_true, true_or, or_true, not_true_eq_false, not_false_eq_true, Nat.lt_add_one, Nat.zero_le, eq_self, or_false, false_or, implies_true, forall_const, false_implies, forall_false, true_implies, and_self, Nat.zero_lt_one, Nat.add_zero, Nat.zero_add, Int32.reduceLT, Int32.reduceLE, Int32.reduceAdd, Int32.reduceSub, Int32.reduceMul, e10, e01, ite_self, ab_mx, ab_mi, ab_mb, ab_ml2, rX7_spreadWithin_13, rX7_spreadWithin_14, rX7_spreadWithin_17, rX7_spreadWithin_81, rX7_spreadWithin_82, rX7_spreadWithin_83, rX7_spreadWithin_84, rX7_spreadWithin_87, rX7_spreadWithin_88, rX7_spreadWithin_89, rX7_spreadWithin_90, rX7_spreadWithin_93, rX7_spreadWithin_94, rX7_spreadWithin_95, rX7_spreadWithin_97, rX7_spreadWithin_98, rX7_spreadWithin_100, rX7_spreadWithin_102, rX7_spreadWithin_103, rX7_spreadWithin_104, rX7_spreadWithin_105, rX7_spreadWithin_106, rX7_spreadWithin_109, rX7_spreadWithin_110, rX7_spreadWithin_111, rX7_spreadWithin_112, c2, hi, lg_cmp_eq, z]
        refine sX7_inLeastTerms (by rw [E.1]; omega) (by rw [E.2]; omega) (by rw [E.2]; omega) (fun y hy => ?_)
        have F := hP y hy
        simp only [ab_loc, ab_cat, ab_kil, ab_al, ab_ln, ab_lnp, ab_rf, sh_0, sh_1, sh_2, sh_3, sh_4, sh_5, sh_6, sh_7, sh_8, sh_9, sh_10, sh_11, sh_12, sh_13, sh_14, sh_20, sh_21, sh_22, sh_23, sh_24, sh_25, sh_30, sh_31, sh_32, sh_40, sh_41, sh_42, sh_43, sh_44, sh_45, sh_46, sh_47, sh_48, sh_49, sh_50, sh_51, sh_52, sh_53, sh_54, sh_55, sh_56, sh_57, sh_58, sh_59, sh_60, ct_0, ct_1, ct_2, ct_3, ct_4, ct_5, ct_6, ct_7, ct_8, ct_9, ct_10, ct_11, ct_12, ct_13, ct_14, ct_20, ct_21, ct_22, ct_23, ct_24, ct_25, ct_30, ct_31, ct_32, ct_40, ct_41, ct_42, ct_43, ct_44, ct_45, ct_46, ct_47, ct_48, ct_49, ct_50, ct_51, ct_52, ct_53, ct_54, ct_55, ct_56, ct_57, ct_58, ct_59, ct_60, ki_m1, ki_0, ki_1, ki_2, ki_3, ki_4, ki_5, kb_m2, kb_m3, kb_m4, kb_m8, kb_m9, kb_10, kb_100, kb_16, kb_36, kb_6, kb_63, kb_8, kb_9, kb_99, ks_216, ks_2520, ks_256, ks_800, kl_0, kl_1, ↓reduceIte, reduceCtorEq, Nat.reduceAdd, Nat.reduceLT, Nat.reduceLeDiff, Nat.reduceEqDiff, List.map_cons, List.map_nil, List.sum_cons, List.sum_nil, List.cons_append, List.nil_append, Option.toList_some, Option.toList_none, true_and, and_true, true_or, or_true, not_true_eq_false, not_false_eq_true, Nat.lt_add_one, Nat.zero_le, eq_self, or_false, false_or, implies_true, forall_const, false_implies, forall_false, true_implies, and_self, Nat.zero_lt_one, Nat.add_zero, Nat.zero_add, Int32.reduceLT, Int32.reduceLE, Int32.reduceAdd, Int32.reduceSub, Int32.reduceMul, e10, e01, ite_self, ab_mx, ab_mi, ab_mb, ab_ml2, rX7_spreadWithin_115]
        exact F
    | succ n ih =>
      intro f a b c en f0 f1 ha hb hc
      have c2 : ¬ σ.1 20 i 0 ≤ f := fun q => by have q := le32 q; omega
      have vf : vp_in f 8 := vp_of f0 (by omega)
      have ef : (f + 1).toInt = f.toInt + 1 := i32_p1 (by omega)
      have K := fun a b c => ih (f + 1) a b c (by omega) (by omega) (by omega)
      rw [show (f + 1).toInt.toNat = f.toInt.toNat + 1 by omega] at K
      have b1 := isum_b (g := cnf m p) (c := 1) (n := f.toInt.toNat) (fun _ _ => cn_b)
      have b2 := isum_b (g := smf m (σ.1 21 i) p) (c := 99) (n := f.toInt.toNat) (fun j hj => sm_b (hg j (by omega)))
      have b3 := isum_b (g := sqp m (σ.1 21 i) p) (c := 9801) (n := f.toInt.toNat) (fun j hj => sqp_b (hg j (by omega)))
      have gf : 0 ≤ (σ.1 21 i f.toNatClampNeg).toInt ∧ (σ.1 21 i f.toNatClampNeg).toInt ≤ 99 := hg f.toInt.toNat (by omega)
      have gs : 0 ≤ (σ.1 21 i f.toNatClampNeg).toInt * (σ.1 21 i f.toNatClampNeg).toInt ∧ (σ.1 21 i f.toNatClampNeg).toInt * (σ.1 21 i f.toNatClampNeg).toInt ≤ 9801 := sq_b (g := tI (σ.1 21 i)) (j := f.toInt.toNat) gf
      have e1 : cnf m p f.toInt.toNat = if m f.toNatClampNeg = p then 1 else 0 := rfl
      have e2 : smf m (σ.1 21 i) p f.toInt.toNat = if m f.toNatClampNeg = p then (σ.1 21 i f.toNatClampNeg).toInt else 0 := rfl
      have e3 : sqp m (σ.1 21 i) p f.toInt.toNat = if m f.toNatClampNeg = p then (σ.1 21 i f.toNatClampNeg).toInt * (σ.1 21 i f.toNatClampNeg).toInt else 0 := rfl
      have es : ((σ.1 21 i f.toNatClampNeg).toInt64 * (σ.1 21 i f.toNatClampNeg).toInt64).toInt = (σ.1 21 i f.toNatClampNeg).toInt * (σ.1 21 i f.toNatClampNeg).toInt := by rw [i64_mul (by rw [l64]; omega) (by rw [l64]; omega), l64]
      have Y : m f.toNatClampNeg = p → ab_wp mX7_spreadWithin cX7_spreadWithin none P 11 [some (.inr (some (20, i))), some (.inl (.inl p)), some (.inl (.inl (if u = true then 1 else 0))), some (.inl (.inr (a + 1))), none, some (.inl (.inr (b + (σ.1 21 i f.toNatClampNeg).toInt64))), none, some (.inl (.inr (c + (σ.1 21 i f.toNatClampNeg).toInt64 * (σ.1 21 i f.toNatClampNeg).toInt64))), none, some (.inl (.inl (f + 1)))] [] σ := fun q => K _ _ _ (by
          show _ = isum (cnf m p) f.toInt.toNat + cnf m p f.toInt.toNat
          rw [e1, if_pos q, i64_add (by rw [o1, ha]; omega) (by rw [o1, ha]; omega), o1, ha]) (by
          show _ = isum (smf m (σ.1 21 i) p) f.toInt.toNat + smf m (σ.1 21 i) p f.toInt.toNat
          rw [e2, if_pos q, i64_add (by rw [l64, hb]; omega) (by rw [l64, hb]; omega), l64, hb]) (by
          show _ = isum (sqp m (σ.1 21 i) p) f.toInt.toNat + sqp m (σ.1 21 i) p f.toInt.toNat
          rw [e3, if_pos q, i64_add (by rw [es, hc]; omega) (by rw [es, hc]; omega), es, hc])
      rw [rX7_spreadWithin_11]
      by_cases w : p = -1
      · have Y := Y (by rw [hmj]; exact Or.inl w)
        rw [w] at Y ⊢
        simp only [ab_loc, ab_cat, ab_kil, ab_al, ab_ln, ab_lnp, ab_rf, sh_0, sh_1, sh_2, sh_3, sh_4, sh_5, sh_6, sh_7, sh_8, sh_9, sh_10, sh_11, sh_12, sh_13, sh_14, sh_20, sh_21, sh_22, sh_23, sh_24, sh_25, sh_30, sh_31, sh_32, sh_40, sh_41, sh_42, sh_43, sh_44, sh_45, sh_46, sh_47, sh_48, sh_49, sh_50, sh_51, sh_52, sh_53, sh_54, sh_55, sh_56, sh_57, sh_58, sh_59, sh_60, ct_0, ct_1, ct_2, ct_3, ct_4, ct_5, ct_6, ct_7, ct_8, ct_9, ct_10, ct_11, ct_12, ct_13, ct_14, ct_20, ct_21, ct_22, ct_23, ct_24, ct_25, ct_30, ct_31, ct_32, ct_40, ct_41, ct_42, ct_43, ct_44, ct_45, ct_46, ct_47, ct_48, ct_49, ct_50, ct_51, ct_52, ct_53, ct_54, ct_55, ct_56, ct_57, ct_58, ct_59, ct_60, ki_m1, ki_0, ki_1, ki_2, ki_3, ki_4, ki_5, kb_m2, kb_m3, kb_m4, kb_m8, kb_m9, kb_10, kb_100, kb_16, kb_36, kb_6, kb_63, kb_8, kb_9, kb_99, ks_216, ks_2520, ks_256, ks_800, kl_0, kl_1, ↓reduceIte, reduceCtorEq, Nat.reduceAdd, Nat.reduceLT, Nat.reduceLeDiff, Nat.reduceEqDiff, List.map_cons, List.map_nil, List.sum_cons, List.sum_nil, List.cons_append, List.nil_append, Option.toList_some, Option.toList_none, true_and, and_true, true_or, or_true, not_true_eq_false, not_false_eq_true, Nat.lt_add_one, Nat.zero_le, eq_self, or_false, false_or, implies_true, forall_const, false_implies, forall_false, true_implies, and_self, Nat.zero_lt_one, Nat.add_zero, Nat.zero_add, Int32.reduceLT, Int32.reduceLE, Int32.reduceAdd, Int32.reduceSub, Int32.reduceMul, e10, e01, ite_self, ab_mx, ab_mi, ab_mb, ab_ml2, rX7_spreadWithin_13, rX7_spreadWithin_14, rX7_spreadWithin_17, rX7_spreadWithin_20, rX7_spreadWithin_21, rX7_spreadWithin_22, rX7_spreadWithin_25, rX7_spreadWithin_26, rX7_spreadWithin_29, rX7_spreadWithin_31, rX7_spreadWithin_32, rX7_spreadWithin_33, rX7_spreadWithin_36, rX7_spreadWithin_37, rX7_spreadWithin_38, rX7_spreadWithin_39, rX7_spreadWithin_40, rX7_spreadWithin_42, rX7_spreadWithin_43, rX7_spreadWithin_46, rX7_spreadWithin_48, rX7_spreadWithin_49, rX7_spreadWithin_50, rX7_spreadWithin_51, rX7_spreadWithin_53, rX7_spreadWithin_55, rX7_spreadWithin_56, rX7_spreadWithin_59, rX7_spreadWithin_61, rX7_spreadWithin_62, rX7_spreadWithin_63, rX7_spreadWithin_64, rX7_spreadWithin_67, rX7_spreadWithin_69, rX7_spreadWithin_70, rX7_spreadWithin_71, rX7_spreadWithin_72, rX7_spreadWithin_73, rX7_spreadWithin_75, rX7_spreadWithin_78, c2, vf, hi]
        exact Y
      · by_cases q : σ.1 24 i f.toNatClampNeg = p
        · have Y := Y (by rw [hmj]; exact Or.inr q)
          have q1 : (σ.1 24 i f.toNatClampNeg = p) = True := eq_true q
          have w1 : (p = -1) = False := eq_false w
          simp only [ab_loc, ab_cat, ab_kil, ab_al, ab_ln, ab_lnp, ab_rf, sh_0, sh_1, sh_2, sh_3, sh_4, sh_5, sh_6, sh_7, sh_8, sh_9, sh_10, sh_11, sh_12, sh_13, sh_14, sh_20, sh_21, sh_22, sh_23, sh_24, sh_25, sh_30, sh_31, sh_32, sh_40, sh_41, sh_42, sh_43, sh_44, sh_45, sh_46, sh_47, sh_48, sh_49, sh_50, sh_51, sh_52, sh_53, sh_54, sh_55, sh_56, sh_57, sh_58, sh_59, sh_60, ct_0, ct_1, ct_2, ct_3, ct_4, ct_5, ct_6, ct_7, ct_8, ct_9, ct_10, ct_11, ct_12, ct_13, ct_14, ct_20, ct_21, ct_22, ct_23, ct_24, ct_25, ct_30, ct_31, ct_32, ct_40, ct_41, ct_42, ct_43, ct_44, ct_45, ct_46, ct_47, ct_48, ct_49, ct_50, ct_51, ct_52, ct_53, ct_54, ct_55, ct_56, ct_57, ct_58, ct_59, ct_60, ki_m1, ki_0, ki_1, ki_2, ki_3, ki_4, ki_5, kb_m2, kb_m3, kb_m4, kb_m8, kb_m9, kb_10, kb_100, kb_16, kb_36, kb_6, kb_63, kb_8, kb_9, kb_99, ks_216, ks_2520, ks_256, ks_800, kl_0, kl_1, ↓reduceIte, reduceCtorEq, Nat.reduceAdd, Nat.reduceLT, Nat.reduceLeDiff, Nat.reduceEqDiff, List.map_cons, List.map_nil, List.sum_cons, List.sum_nil, List.cons_append, List.nil_append, Option.toList_some, Option.toList_none, true_and, and_true, true_or, or_true, not_true_eq_false, not_false_eq_true, Nat.lt_add_one, Nat.zero_le, eq_self, or_false, false_or, implies_true, forall_const, false_implies, forall_false, true_implies, and_self, Nat.zero_lt_one, Nat.add_zero, Nat.zero_add, Int32.reduceLT, Int32.reduceLE, Int32.reduceAdd, Int32.reduceSub, Int32.reduceMul, e10, e01, ite_self, ab_mx, ab_mi, ab_mb, ab_ml2, rX7_spreadWithin_13, rX7_spreadWithin_14, rX7_spreadWithin_17, rX7_spreadWithin_20, rX7_spreadWithin_21, rX7_spreadWithin_22, rX7_spreadWithin_25, rX7_spreadWithin_26, rX7_spreadWithin_29, rX7_spreadWithin_31, rX7_spreadWithin_32, rX7_spreadWithin_33, rX7_spreadWithin_36, rX7_spreadWithin_37, rX7_spreadWithin_38, rX7_spreadWithin_39, rX7_spreadWithin_40, rX7_spreadWithin_42, rX7_spreadWithin_43, rX7_spreadWithin_46, rX7_spreadWithin_48, rX7_spreadWithin_49, rX7_spreadWithin_50, rX7_spreadWithin_51, rX7_spreadWithin_53, rX7_spreadWithin_55, rX7_spreadWithin_56, rX7_spreadWithin_59, rX7_spreadWithin_61, rX7_spreadWithin_62, rX7_spreadWithin_63, rX7_spreadWithin_64, rX7_spreadWithin_67, rX7_spreadWithin_69, rX7_spreadWithin_70, rX7_spreadWithin_71, rX7_spreadWithin_72, rX7_spreadWithin_73, rX7_spreadWithin_75, rX7_spreadWithin_78, c2, vf, hi, w1, q1]
          exact Y
        · have nq : ¬ m f.toNatClampNeg = p := by rw [hmj]; exact fun h => h.elim w q
          have K1 := K a b c (by
            show _ = isum (cnf m p) f.toInt.toNat + cnf m p f.toInt.toNat
            rw [e1, if_neg nq, ha]; omega) (by
            show _ = isum (smf m (σ.1 21 i) p) f.toInt.toNat + smf m (σ.1 21 i) p f.toInt.toNat
            rw [e2, if_neg nq, hb]; omega) (by
            show _ = isum (sqp m (σ.1 21 i) p) f.toInt.toNat + sqp m (σ.1 21 i) p f.toInt.toNat
            rw [e3, if_neg nq, hc]; omega)
          have q1 : (σ.1 24 i f.toNatClampNeg = p) = False := eq_false q
          have w1 : (p = -1) = False := eq_false w
          simp only [ab_loc, ab_cat, ab_kil, ab_al, ab_ln, ab_lnp, ab_rf, sh_0, sh_1, sh_2, sh_3, sh_4, sh_5, sh_6, sh_7, sh_8, sh_9, sh_10, sh_11, sh_12, sh_13, sh_14, sh_20, sh_21, sh_22, sh_23, sh_24, sh_25, sh_30, sh_31, sh_32, sh_40, sh_41, sh_42, sh_43, sh_44, sh_45, sh_46, sh_47, sh_48, sh_49, sh_50, sh_51, sh_52, sh_53, sh_54, sh_55, sh_56, sh_57, sh_58, sh_59, sh_60, ct_0, ct_1, ct_2, ct_3, ct_4, ct_5, ct_6, ct_7, ct_8, ct_9, ct_10, ct_11, ct_12, ct_13, ct_14, ct_20, ct_21, ct_22, ct_23, ct_24, ct_25, ct_30, ct_31, ct_32, ct_40, ct_41, ct_42, ct_43, ct_44, ct_45, ct_46, ct_47, ct_48, ct_49, ct_50, ct_51, ct_52, ct_53, ct_54, ct_55, ct_56, ct_57, ct_58, ct_59, ct_60, ki_m1, ki_0, ki_1, ki_2, ki_3, ki_4, ki_5, kb_m2, kb_m3, kb_m4, kb_m8, kb_m9, kb_10, kb_100, kb_16, kb_36, kb_6, kb_63, kb_8, kb_9, kb_99, ks_216, ks_2520, ks_256, ks_800, kl_0, kl_1, ↓reduceIte, reduceCtorEq, Nat.reduceAdd, Nat.reduceLT, Nat.reduceLeDiff, Nat.reduceEqDiff, List.map_cons, List.map_nil, List.sum_cons, List.sum_nil, List.cons_append, List.nil_append, Option.toList_some, Option.toList_none, true_and, and_true, true_or, or_true, not_true_eq_false, not_false_eq_true, Nat.lt_add_one, Nat.zero_le, eq_self, or_false, false_or, implies_true, forall_const, false_implies, forall_false, true_implies, and_self, Nat.zero_lt_one, Nat.add_zero, Nat.zero_add, Int32.reduceLT, Int32.reduceLE, Int32.reduceAdd, Int32.reduceSub, Int32.reduceMul, e10, e01, ite_self, ab_mx, ab_mi, ab_mb, ab_ml2, rX7_spreadWithin_13, rX7_spreadWithin_14, rX7_spreadWithin_17, rX7_spreadWithin_20, rX7_spreadWithin_21, rX7_spreadWithin_22, rX7_spreadWithin_25, rX7_spreadWithin_26, rX7_spreadWithin_29, rX7_spreadWithin_31, rX7_spreadWithin_32, rX7_spreadWithin_33, rX7_spreadWithin_36, rX7_spreadWithin_37, rX7_spreadWithin_38, rX7_spreadWithin_39, rX7_spreadWithin_40, rX7_spreadWithin_42, rX7_spreadWithin_43, rX7_spreadWithin_46, rX7_spreadWithin_48, rX7_spreadWithin_49, rX7_spreadWithin_50, rX7_spreadWithin_51, rX7_spreadWithin_53, rX7_spreadWithin_55, rX7_spreadWithin_56, rX7_spreadWithin_59, rX7_spreadWithin_61, rX7_spreadWithin_62, rX7_spreadWithin_63, rX7_spreadWithin_64, rX7_spreadWithin_67, rX7_spreadWithin_69, rX7_spreadWithin_70, rX7_spreadWithin_71, rX7_spreadWithin_72, rX7_spreadWithin_73, rX7_spreadWithin_75, rX7_spreadWithin_78, c2, vf, hi, w1, q1]
          exact K1
  have K := key (σ.1 20 i 0).toInt.toNat 0 0 0 0 (by rw [t0i]; omega) (by decide) (by rw [t0i]; exact hn.1) rfl rfl rfl
  simp only [ab_loc, ab_cat, ab_kil, ab_al, ab_ln, ab_lnp, ab_rf, sh_0, sh_1, sh_2, sh_3, sh_4, sh_5, sh_6, sh_7, sh_8, sh_9, sh_10, sh_11, sh_12, sh_13, sh_14, sh_20, sh_21, sh_22, sh_23, sh_24, sh_25, sh_30, sh_31, sh_32, sh_40, sh_41, sh_42, sh_43, sh_44, sh_45, sh_46, sh_47, sh_48, sh_49, sh_50, sh_51, sh_52, sh_53, sh_54, sh_55, sh_56, sh_57, sh_58, sh_59, sh_60, ct_0, ct_1, ct_2, ct_3, ct_4, ct_5, ct_6, ct_7, ct_8, ct_9, ct_10, ct_11, ct_12, ct_13, ct_14, ct_20, ct_21, ct_22, ct_23, ct_24, ct_25, ct_30, ct_31, ct_32, ct_40, ct_41, ct_42, ct_43, ct_44, ct_45, ct_46, ct_47, ct_48, ct_49, ct_50, ct_51, ct_52, ct_53, ct_54, ct_55, ct_56, ct_57, ct_58, ct_59, ct_60, ki_m1, ki_0, ki_1, ki_2, ki_3, ki_4, ki_5, kb_m2, kb_m3, kb_m4, kb_m8, kb_m9, kb_10, kb_100, kb_16, kb_36, kb_6, kb_63, kb_8, kb_9, kb_99, ks_216, ks_2520, ks_256, ks_800, kl_0, kl_1, ↓reduceIte, reduceCtorEq, Nat.reduceAdd, Nat.reduceLT, Nat.reduceLeDiff, Nat.reduceEqDiff, List.map_cons, List.map_nil, List.sum_cons, List.sum_nil, List.cons_append, List.nil_append, Option.toList_some, Option.toList_none, true_and, and_true, true_or, or_true, not_true_eq_false, not_false_eq_true, Nat.lt_add_one, Nat.zero_le, eq_self, or_false, false_or, implies_true, forall_const, false_implies, forall_false, true_implies, and_self, Nat.zero_lt_one, Nat.add_zero, Nat.zero_add, Int32.reduceLT, Int32.reduceLE, Int32.reduceAdd, Int32.reduceSub, Int32.reduceMul, e10, e01, ite_self, ab_mx, ab_mi, ab_mb, ab_ml2, uX7_spreadWithin, rX7_spreadWithin_0, rX7_spreadWithin_1, rX7_spreadWithin_2, rX7_spreadWithin_3, rX7_spreadWithin_5, rX7_spreadWithin_6, rX7_spreadWithin_8, rX7_spreadWithin_9]
  exact K
