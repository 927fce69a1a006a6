/-! coins: the class, the most groups -/
theorem ckL : (List.range 256).all (fun s => decide ((Int32.ofInt s &&& -Int32.ofInt s).toInt = lwN s)) = true := by decide +kernel
theorem lw_i {x : Int32} {s : Nat} (hx : x.toInt = s) (hs : s < 256) : (x &&& -x).toInt = lwN s := by
  have e : x = Int32.ofInt s := by rw [← hx, Int32.ofInt_toInt]
  rw [e]
  exact of_decide_eq_true (List.all_eq_true.mp ckL s (List.mem_range.mpr hs))
theorem ot_le {s : Nat} : otN s ≤ s := Nat.and_le_left
theorem k256 : (Int16.ofInt 256).toInt32 = (256 : Int32) := by decide
theorem ev_b {D : Nat → Int} {n s : Nat} {a b : Int32} (ha : a.toInt = smF D n s) (hb : b = bi (gdF D n s)) : evF D n s = true ↔ (a = 0 ∧ ¬ b = 0) := by
  unfold evF
  rw [Bool.and_eq_true, decide_eq_true_iff, hb]
  refine ⟨fun h => ⟨Int32.toInt_inj.mp (by rw [ha, h.2]; rfl), by rw [h.1]; decide⟩, fun h => ⟨?_, by rw [← ha, h.1]; rfl⟩⟩
  cases e : gdF D n s with
  | true => rfl
  | false => rw [e] at h; exact absurd rfl h.2
def gpH (σ : ab_S) (C : Nat → Int) (S : Nat) : Prop := ∀ s, s < S → (σ.1 10 0 s).toInt = C s ∧ -8 ≤ C s ∧ C s ≤ s
set_option maxRecDepth 100000 in
set_option maxHeartbeats 1000000 in
theorem sX2_mostGroupsF {σ : ab_S} {P : ab_P} {n s : Nat} {x1 : Int32} {D C : Nat → Int} (n8 : n ≤ 8) (hx : x1.toInt = s) (s0 : ¬ s = 0) (sN : s < 2 ^ n) (hs : scH σ D n (2 ^ n)) (hC : gpH σ C s) (hP : ∀ y : Int32, y.toInt = mgF (evF D n) C s (lwN s) (slF (otN s) 256 (otN s)) (-8) → P (some (.inl (.inl y))) σ) : ab_sp mX2_mostGroups cX2_mostGroups [.inr (some (6, 0)), .inl (.inl x1)] σ P := by
  have p8 := p2_8 n8
  have s256 : s < 256 := by omega
  have el := lw_i hx s256
  have ol := ot_le (s := s)
  have lw0 : lwN s ≤ s := Nat.sub_le _ _
  have eo : (x1 - (x1 &&& -x1)).toInt = otN s := by
    rw [i32_sub (by rw [el]; omega) (by rw [el]; omega), el, hx]
    unfold lwN
    omega
  obtain ⟨lw, hlw⟩ : ∃ lw, x1 &&& -x1 = lw := ⟨_, rfl⟩
  obtain ⟨ot, hot⟩ : ∃ ot, x1 - lw = ot := ⟨_, rfl⟩
  rw [hlw] at el eo
  rw [hot] at eo
  have i256 : (256 : Int32).toInt = 256 := rfl
  have loop : ∀ (k c : Nat) (mo so tr : Int32) (m : Int) (l7 : Option ab_V), tr.toInt + k = 256 → 0 ≤ tr.toInt → so.toInt = c → c < 256 → c &&& otN s = c → mo.toInt = m → -8 ≤ m → m ≤ 256 → (∀ y : Int32, y.toInt = mgF (evF D n) C s (lwN s) (slF (otN s) k c) m → P (some (.inl (.inl y))) σ) → ab_wp mX2_mostGroups cX2_mostGroups none P 20 [some (.inr (some (6, 0))), some (.inl (.inl x1)), some (.inl (.inl mo)), some (.inl (.inl lw)), some (.inl (.inl ot)), some (.inl (.inl so)), some (.inl (.inl tr)), l7] [] σ := by
    intro k
    induction k with
    | zero =>
      intro c mo so tr m l7 ek t0 hc c256 cm hm m0 m1 hP
      have q : (256 : Int32) ≤ tr := Int32.le_iff_toInt_le.mpr (by rw [i256]; omega)
      have Z := hP mo hm
      rw [rX2_mostGroups_20]
      simp only [ab_loc, ab_cat, ab_kil, ab_al, ab_ln, ab_lnp, ab_rf, sh_0, sh_1, sh_2, sh_3, sh_4, sh_5, sh_6, sh_7, sh_8, sh_9, sh_10, sh_11, sh_12, sh_13, sh_14, sh_20, sh_21, sh_22, sh_23, sh_24, sh_25, sh_30, sh_31, sh_32, sh_40, sh_41, sh_42, sh_43, sh_44, sh_45, sh_46, sh_47, sh_48, sh_49, sh_50, sh_51, sh_52, sh_53, sh_54, sh_55, sh_56, sh_57, sh_58, sh_59, sh_60, ct_0, ct_1, ct_2, ct_3, ct_4, ct_5, ct_6, ct_7, ct_8, ct_9, ct_10, ct_11, ct_12, ct_13, ct_14, ct_20, ct_21, ct_22, ct_23, ct_24, ct_25, ct_30, ct_31, ct_32, ct_40, ct_41, ct_42, ct_43, ct_44, ct_45, ct_46, ct_47, ct_48, ct_49, ct_50, ct_51, ct_52, ct_53, ct_54, ct_55, ct_56, ct_57, ct_58, ct_59, ct_60, ki_m1, ki_0, ki_1, ki_2, ki_3, ki_4, ki_5, kb_m2, kb_m3, kb_m4, kb_m8, kb_m9, kb_10, kb_100, kb_16, kb_36, kb_6, kb_63, kb_8, kb_9, kb_99, ks_216, ks_2520, ks_256, ks_800, kl_0, kl_1, ↓reduceIte, reduceCtorEq, Nat.reduceAdd, Nat.reduceLT, Nat.reduceLeDiff, Nat.reduceEqDiff, List.map_cons, List.map_nil, List.sum_cons, List.sum_nil, List.cons_append, List.nil_append, Option.toList_some, Option.toList_none, true_and, and_true, true_or, or_true, not_true_eq_false, not_false_eq_true, Nat.lt_add_one, Nat.zero_le, eq_self, or_false, false_or, implies_true, forall_const, false_implies, forall_false, true_implies, and_self, Nat.zero_lt_one, Nat.add_zero, Nat.zero_add, Int32.reduceLT, Int32.reduceLE, Int32.reduceAdd, Int32.reduceSub, Int32.reduceMul, e10, e01, ite_self, ab_mx, ab_mi, ab_mb, ab_ml2, rX2_mostGroups_22, rX2_mostGroups_25, rX2_mostGroups_93, rX2_mostGroups_94, k256, q]
      exact Z
    | succ k ih =>
      intro c mo so tr m l7 ek t0 hc c256 cm hm m0 m1 hP
      have q : ¬ (256 : Int32) ≤ tr := fun w => by have w := le32 w; rw [i256] at w; omega
      have et : (tr + 1).toInt = tr.toInt + 1 := i32_p1 (by omega)
      obtain ⟨g1, g2, g3⟩ := lwn_g s s256 s0 c c256 cm
      obtain ⟨q1, q2, q3⟩ := xr_sb s s256 _ g2 g1
      have eg : (so + lw).toInt = (c + lwN s : Nat) := by rw [i32_add (by omega) (by omega)]; omega
      have vg : vp_in (so + lw) 256 := vp_of (by omega) (by omega)
      have ng : (so + lw).toNatClampNeg = c + lwN s := by show (so + lw).toInt.toNat = _; omega
      have ed : (x1 - (so + lw)).toInt = (s - (c + lwN s) : Nat) := by rw [i32_sub (by omega) (by omega)]; omega
      have vd : vp_in (x1 - (so + lw)) 256 := vp_of (by omega) (by omega)
      have nd : (x1 - (so + lw)).toNatClampNeg = s - (c + lwN s) := by show (x1 - (so + lw)).toInt.toNat = _; omega
      have hcs := hs (c + lwN s) (by omega)
      have hev := ev_b hcs.1 hcs.2
      have G := hC (s - (c + lwN s)) (by omega)
      have eG : (σ.1 10 0 (s - (c + lwN s)) + 1).toInt = C (s - (c + lwN s)) + 1 := by rw [i32_p1 (by omega), G.1]
      -- behind the group
      have tail : ∀ (mo' : Int32) (m' : Int), mo'.toInt = m' → -8 ≤ m' → m' ≤ 256 → m' = (if evF D n (c + lwN s) = true ∧ m < C (s - (c + lwN s)) + 1 then C (s - (c + lwN s)) + 1 else m) → ab_wp mX2_mostGroups cX2_mostGroups none P 70 [some (.inr (some (6, 0))), some (.inl (.inl x1)), some (.inl (.inl mo')), some (.inl (.inl lw)), some (.inl (.inl ot)), some (.inl (.inl so)), some (.inl (.inl tr)), some (.inl (.inl (so + lw)))] [] σ := fun mo' m' hm' b0 b1 e => by
        have e1 : mgF (evF D n) C s (lwN s) (slF (otN s) (k + 1) c) m = mgF (evF D n) C s (lwN s) (if c = 0 then [] else slF (otN s) k ((c - 1) &&& otN s)) m' := by rw [e]; rfl
        rw [e1] at hP
        by_cases z : c = 0
        · have qz : (so = 0) = True := eq_true (Int32.toInt_inj.mp (by rw [hc, z]; rfl))
          rw [if_pos z] at hP
          have Z := hP mo' hm'
          simp only [ab_loc, ab_cat, ab_kil, ab_al, ab_ln, ab_lnp, ab_rf, sh_0, sh_1, sh_2, sh_3, sh_4, sh_5, sh_6, sh_7, sh_8, sh_9, sh_10, sh_11, sh_12, sh_13, sh_14, sh_20, sh_21, sh_22, sh_23, sh_24, sh_25, sh_30, sh_31, sh_32, sh_40, sh_41, sh_42, sh_43, sh_44, sh_45, sh_46, sh_47, sh_48, sh_49, sh_50, sh_51, sh_52, sh_53, sh_54, sh_55, sh_56, sh_57, sh_58, sh_59, sh_60, ct_0, ct_1, ct_2, ct_3, ct_4, ct_5, ct_6, ct_7, ct_8, ct_9, ct_10, ct_11, ct_12, ct_13, ct_14, ct_20, ct_21, ct_22, ct_23, ct_24, ct_25, ct_30, ct_31, ct_32, ct_40, ct_41, ct_42, ct_43, ct_44, ct_45, ct_46, ct_47, ct_48, ct_49, ct_50, ct_51, ct_52, ct_53, ct_54, ct_55, ct_56, ct_57, ct_58, ct_59, ct_60, ki_m1, ki_0, ki_1, ki_2, ki_3, ki_4, ki_5, kb_m2, kb_m3, kb_m4, kb_m8, kb_m9, kb_10, kb_100, kb_16, kb_36, kb_6, kb_63, kb_8, kb_9, kb_99, ks_216, ks_2520, ks_256, ks_800, kl_0, kl_1, ↓reduceIte, reduceCtorEq, Nat.reduceAdd, Nat.reduceLT, Nat.reduceLeDiff, Nat.reduceEqDiff, List.map_cons, List.map_nil, List.sum_cons, List.sum_nil, List.cons_append, List.nil_append, Option.toList_some, Option.toList_none, true_and, and_true, true_or, or_true, not_true_eq_false, not_false_eq_true, Nat.lt_add_one, Nat.zero_le, eq_self, or_false, false_or, implies_true, forall_const, false_implies, forall_false, true_implies, and_self, Nat.zero_lt_one, Nat.add_zero, Nat.zero_add, Int32.reduceLT, Int32.reduceLE, Int32.reduceAdd, Int32.reduceSub, Int32.reduceMul, e10, e01, ite_self, ab_mx, ab_mi, ab_mb, ab_ml2, rX2_mostGroups_70, rX2_mostGroups_72, rX2_mostGroups_75, rX2_mostGroups_93, rX2_mostGroups_94, qz]
          exact Z
        · have qz : (so = 0) = False := eq_false (fun w => z (by rw [w, t0i] at hc; omega))
          rw [if_neg z] at hP
          have e2 : (so - 1).toInt = (c - 1 : Nat) := by rw [i32_m1 (by omega)]; omega
          have ea := i32_andN e2 eo
          have al : (c - 1) &&& otN s ≤ c - 1 := Nat.and_le_left
          have Z := ih ((c - 1) &&& otN s) mo' ((so - 1) &&& ot) (tr + 1) m' (some (.inl (.inl (so + lw)))) (by omega) (by omega) ea (by omega) (by rw [Nat.and_assoc, Nat.and_self]) hm' b0 b1 hP
          simp only [ab_loc, ab_cat, ab_kil, ab_al, ab_ln, ab_lnp, ab_rf, sh_0, sh_1, sh_2, sh_3, sh_4, sh_5, sh_6, sh_7, sh_8, sh_9, sh_10, sh_11, sh_12, sh_13, sh_14, sh_20, sh_21, sh_22, sh_23, sh_24, sh_25, sh_30, sh_31, sh_32, sh_40, sh_41, sh_42, sh_43, sh_44, sh_45, sh_46, sh_47, sh_48, sh_49, sh_50, sh_51, sh_52, sh_53, sh_54, sh_55, sh_56, sh_57, sh_58, sh_59, sh_60, ct_0, ct_1, ct_2, ct_3, ct_4, ct_5, ct_6, ct_7, ct_8, ct_9, ct_10, ct_11, ct_12, ct_13, ct_14, ct_20, ct_21, ct_22, ct_23, ct_24, ct_25, ct_30, ct_31, ct_32, ct_40, ct_41, ct_42, ct_43, ct_44, ct_45, ct_46, ct_47, ct_48, ct_49, ct_50, ct_51, ct_52, ct_53, ct_54, ct_55, ct_56, ct_57, ct_58, ct_59, ct_60, ki_m1, ki_0, ki_1, ki_2, ki_3, ki_4, ki_5, kb_m2, kb_m3, kb_m4, kb_m8, kb_m9, kb_10, kb_100, kb_16, kb_36, kb_6, kb_63, kb_8, kb_9, kb_99, ks_216, ks_2520, ks_256, ks_800, kl_0, kl_1, ↓reduceIte, reduceCtorEq, Nat.reduceAdd, Nat.reduceLT, Nat.reduceLeDiff, Nat.reduceEqDiff, List.map_cons, List.map_nil, List.sum_cons, List.sum_nil, List.cons_append, List.nil_append, Option.toList_some, Option.toList_none, true_and, and_true, true_or, or_true, not_true_eq_false, not_false_eq_true, Nat.lt_add_one, Nat.zero_le, eq_self, or_false, false_or, implies_true, forall_const, false_implies, forall_false, true_implies, and_self, Nat.zero_lt_one, Nat.add_zero, Nat.zero_add, Int32.reduceLT, Int32.reduceLE, Int32.reduceAdd, Int32.reduceSub, Int32.reduceMul, e10, e01, ite_self, ab_mx, ab_mi, ab_mb, ab_ml2, rX2_mostGroups_70, rX2_mostGroups_72, rX2_mostGroups_75, rX2_mostGroups_78, rX2_mostGroups_80, rX2_mostGroups_81, rX2_mostGroups_82, rX2_mostGroups_84, rX2_mostGroups_85, rX2_mostGroups_87, rX2_mostGroups_90, qz]
          exact Z
      rw [rX2_mostGroups_20]
      by_cases a : σ.1 8 0 (c + lwN s) = 0
      · have qa : (σ.1 8 0 (c + lwN s) = 0) = True := eq_true a
        by_cases b : σ.1 9 0 (c + lwN s) = 0
        · have qb : (σ.1 9 0 (c + lwN s) = 0) = True := eq_true b
          have Z := tail mo m hm m0 m1 (by rw [if_neg (fun w => (hev.mp w.1).2 b)])
          simp only [ab_loc, ab_cat, ab_kil, ab_al, ab_ln, ab_lnp, ab_rf, sh_0, sh_1, sh_2, sh_3, sh_4, sh_5, sh_6, sh_7, sh_8, sh_9, sh_10, sh_11, sh_12, sh_13, sh_14, sh_20, sh_21, sh_22, sh_23, sh_24, sh_25, sh_30, sh_31, sh_32, sh_40, sh_41, sh_42, sh_43, sh_44, sh_45, sh_46, sh_47, sh_48, sh_49, sh_50, sh_51, sh_52, sh_53, sh_54, sh_55, sh_56, sh_57, sh_58, sh_59, sh_60, ct_0, ct_1, ct_2, ct_3, ct_4, ct_5, ct_6, ct_7, ct_8, ct_9, ct_10, ct_11, ct_12, ct_13, ct_14, ct_20, ct_21, ct_22, ct_23, ct_24, ct_25, ct_30, ct_31, ct_32, ct_40, ct_41, ct_42, ct_43, ct_44, ct_45, ct_46, ct_47, ct_48, ct_49, ct_50, ct_51, ct_52, ct_53, ct_54, ct_55, ct_56, ct_57, ct_58, ct_59, ct_60, ki_m1, ki_0, ki_1, ki_2, ki_3, ki_4, ki_5, kb_m2, kb_m3, kb_m4, kb_m8, kb_m9, kb_10, kb_100, kb_16, kb_36, kb_6, kb_63, kb_8, kb_9, kb_99, ks_216, ks_2520, ks_256, ks_800, kl_0, kl_1, ↓reduceIte, reduceCtorEq, Nat.reduceAdd, Nat.reduceLT, Nat.reduceLeDiff, Nat.reduceEqDiff, List.map_cons, List.map_nil, List.sum_cons, List.sum_nil, List.cons_append, List.nil_append, Option.toList_some, Option.toList_none, true_and, and_true, true_or, or_true, not_true_eq_false, not_false_eq_true, Nat.lt_add_one, Nat.zero_le, eq_self, or_false, false_or, implies_true, forall_const, false_implies, forall_false, true_implies, and_self, Nat.zero_lt_one, Nat.add_zero, Nat.zero_add, Int32.reduceLT, Int32.reduceLE, Int32.reduceAdd, Int32.reduceSub, Int32.reduceMul, e10, e01, ite_self, ab_mx, ab_mi, ab_mb, ab_ml2, rX2_mostGroups_22, rX2_mostGroups_25, rX2_mostGroups_28, rX2_mostGroups_30, rX2_mostGroups_31, rX2_mostGroups_32, rX2_mostGroups_34, rX2_mostGroups_35, rX2_mostGroups_38, rX2_mostGroups_40, rX2_mostGroups_41, rX2_mostGroups_44, rX2_mostGroups_45, rX2_mostGroups_48, rX2_mostGroups_50, rX2_mostGroups_51, k256, q, vg, ng, qa, qb]
          exact Z
        · have qb : (σ.1 9 0 (c + lwN s) = 0) = False := eq_false b
          have hev := hev.mpr ⟨a, b⟩
          by_cases d : m < C (s - (c + lwN s)) + 1
          · have qd : mo < σ.1 10 0 (s - (c + lwN s)) + 1 := Int32.lt_iff_toInt_lt.mpr (by rw [hm, eG]; exact d)
            have Z := tail (σ.1 10 0 (s - (c + lwN s)) + 1) (C (s - (c + lwN s)) + 1) eG (by omega) (by omega) (by rw [if_pos ⟨hev, d⟩])
            simp only [ab_loc, ab_cat, ab_kil, ab_al, ab_ln, ab_lnp, ab_rf, sh_0, sh_1, sh_2, sh_3, sh_4, sh_5, sh_6, sh_7, sh_8, sh_9, sh_10, sh_11, sh_12, sh_13, sh_14, sh_20, sh_21, sh_22, sh_23, sh_24, sh_25, sh_30, sh_31, sh_32, sh_40, sh_41, sh_42, sh_43, sh_44, sh_45, sh_46, sh_47, sh_48, sh_49, sh_50, sh_51, sh_52, sh_53, sh_54, sh_55, sh_56, sh_57, sh_58, sh_59, sh_60, ct_0, ct_1, ct_2, ct_3, ct_4, ct_5, ct_6, ct_7, ct_8, ct_9, ct_10, ct_11, ct_12, ct_13, ct_14, ct_20, ct_21, ct_22, ct_23, ct_24, ct_25, ct_30, ct_31, ct_32, ct_40, ct_41, ct_42, ct_43, ct_44, ct_45, ct_46, ct_47, ct_48, ct_49, ct_50, ct_51, ct_52, ct_53, ct_54, ct_55, ct_56, ct_57, ct_58, ct_59, ct_60, ki_m1, ki_0, ki_1, ki_2, ki_3, ki_4, ki_5, kb_m2, kb_m3, kb_m4, kb_m8, kb_m9, kb_10, kb_100, kb_16, kb_36, kb_6, kb_63, kb_8, kb_9, kb_99, ks_216, ks_2520, ks_256, ks_800, kl_0, kl_1, ↓reduceIte, reduceCtorEq, Nat.reduceAdd, Nat.reduceLT, Nat.reduceLeDiff, Nat.reduceEqDiff, List.map_cons, List.map_nil, List.sum_cons, List.sum_nil, List.cons_append, List.nil_append, Option.toList_some, Option.toList_none, true_and, and_true, true_or, or_true, not_true_eq_false, not_false_eq_true, Nat.lt_add_one, Nat.zero_le, eq_self, or_false, false_or, implies_true, forall_const, false_implies, forall_false, true_implies, and_self, Nat.zero_lt_one, Nat.add_zero, Nat.zero_add, Int32.reduceLT, Int32.reduceLE, Int32.reduceAdd, Int32.reduceSub, Int32.reduceMul, e10, e01, ite_self, ab_mx, ab_mi, ab_mb, ab_ml2, rX2_mostGroups_22, rX2_mostGroups_25, rX2_mostGroups_28, rX2_mostGroups_30, rX2_mostGroups_31, rX2_mostGroups_32, rX2_mostGroups_34, rX2_mostGroups_35, rX2_mostGroups_38, rX2_mostGroups_40, rX2_mostGroups_41, rX2_mostGroups_44, rX2_mostGroups_45, rX2_mostGroups_48, rX2_mostGroups_50, rX2_mostGroups_51, rX2_mostGroups_54, rX2_mostGroups_55, rX2_mostGroups_56, rX2_mostGroups_59, rX2_mostGroups_60, rX2_mostGroups_62, rX2_mostGroups_63, rX2_mostGroups_64, rX2_mostGroups_65, rX2_mostGroups_66, rX2_mostGroups_69, k256, q, vg, ng, qa, qb, vd, nd, qd]
            exact Z
          · have qd : ¬ mo < σ.1 10 0 (s - (c + lwN s)) + 1 := fun w => by have w := lt32 w; rw [hm, eG] at w; exact d w
            have Z := tail mo m hm m0 m1 (by rw [if_neg (fun w => d w.2)])
            simp only [ab_loc, ab_cat, ab_kil, ab_al, ab_ln, ab_lnp, ab_rf, sh_0, sh_1, sh_2, sh_3, sh_4, sh_5, sh_6, sh_7, sh_8, sh_9, sh_10, sh_11, sh_12, sh_13, sh_14, sh_20, sh_21, sh_22, sh_23, sh_24, sh_25, sh_30, sh_31, sh_32, sh_40, sh_41, sh_42, sh_43, sh_44, sh_45, sh_46, sh_47, sh_48, sh_49, sh_50, sh_51, sh_52, sh_53, sh_54, sh_55, sh_56, sh_57, sh_58, sh_59, sh_60, ct_0, ct_1, ct_2, ct_3, ct_4, ct_5, ct_6, ct_7, ct_8, ct_9, ct_10, ct_11, ct_12, ct_13, ct_14, ct_20, ct_21, ct_22, ct_23, ct_24, ct_25, ct_30, ct_31, ct_32, ct_40, ct_41, ct_42, ct_43, ct_44, ct_45, ct_46, ct_47, ct_48, ct_49, ct_50, ct_51, ct_52, ct_53, ct_54, ct_55, ct_56, ct_57, ct_58, ct_59, ct_60, ki_m1, ki_0, ki_1, ki_2, ki_3, ki_4, ki_5, kb_m2, kb_m3, kb_m4, kb_m8, kb_m9, kb_10, kb_100, kb_16, kb_36, kb_6, kb_63, kb_8, kb_9, kb_99, ks_216, ks_2520, ks_256, ks_800, kl_0, kl_1, ↓reduceIte, reduceCtorEq, Nat.reduceAdd, Nat.reduceLT, Nat.reduceLeDiff, Nat.reduceEqDiff, List.map_cons, List.map_nil, List.sum_cons, List.sum_nil, List.cons_append, List.nil_append, Option.toList_some, Option.toList_none, true_and, and_true, true_or, or_true, not_true_eq_false, not_false_eq_true, Nat.lt_add_one, Nat.zero_le, eq_self, or_false, false_or, implies_true, forall_const, false_implies, forall_false, true_implies, and_self, Nat.zero_lt_one, Nat.add_zero, Nat.zero_add, Int32.reduceLT, Int32.reduceLE, Int32.reduceAdd, Int32.reduceSub, Int32.reduceMul, e10, e01, ite_self, ab_mx, ab_mi, ab_mb, ab_ml2, rX2_mostGroups_22, rX2_mostGroups_25, rX2_mostGroups_28, rX2_mostGroups_30, rX2_mostGroups_31, rX2_mostGroups_32, rX2_mostGroups_34, rX2_mostGroups_35, rX2_mostGroups_38, rX2_mostGroups_40, rX2_mostGroups_41, rX2_mostGroups_44, rX2_mostGroups_45, rX2_mostGroups_48, rX2_mostGroups_50, rX2_mostGroups_51, rX2_mostGroups_54, rX2_mostGroups_55, rX2_mostGroups_56, rX2_mostGroups_59, rX2_mostGroups_60, rX2_mostGroups_62, rX2_mostGroups_63, rX2_mostGroups_64, rX2_mostGroups_65, rX2_mostGroups_66, rX2_mostGroups_69, k256, q, vg, ng, qa, qb, vd, nd, qd]
            exact Z
      · have qa : (σ.1 8 0 (c + lwN s) = 0) = False := eq_false a
        have Z := tail mo m hm m0 m1 (by rw [if_neg (fun w => a (hev.mp w.1).1)])
        simp only [ab_loc, ab_cat, ab_kil, ab_al, ab_ln, ab_lnp, ab_rf, sh_0, sh_1, sh_2, sh_3, sh_4, sh_5, sh_6, sh_7, sh_8, sh_9, sh_10, sh_11, sh_12, sh_13, sh_14, sh_20, sh_21, sh_22, sh_23, sh_24, sh_25, sh_30, sh_31, sh_32, sh_40, sh_41, sh_42, sh_43, sh_44, sh_45, sh_46, sh_47, sh_48, sh_49, sh_50, sh_51, sh_52, sh_53, sh_54, sh_55, sh_56, sh_57, sh_58, sh_59, sh_60, ct_0, ct_1, ct_2, ct_3, ct_4, ct_5, ct_6, ct_7, ct_8, ct_9, ct_10, ct_11, ct_12, ct_13, ct_14, ct_20, ct_21, ct_22, ct_23, ct_24, ct_25, ct_30, ct_31, ct_32, ct_40, ct_41, ct_42, ct_43, ct_44, ct_45, ct_46, ct_47, ct_48, ct_49, ct_50, ct_51, ct_52, ct_53, ct_54, ct_55, ct_56, ct_57, ct_58, ct_59, ct_60, ki_m1, ki_0, ki_1, ki_2, ki_3, ki_4, ki_5, kb_m2, kb_m3, kb_m4, kb_m8, kb_m9, kb_10, kb_100, kb_16, kb_36, kb_6, kb_63, kb_8, kb_9, kb_99, ks_216, ks_2520, ks_256, ks_800, kl_0, kl_1, ↓reduceIte, reduceCtorEq, Nat.reduceAdd, Nat.reduceLT, Nat.reduceLeDiff, Nat.reduceEqDiff, List.map_cons, List.map_nil, List.sum_cons, List.sum_nil, List.cons_append, List.nil_append, Option.toList_some, Option.toList_none, true_and, and_true, true_or, or_true, not_true_eq_false, not_false_eq_true, Nat.lt_add_one, Nat.zero_le, eq_self, or_false, false_or, implies_true, forall_const, false_implies, forall_false, true_implies, and_self, Nat.zero_lt_one, Nat.add_zero, Nat.zero_add, Int32.reduceLT, Int32.reduceLE, Int32.reduceAdd, Int32.reduceSub, Int32.reduceMul, e10, e01, ite_self, ab_mx, ab_mi, ab_mb, ab_ml2, rX2_mostGroups_22, rX2_mostGroups_25, rX2_mostGroups_28, rX2_mostGroups_30, rX2_mostGroups_31, rX2_mostGroups_32, rX2_mostGroups_34, rX2_mostGroups_35, rX2_mostGroups_38, rX2_mostGroups_40, rX2_mostGroups_41, k256, q, vg, ng, qa]
        exact Z
  have Z := loop 256 (otN s) (-8) ot 0 (-8) none rfl (by decide) eo (by omega) (Nat.and_self _) rfl (by decide) (by decide) hP
  simp only [ab_loc, ab_cat, ab_kil, ab_al, ab_ln, ab_lnp, ab_rf, sh_0, sh_1, sh_2, sh_3, sh_4, sh_5, sh_6, sh_7, sh_8, sh_9, sh_10, sh_11, sh_12, sh_13, sh_14, sh_20, sh_21, sh_22, sh_23, sh_24, sh_25, sh_30, sh_31, sh_32, sh_40, sh_41, sh_42, sh_43, sh_44, sh_45, sh_46, sh_47, sh_48, sh_49, sh_50, sh_51, sh_52, sh_53, sh_54, sh_55, sh_56, sh_57, sh_58, sh_59, sh_60, ct_0, ct_1, ct_2, ct_3, ct_4, ct_5, ct_6, ct_7, ct_8, ct_9, ct_10, ct_11, ct_12, ct_13, ct_14, ct_20, ct_21, ct_22, ct_23, ct_24, ct_25, ct_30, ct_31, ct_32, ct_40, ct_41, ct_42, ct_43, ct_44, ct_45, ct_46, ct_47, ct_48, ct_49, ct_50, ct_51, ct_52, ct_53, ct_54, ct_55, ct_56, ct_57, ct_58, ct_59, ct_60, ki_m1, ki_0, ki_1, ki_2, ki_3, ki_4, ki_5, kb_m2, kb_m3, kb_m4, kb_m8, kb_m9, kb_10, kb_100, kb_16, kb_36, kb_6, kb_63, kb_8, kb_9, kb_99, ks_216, ks_2520, ks_256, ks_800, kl_0, kl_1, ↓reduceIte, reduceCtorEq, Nat.reduceAdd, Nat.reduceLT, Nat.reduceLeDiff, Nat.reduceEqDiff, List.map_cons, List.map_nil, List.sum_cons, List.sum_nil, List.cons_append, List.nil_append, Option.toList_some, Option.toList_none, true_and, and_true, true_or, or_true, not_true_eq_false, not_false_eq_true, Nat.lt_add_one, Nat.zero_le, eq_self, or_false, false_or, implies_true, forall_const, false_implies, forall_false, true_implies, and_self, Nat.zero_lt_one, Nat.add_zero, Nat.zero_add, Int32.reduceLT, Int32.reduceLE, Int32.reduceAdd, Int32.reduceSub, Int32.reduceMul, e10, e01, ite_self, ab_mx, ab_mi, ab_mb, ab_ml2, uX2_mostGroups, rX2_mostGroups_0, rX2_mostGroups_2, rX2_mostGroups_3, rX2_mostGroups_4, rX2_mostGroups_5, rX2_mostGroups_6, rX2_mostGroups_7, rX2_mostGroups_8, rX2_mostGroups_9, rX2_mostGroups_10, rX2_mostGroups_11, rX2_mostGroups_13, rX2_mostGroups_15, rX2_mostGroups_17, rX2_mostGroups_18, hlw, hot]
  exact Z
theorem cg_e {ev : Nat → Bool} {S : Nat} {C C' : Nat → Int} (S0 : 0 < S) (hS : S < 256) (h : cgP ev S C) (e : ∀ s, s < S → C' s = C s) (hm : C' S = mgF ev C S (lwN S) (slF (otN S) 256 (otN S)) (-8)) : cgP ev (S + 1) C' := by
  have mp := mg_p (ev := ev) (C := C) (s := S) (lw := lwN S) (l := slF (otN S) 256 (otN S)) (m := -8)
  have o256 : otN S < 256 := by have := ot_le (s := S); omega
  have sub : ∀ s x, 0 < s → s < 256 → x < 256 → x &&& otN s = x → s - (x + lwN s) < s := fun s x h0 h1 h2 h3 => by
    obtain ⟨g1, g2, g3⟩ := lwn_g s h1 (by omega) x h2 h3
    omega
  refine ⟨by rw [e 0 S0]; exact h.1, fun s h0 h1 x hx hm' hev => ?_, fun s h0 h1 => ?_⟩
  · by_cases z : s = S
    · subst z
      rw [e _ (sub s x h0 hS hx hm'), hm]
      exact mp.2.1 x ((sl_mem o256).mpr ⟨hx, hm'⟩) hev
    · have l := sub s x h0 (by omega) hx hm'
      rw [e _ (by omega), e s (by omega)]
      exact h.2.1 s h0 (by omega) x hx hm' hev
  · by_cases z : s = S
    · subst z
      rcases mp.2.2 with w | ⟨x, w1, w2, w3⟩
      · exact Or.inl (by rw [hm]; exact w)
      · obtain ⟨k1, k2⟩ := (sl_mem o256).mp w1
        exact Or.inr ⟨x, k1, k2, w2, by rw [hm, w3, e _ (sub s x h0 hS k1 k2)]⟩
    · rcases h.2.2 s h0 (by omega) with w | ⟨x, w1, w2, w3, w4⟩
      · exact Or.inl (by rw [e s (by omega)]; exact w)
      · have l := sub s x h0 (by omega) w1 w2
        exact Or.inr ⟨x, w1, w2, w3, by rw [e s (by omega), e _ (by omega)]; exact w4⟩
def cbS (k _ _ : Nat) : Bool := Nat.beq k 7 || (Nat.beq k 8 || (Nat.beq k 9 || Nat.beq k 10))
theorem cbs_d : ∀ k i j, duS k i j = true → cbS k i j = true := fun k i j h => by
  have h : Nat.beq k 7 = true := h
  unfold cbS
  rw [h]; rfl
theorem cbs_f : ∀ k i j, fsS k i j = true → cbS k i j = true := fun k i j h => by
  rcases (Bool.or_eq_true _ _).mp h with h | h
  · rw [Nat.eq_of_beq_eq_true h]; rfl
  · rw [Nat.eq_of_beq_eq_true h]; rfl
theorem cbs_w : ∀ k i j, cbS k i j = true → ck_wr 0 k j = true := fun k i j h => by
  rcases (Bool.or_eq_true _ _).mp h with h | h
  · rw [Nat.eq_of_beq_eq_true h]; rfl
  · rcases (Bool.or_eq_true _ _).mp h with h | h
    · rw [Nat.eq_of_beq_eq_true h]; rfl
    · rcases (Bool.or_eq_true _ _).mp h with h | h
      · rw [Nat.eq_of_beq_eq_true h]; rfl
      · rw [Nat.eq_of_beq_eq_true h]; rfl
theorem du_b {g h : Nat → Int} {n : Nat} (bg : ∀ j, j < n → 0 ≤ g j ∧ g j ≤ 99) (bh : ∀ j, j < n → 0 ≤ h j ∧ h j ≤ 99) : ∀ k, k < n → -99 ≤ duI g h n k ∧ duI g h n k ≤ 99 := fun k hk => by
  have a := (rk_at (g := g) (z := fun _ => 1) (n := n)).2 k hk
  have b := (rk_at (g := h) (z := fun _ => 1) (n := n)).2 k hk
  have c := (srt_b (sc := 0) (g := g) (z := fun _ => 1) bg (fun _ _ => ⟨by decide, by decide⟩) k hk).1
  have d := (srt_b (sc := 0) (g := h) (z := fun _ => 1) bh (fun _ _ => ⟨by decide, by decide⟩) k hk).1
  unfold duI
  omega
set_option maxRecDepth 100000 in
set_option maxHeartbeats 1000000 in
theorem sX2_betweenF {σ : ab_S} {P : ab_P} {t1 t2 n : Nat} {g h : Nat → Int} (hr : rg_R σ) (h1 : t1 < 4) (h2 : t2 < 4) (hn1 : (σ.1 20 t1 0).toInt = n) (hn2 : (σ.1 20 t2 0).toInt = n) (n8 : n ≤ 8) (hg : ∀ j, j < n → (σ.1 21 t1 j).toInt = g j) (hh : ∀ j, j < n → (σ.1 21 t2 j).toInt = h j) (bg : ∀ j, j < n → 0 ≤ g j ∧ g j ≤ 99) (bh : ∀ j, j < n → 0 ≤ h j ∧ h j ≤ 99) (hN : gdF (duI g h n) n (2 ^ n - 1) = false → ∀ σ', fr cbS σ σ' → P (some (.inl (.inl (-9)))) σ') (hP : gdF (duI g h n) n (2 ^ n - 1) = true → ∀ (σ' : ab_S) (C : Nat → Int) (y : Int32), fr cbS σ σ' → cgP (evF (duI g h n) n) (2 ^ n) C → -8 ≤ C (2 ^ n - 1) → C (2 ^ n - 1) ≤ 256 → y.toInt = n - C (2 ^ n - 1) → P (some (.inl (.inl y))) σ') : ab_sp mX2_between cX2_between [.inr (some (6, 0)), .inr (some (20, t1)), .inr (some (20, t2))] σ P := by
  have p8 := p2_8 n8
  have c8 : ¬ (8 : Int32) < σ.1 20 t1 0 := fun w => by have w := lt32 w; rw [show (8 : Int32).toInt = 8 from rfl] at w; omega
  have es := shl_N hn1 n8
  obtain ⟨x, hx⟩ : ∃ x, σ.1 20 t1 0 = x := ⟨_, rfl⟩
  rw [hx] at es c8
  have hnx : x.toInt = n := by rw [← hx]; exact hn1
  obtain ⟨st, hst⟩ : ∃ st, (1 : Int32) <<< (x &&& 31) = st := ⟨_, rfl⟩
  rw [hst] at es
  have e1 : (st - 1).toInt = (2 ^ n - 1 : Nat) := by rw [i32_m1 (by omega)]; omega
  have v1 : vp_in (st - 1) 256 := vp_of (by omega) (by omega)
  have n1 : (st - 1).toNatClampNeg = 2 ^ n - 1 := by show (st - 1).toInt.toNat = _; omega
  have v0 : vp_in (0 : Int32) 256 := vp_of (by decide) (by decide)
  have n0 : (0 : Int32).toNatClampNeg = 0 := rfl
  have bD := du_b bg bh
  simp only [ab_loc, ab_cat, ab_kil, ab_al, ab_ln, ab_lnp, ab_rf, sh_0, sh_1, sh_2, sh_3, sh_4, sh_5, sh_6, sh_7, sh_8, sh_9, sh_10, sh_11, sh_12, sh_13, sh_14, sh_20, sh_21, sh_22, sh_23, sh_24, sh_25, sh_30, sh_31, sh_32, sh_40, sh_41, sh_42, sh_43, sh_44, sh_45, sh_46, sh_47, sh_48, sh_49, sh_50, sh_51, sh_52, sh_53, sh_54, sh_55, sh_56, sh_57, sh_58, sh_59, sh_60, ct_0, ct_1, ct_2, ct_3, ct_4, ct_5, ct_6, ct_7, ct_8, ct_9, ct_10, ct_11, ct_12, ct_13, ct_14, ct_20, ct_21, ct_22, ct_23, ct_24, ct_25, ct_30, ct_31, ct_32, ct_40, ct_41, ct_42, ct_43, ct_44, ct_45, ct_46, ct_47, ct_48, ct_49, ct_50, ct_51, ct_52, ct_53, ct_54, ct_55, ct_56, ct_57, ct_58, ct_59, ct_60, ki_m1, ki_0, ki_1, ki_2, ki_3, ki_4, ki_5, kb_m2, kb_m3, kb_m4, kb_m8, kb_m9, kb_10, kb_100, kb_16, kb_36, kb_6, kb_63, kb_8, kb_9, kb_99, ks_216, ks_2520, ks_256, ks_800, kl_0, kl_1, ↓reduceIte, reduceCtorEq, Nat.reduceAdd, Nat.reduceLT, Nat.reduceLeDiff, Nat.reduceEqDiff, List.map_cons, List.map_nil, List.sum_cons, List.sum_nil, List.cons_append, List.nil_append, Option.toList_some, Option.toList_none, true_and, and_true, true_or, or_true, not_true_eq_false, not_false_eq_true, Nat.lt_add_one, Nat.zero_le, eq_self, or_false, false_or, implies_true, forall_const, false_implies, forall_false, true_implies, and_self, Nat.zero_lt_one, Nat.add_zero, Nat.zero_add, Int32.reduceLT, Int32.reduceLE, Int32.reduceAdd, Int32.reduceSub, Int32.reduceMul, e10, e01, ite_self, ab_mx, ab_mi, ab_mb, ab_ml2, uX2_between, rX2_between_0, rX2_between_1, rX2_between_4, rX2_between_6, rX2_between_9, rX2_between_10, rX2_between_11, rX2_between_12, rX2_between_13, rX2_between_15, rX2_between_16, rX2_between_17, rX2_between_18, rX2_between_19, h1, hx, c8, hst]
  refine sX2_putDueF hr h1 h2 hn1 hn2 n8 hg hh bg bh hnx (fun d fd hD => ?_)
  simp only [ab_loc, ab_cat, ab_kil, ab_al, ab_ln, ab_lnp, ab_rf, sh_0, sh_1, sh_2, sh_3, sh_4, sh_5, sh_6, sh_7, sh_8, sh_9, sh_10, sh_11, sh_12, sh_13, sh_14, sh_20, sh_21, sh_22, sh_23, sh_24, sh_25, sh_30, sh_31, sh_32, sh_40, sh_41, sh_42, sh_43, sh_44, sh_45, sh_46, sh_47, sh_48, sh_49, sh_50, sh_51, sh_52, sh_53, sh_54, sh_55, sh_56, sh_57, sh_58, sh_59, sh_60, ct_0, ct_1, ct_2, ct_3, ct_4, ct_5, ct_6, ct_7, ct_8, ct_9, ct_10, ct_11, ct_12, ct_13, ct_14, ct_20, ct_21, ct_22, ct_23, ct_24, ct_25, ct_30, ct_31, ct_32, ct_40, ct_41, ct_42, ct_43, ct_44, ct_45, ct_46, ct_47, ct_48, ct_49, ct_50, ct_51, ct_52, ct_53, ct_54, ct_55, ct_56, ct_57, ct_58, ct_59, ct_60, ki_m1, ki_0, ki_1, ki_2, ki_3, ki_4, ki_5, kb_m2, kb_m3, kb_m4, kb_m8, kb_m9, kb_10, kb_100, kb_16, kb_36, kb_6, kb_63, kb_8, kb_9, kb_99, ks_216, ks_2520, ks_256, ks_800, kl_0, kl_1, ↓reduceIte, reduceCtorEq, Nat.reduceAdd, Nat.reduceLT, Nat.reduceLeDiff, Nat.reduceEqDiff, List.map_cons, List.map_nil, List.sum_cons, List.sum_nil, List.cons_append, List.nil_append, Option.toList_some, Option.toList_none, true_and, and_true, true_or, or_true, not_true_eq_false, not_false_eq_true, Nat.lt_add_one, Nat.zero_le, eq_self, or_false, false_or, implies_true, forall_const, false_implies, forall_false, true_implies, and_self, Nat.zero_lt_one, Nat.add_zero, Nat.zero_add, Int32.reduceLT, Int32.reduceLE, Int32.reduceAdd, Int32.reduceSub, Int32.reduceMul, e10, e01, ite_self, ab_mx, ab_mi, ab_mb, ab_ml2, rX2_between_22, rX2_between_23, rX2_between_24]
  refine sX2_findSumsF fd.1 n8 hnx hD bD (fun e fe hs => ?_)
  have f2 : fr cbS σ e := (fd.w cbs_d).tr (fe.w cbs_f)
  have full := (hs (2 ^ n - 1) (by omega)).2
  by_cases a : gdF (duI g h n) n (2 ^ n - 1) = true
  · rw [a] at full
    have full : e.1 9 0 (2 ^ n - 1) = 1 := full
    have hP := hP a
    have loop : ∀ (r S : Nat) (se : Int32) (d : ab_S), S + r = 2 ^ n → 0 < S → se.toInt = S → fr cbS σ d → scH d (duI g h n) n (2 ^ n) → gpH d (fun s => (d.1 10 0 s).toInt) S → cgP (evF (duI g h n) n) S (fun s => (d.1 10 0 s).toInt) → ab_wp mX2_between cX2_between none P 52 [some (.inr (some (6, 0))), some (.inr (some (20, t1))), some (.inr (some (20, t2))), some (.inl (.inl x)), some (.inl (.inl st)), some (.inl (.inl se))] [] d := by
      intro r
      induction r with
      | zero =>
        intro S se d er S0 hse fd hs hg hc
        have q : st ≤ se := Int32.le_iff_toInt_le.mpr (by omega)
        rw [show S = 2 ^ n by omega] at hg hc
        have G := hg (2 ^ n - 1) (by omega)
        have Z := hP d (fun s => (d.1 10 0 s).toInt) (x - d.1 10 0 (2 ^ n - 1)) fd hc G.2.1 (by have := G.2.2; omega) (by
          have := G.2.2
          have := G.2.1
          rw [i32_sub (by omega) (by omega), hnx])
        rw [rX2_between_52]
        simp only [ab_loc, ab_cat, ab_kil, ab_al, ab_ln, ab_lnp, ab_rf, sh_0, sh_1, sh_2, sh_3, sh_4, sh_5, sh_6, sh_7, sh_8, sh_9, sh_10, sh_11, sh_12, sh_13, sh_14, sh_20, sh_21, sh_22, sh_23, sh_24, sh_25, sh_30, sh_31, sh_32, sh_40, sh_41, sh_42, sh_43, sh_44, sh_45, sh_46, sh_47, sh_48, sh_49, sh_50, sh_51, sh_52, sh_53, sh_54, sh_55, sh_56, sh_57, sh_58, sh_59, sh_60, ct_0, ct_1, ct_2, ct_3, ct_4, ct_5, ct_6, ct_7, ct_8, ct_9, ct_10, ct_11, ct_12, ct_13, ct_14, ct_20, ct_21, ct_22, ct_23, ct_24, ct_25, ct_30, ct_31, ct_32, ct_40, ct_41, ct_42, ct_43, ct_44, ct_45, ct_46, ct_47, ct_48, ct_49, ct_50, ct_51, ct_52, ct_53, ct_54, ct_55, ct_56, ct_57, ct_58, ct_59, ct_60, ki_m1, ki_0, ki_1, ki_2, ki_3, ki_4, ki_5, kb_m2, kb_m3, kb_m4, kb_m8, kb_m9, kb_10, kb_100, kb_16, kb_36, kb_6, kb_63, kb_8, kb_9, kb_99, ks_216, ks_2520, ks_256, ks_800, kl_0, kl_1, ↓reduceIte, reduceCtorEq, Nat.reduceAdd, Nat.reduceLT, Nat.reduceLeDiff, Nat.reduceEqDiff, List.map_cons, List.map_nil, List.sum_cons, List.sum_nil, List.cons_append, List.nil_append, Option.toList_some, Option.toList_none, true_and, and_true, true_or, or_true, not_true_eq_false, not_false_eq_true, Nat.lt_add_one, Nat.zero_le, eq_self, or_false, false_or, implies_true, forall_const, false_implies, forall_false, true_implies, and_self, Nat.zero_lt_one, Nat.add_zero, Nat.zero_add, Int32.reduceLT, Int32.reduceLE, Int32.reduceAdd, Int32.reduceSub, Int32.reduceMul, e10, e01, ite_self, ab_mx, ab_mi, ab_mb, ab_ml2, rX2_between_54, rX2_between_56, rX2_between_78, rX2_between_79, rX2_between_80, rX2_between_83, rX2_between_85, rX2_between_86, rX2_between_87, rX2_between_88, rX2_between_89, q, v1, n1]
        exact Z
      | succ r ih =>
        intro S se d er S0 hse fd hs hg hc
        have q : ¬ st ≤ se := fun w => by have w := le32 w; omega
        have e2 : (se + 1).toInt = (S + 1 : Nat) := by rw [i32_p1 (by omega)]; omega
        have vS : vp_in se 256 := vp_of (by omega) (by omega)
        have nS : se.toNatClampNeg = S := by show se.toInt.toNat = S; omega
        rw [rX2_between_52]
        simp only [ab_loc, ab_cat, ab_kil, ab_al, ab_ln, ab_lnp, ab_rf, sh_0, sh_1, sh_2, sh_3, sh_4, sh_5, sh_6, sh_7, sh_8, sh_9, sh_10, sh_11, sh_12, sh_13, sh_14, sh_20, sh_21, sh_22, sh_23, sh_24, sh_25, sh_30, sh_31, sh_32, sh_40, sh_41, sh_42, sh_43, sh_44, sh_45, sh_46, sh_47, sh_48, sh_49, sh_50, sh_51, sh_52, sh_53, sh_54, sh_55, sh_56, sh_57, sh_58, sh_59, sh_60, ct_0, ct_1, ct_2, ct_3, ct_4, ct_5, ct_6, ct_7, ct_8, ct_9, ct_10, ct_11, ct_12, ct_13, ct_14, ct_20, ct_21, ct_22, ct_23, ct_24, ct_25, ct_30, ct_31, ct_32, ct_40, ct_41, ct_42, ct_43, ct_44, ct_45, ct_46, ct_47, ct_48, ct_49, ct_50, ct_51, ct_52, ct_53, ct_54, ct_55, ct_56, ct_57, ct_58, ct_59, ct_60, ki_m1, ki_0, ki_1, ki_2, ki_3, ki_4, ki_5, kb_m2, kb_m3, kb_m4, kb_m8, kb_m9, kb_10, kb_100, kb_16, kb_36, kb_6, kb_63, kb_8, kb_9, kb_99, ks_216, ks_2520, ks_256, ks_800, kl_0, kl_1, ↓reduceIte, reduceCtorEq, Nat.reduceAdd, Nat.reduceLT, Nat.reduceLeDiff, Nat.reduceEqDiff, List.map_cons, List.map_nil, List.sum_cons, List.sum_nil, List.cons_append, List.nil_append, Option.toList_some, Option.toList_none, true_and, and_true, true_or, or_true, not_true_eq_false, not_false_eq_true, Nat.lt_add_one, Nat.zero_le, eq_self, or_false, false_or, implies_true, forall_const, false_implies, forall_false, true_implies, and_self, Nat.zero_lt_one, Nat.add_zero, Nat.zero_add, Int32.reduceLT, Int32.reduceLE, Int32.reduceAdd, Int32.reduceSub, Int32.reduceMul, e10, e01, ite_self, ab_mx, ab_mi, ab_mb, ab_ml2, rX2_between_54, rX2_between_56, rX2_between_59, rX2_between_60, rX2_between_63, rX2_between_65, rX2_between_66, rX2_between_68, q]
        refine sX2_mostGroupsF n8 hse (by omega) (by omega) hs hg (fun y hy => ?_)
        have mp := mg_p (ev := evF (duI g h n) n) (C := fun s => (d.1 10 0 s).toInt) (s := S) (lw := lwN S) (l := slF (otN S) 256 (otN S)) (m := -8)
        have up : y.toInt ≤ S := by
          rw [hy]
          rcases mp.2.2 with w | ⟨x, w1, w2, w3⟩
          · omega
          · have o256 : otN S < 256 := by have := ot_le (s := S); omega
            obtain ⟨k1, k2⟩ := (sl_mem o256).mp w1
            obtain ⟨g1, g2, g3⟩ := lwn_g S (by omega) (by omega) x k1 k2
            obtain ⟨q1, q2, q3⟩ := xr_sb S (by omega) _ g2 g1
            have G : (d.1 10 0 (S - (x + lwN S))).toInt ≤ (S - (x + lwN S) : Nat) := (hg (S - (x + lwN S)) (by omega)).2.2
            rw [w3]
            show (d.1 10 0 (S - (x + lwN S))).toInt + 1 ≤ (S : Int)
            omega
        have lo : -8 ≤ y.toInt := by rw [hy]; exact mp.1
        have Z := ih (S + 1) (se + 1) (ab_si d 10 0 S y) (by omega) (by omega) e2 (fd.si 10 0 _ rfl (i32_lo _) (i32_hi _)) (fun s hs' => by
          rw [sn_ii (by decide), sn_ii (by decide)]
          exact hs s hs') (fun s hs' => by
          refine ⟨rfl, ?_⟩
          show -8 ≤ ((ab_si d 10 0 S y).1 10 0 s).toInt ∧ ((ab_si d 10 0 S y).1 10 0 s).toInt ≤ (s : Int)
          by_cases z : s = S
          · rw [z, sn_ie]; exact ⟨lo, up⟩
          · rw [sn_ij z]; exact (hg s (by omega)).2) (cg_e S0 (by omega) hc (fun s hs' => by
          show ((ab_si d 10 0 S y).1 10 0 s).toInt = (d.1 10 0 s).toInt
          rw [sn_ij (by omega)]) (by
          show ((ab_si d 10 0 S y).1 10 0 S).toInt = _
          rw [sn_ie]
          exact hy))
        simp only [ab_loc, ab_cat, ab_kil, ab_al, ab_ln, ab_lnp, ab_rf, sh_0, sh_1, sh_2, sh_3, sh_4, sh_5, sh_6, sh_7, sh_8, sh_9, sh_10, sh_11, sh_12, sh_13, sh_14, sh_20, sh_21, sh_22, sh_23, sh_24, sh_25, sh_30, sh_31, sh_32, sh_40, sh_41, sh_42, sh_43, sh_44, sh_45, sh_46, sh_47, sh_48, sh_49, sh_50, sh_51, sh_52, sh_53, sh_54, sh_55, sh_56, sh_57, sh_58, sh_59, sh_60, ct_0, ct_1, ct_2, ct_3, ct_4, ct_5, ct_6, ct_7, ct_8, ct_9, ct_10, ct_11, ct_12, ct_13, ct_14, ct_20, ct_21, ct_22, ct_23, ct_24, ct_25, ct_30, ct_31, ct_32, ct_40, ct_41, ct_42, ct_43, ct_44, ct_45, ct_46, ct_47, ct_48, ct_49, ct_50, ct_51, ct_52, ct_53, ct_54, ct_55, ct_56, ct_57, ct_58, ct_59, ct_60, ki_m1, ki_0, ki_1, ki_2, ki_3, ki_4, ki_5, kb_m2, kb_m3, kb_m4, kb_m8, kb_m9, kb_10, kb_100, kb_16, kb_36, kb_6, kb_63, kb_8, kb_9, kb_99, ks_216, ks_2520, ks_256, ks_800, kl_0, kl_1, ↓reduceIte, reduceCtorEq, Nat.reduceAdd, Nat.reduceLT, Nat.reduceLeDiff, Nat.reduceEqDiff, List.map_cons, List.map_nil, List.sum_cons, List.sum_nil, List.cons_append, List.nil_append, Option.toList_some, Option.toList_none, true_and, and_true, true_or, or_true, not_true_eq_false, not_false_eq_true, Nat.lt_add_one, Nat.zero_le, eq_self, or_false, false_or, implies_true, forall_const, false_implies, forall_false, true_implies, and_self, Nat.zero_lt_one, Nat.add_zero, Nat.zero_add, Int32.reduceLT, Int32.reduceLE, Int32.reduceAdd, Int32.reduceSub, Int32.reduceMul, e10, e01, ite_self, ab_mx, ab_mi, ab_mb, ab_ml2, rX2_between_71, rX2_between_72, rX2_between_75, vS, nS]
        exact Z
    have z1 : ((1 : Int32) = 0) = False := by decide
    have Z := loop (2 ^ n - 1) 1 1 (ab_si e 10 0 0 0) (by omega) (by decide) rfl (f2.si 10 0 0 rfl (i32_lo _) (i32_hi _)) (fun s hs' => by
      rw [sn_ii (by decide), sn_ii (by decide)]
      exact hs s hs') (fun s hs' => by
      have z : s = 0 := by omega
      subst z
      have w : (ab_si e 10 0 0 0).1 10 0 0 = 0 := sn_ie
      show ((ab_si e 10 0 0 0).1 10 0 0).toInt = ((ab_si e 10 0 0 0).1 10 0 0).toInt ∧ -8 ≤ ((ab_si e 10 0 0 0).1 10 0 0).toInt ∧ ((ab_si e 10 0 0 0).1 10 0 0).toInt ≤ ((0 : Nat) : Int)
      rw [w]
      exact ⟨rfl, by decide, by decide⟩) ⟨by
      show ((ab_si e 10 0 0 0).1 10 0 0).toInt = 0
      rw [sn_ie]
      rfl, fun s a b => by omega, fun s a b => by omega⟩
    simp only [ab_loc, ab_cat, ab_kil, ab_al, ab_ln, ab_lnp, ab_rf, sh_0, sh_1, sh_2, sh_3, sh_4, sh_5, sh_6, sh_7, sh_8, sh_9, sh_10, sh_11, sh_12, sh_13, sh_14, sh_20, sh_21, sh_22, sh_23, sh_24, sh_25, sh_30, sh_31, sh_32, sh_40, sh_41, sh_42, sh_43, sh_44, sh_45, sh_46, sh_47, sh_48, sh_49, sh_50, sh_51, sh_52, sh_53, sh_54, sh_55, sh_56, sh_57, sh_58, sh_59, sh_60, ct_0, ct_1, ct_2, ct_3, ct_4, ct_5, ct_6, ct_7, ct_8, ct_9, ct_10, ct_11, ct_12, ct_13, ct_14, ct_20, ct_21, ct_22, ct_23, ct_24, ct_25, ct_30, ct_31, ct_32, ct_40, ct_41, ct_42, ct_43, ct_44, ct_45, ct_46, ct_47, ct_48, ct_49, ct_50, ct_51, ct_52, ct_53, ct_54, ct_55, ct_56, ct_57, ct_58, ct_59, ct_60, ki_m1, ki_0, ki_1, ki_2, ki_3, ki_4, ki_5, kb_m2, kb_m3, kb_m4, kb_m8, kb_m9, kb_10, kb_100, kb_16, kb_36, kb_6, kb_63, kb_8, kb_9, kb_99, ks_216, ks_2520, ks_256, ks_800, kl_0, kl_1, ↓reduceIte, reduceCtorEq, Nat.reduceAdd, Nat.reduceLT, Nat.reduceLeDiff, Nat.reduceEqDiff, List.map_cons, List.map_nil, List.sum_cons, List.sum_nil, List.cons_append, List.nil_append, Option.toList_some, Option.toList_none, true_and, and_true, true_or, or_true, not_true_eq_false, not_false_eq_true, Nat.lt_add_one, Nat.zero_le, eq_self, or_false, false_or, implies_true, forall_const, false_implies, forall_false, true_implies, and_self, Nat.zero_lt_one, Nat.add_zero, Nat.zero_add, Int32.reduceLT, Int32.reduceLE, Int32.reduceAdd, Int32.reduceSub, Int32.reduceMul, e10, e01, ite_self, ab_mx, ab_mi, ab_mb, ab_ml2, rX2_between_27, rX2_between_28, rX2_between_31, rX2_between_33, rX2_between_34, rX2_between_35, rX2_between_36, rX2_between_39, rX2_between_41, rX2_between_42, rX2_between_43, rX2_between_46, rX2_between_47, rX2_between_48, rX2_between_49, rX2_between_50, v1, n1, full, z1, v0, n0]
    exact Z
  · have a : gdF (duI g h n) n (2 ^ n - 1) = false := by
      cases w : gdF (duI g h n) n (2 ^ n - 1) with
      | false => rfl
      | true => exact absurd w a
    rw [a] at full
    have full : e.1 9 0 (2 ^ n - 1) = 0 := full
    have Z := hN a e f2
    simp only [ab_loc, ab_cat, ab_kil, ab_al, ab_ln, ab_lnp, ab_rf, sh_0, sh_1, sh_2, sh_3, sh_4, sh_5, sh_6, sh_7, sh_8, sh_9, sh_10, sh_11, sh_12, sh_13, sh_14, sh_20, sh_21, sh_22, sh_23, sh_24, sh_25, sh_30, sh_31, sh_32, sh_40, sh_41, sh_42, sh_43, sh_44, sh_45, sh_46, sh_47, sh_48, sh_49, sh_50, sh_51, sh_52, sh_53, sh_54, sh_55, sh_56, sh_57, sh_58, sh_59, sh_60, ct_0, ct_1, ct_2, ct_3, ct_4, ct_5, ct_6, ct_7, ct_8, ct_9, ct_10, ct_11, ct_12, ct_13, ct_14, ct_20, ct_21, ct_22, ct_23, ct_24, ct_25, ct_30, ct_31, ct_32, ct_40, ct_41, ct_42, ct_43, ct_44, ct_45, ct_46, ct_47, ct_48, ct_49, ct_50, ct_51, ct_52, ct_53, ct_54, ct_55, ct_56, ct_57, ct_58, ct_59, ct_60, ki_m1, ki_0, ki_1, ki_2, ki_3, ki_4, ki_5, kb_m2, kb_m3, kb_m4, kb_m8, kb_m9, kb_10, kb_100, kb_16, kb_36, kb_6, kb_63, kb_8, kb_9, kb_99, ks_216, ks_2520, ks_256, ks_800, kl_0, kl_1, ↓reduceIte, reduceCtorEq, Nat.reduceAdd, Nat.reduceLT, Nat.reduceLeDiff, Nat.reduceEqDiff, List.map_cons, List.map_nil, List.sum_cons, List.sum_nil, List.cons_append, List.nil_append, Option.toList_some, Option.toList_none, true_and, and_true, true_or, or_true, not_true_eq_false, not_false_eq_true, Nat.lt_add_one, Nat.zero_le, eq_self, or_false, false_or, implies_true, forall_const, false_implies, forall_false, true_implies, and_self, Nat.zero_lt_one, Nat.add_zero, Nat.zero_add, Int32.reduceLT, Int32.reduceLE, Int32.reduceAdd, Int32.reduceSub, Int32.reduceMul, e10, e01, ite_self, ab_mx, ab_mi, ab_mb, ab_ml2, rX2_between_27, rX2_between_28, rX2_between_31, rX2_between_33, rX2_between_34, rX2_between_35, rX2_between_36, rX2_between_39, rX2_between_41, v1, n1, full]
    exact Z
