/-! curves: the class lays a town -/
def cvS (i : Nat) (k i' _ : Nat) : Bool := (Nat.beq k 30 || Nat.beq k 31 || Nat.beq k 32) && Nat.beq i' i
theorem cv_t {i j : Nat} : cvS i 30 i j = true ∧ cvS i 31 i j = true ∧ cvS i 32 i j = true := by
  have e : Nat.beq i i = true := Nat.beq_refl i
  unfold cvS
  rw [e]
  exact ⟨rfl, rfl, rfl⟩
theorem cv_w {i : Nat} : ∀ k i' j, cvS i k i' j = true → ck_wr 0 k j = true := fun k i' j h => by
  have h := ((Bool.and_eq_true _ _).mp h).1
  rcases (Bool.or_eq_true _ _).mp h with h | h
  · rcases (Bool.or_eq_true _ _).mp h with h | h
    · rw [Nat.eq_of_beq_eq_true h]; rfl
    · rw [Nat.eq_of_beq_eq_true h]; rfl
  · rw [Nat.eq_of_beq_eq_true h]; rfl
theorem m1_of {p : Int32} {m : Nat} (h : p.toInt = (m + 1 : Nat)) (h8 : m < 8) : vp_in (p - 1) 8 ∧ (p - 1).toNatClampNeg = m := by
  have e : (p - 1).toInt = m := by rw [i32_m1 (by omega)]; omega
  exact ⟨vp_of (by omega) (by omega), by show (p - 1).toInt.toNat = m; omega⟩
theorem dc_of {p : Int32} {m : Nat} (h : p.toInt = (m + 1 : Nat)) : (p + -1).toInt = m := by
  have e := i32_dec (k := p) (by omega)
  rw [e, h]
  omega
theorem lcle {x y : Int64} : (lg_cmp x y ≤ 0) = (x.toInt ≤ y.toInt) := propext (ck_cl (c := .le))
theorem lcge {x y : Int64} : (0 ≤ lg_cmp x y) = (y.toInt ≤ x.toInt) := propext (ck_cl (c := .ge))
set_option maxRecDepth 100000 in
set_option maxHeartbeats 1000000 in
theorem sX3_insertF {σ1 σ : ab_S} {P : ab_P} {i : Nat} {v w : Int64} {E W : Nat → Int} {n : Nat} {V X : Int} (hi : i < 2) (hF : fr (cvS i) σ1 σ) (hn : (σ.1 30 i 0).toInt = n) (n8 : n < 8) (hE : ∀ j, j < n → (σ.2 32 i j).toInt = E j) (hW : ∀ j, j < n → (σ.2 31 i j).toInt = W j) (hv : v.toInt = V) (hw : w.toInt = X) (hP : ∀ σ', fr (cvS i) σ1 σ' → (σ'.1 30 i 0).toInt = n + 1 → σ'.2 30 i 1 = σ.2 30 i 1 + w → σ'.2 30 i 2 = σ.2 30 i 2 + v * w → (∀ j, j < n + 1 → (σ'.2 32 i j).toInt = ins E (plc E V n) V j) → (∀ j, j < n + 1 → (σ'.2 31 i j).toInt = ins W (plc E V n) X j) → P none σ') : ab_sp mX3_insert cX3_insert [.inr (some (30, i)), .inl (.inr v), .inl (.inr w)] σ P := by
  obtain ⟨T0, T1, T2⟩ : (∀ j, cvS i 30 i j = true) ∧ (∀ j, cvS i 31 i j = true) ∧ (∀ j, cvS i 32 i j = true) := ⟨fun _ => cv_t.1, fun _ => cv_t.2.1, fun _ => cv_t.2.2⟩
  have fin : ∀ (p : Int32) (m : Nat) (c : ab_S), p.toInt = m → m ≤ n → plc E V n = m → fr (cvS i) σ1 c → c.1 30 i 0 = σ.1 30 i 0 → c.2 30 i 1 = σ.2 30 i 1 → c.2 30 i 2 = σ.2 30 i 2 → (∀ j, j < m → (c.2 32 i j).toInt = E j ∧ (c.2 31 i j).toInt = W j) → (∀ j, m < j → j < n + 1 → (c.2 32 i j).toInt = E (j - 1) ∧ (c.2 31 i j).toInt = W (j - 1)) → ab_wp mX3_insert cX3_insert none P 73 [some (.inr (some (30, i))), some (.inl (.inr v)), none, some (.inl (.inr w)), none, some (.inl (.inl p))] [] c := by
    intro p m c em hm hp hc c0 c1 c2 lo hi'
    have hv8 : vp_in p 8 := vp_of (by omega) (by omega)
    have ep : p.toNatClampNeg = m := by show p.toInt.toNat = m; omega
    have e1 : (c.1 30 i 0 + 1).toInt = n + 1 := by rw [c0, i32_p1 (by omega), hn]
    simp only [ab_loc, ab_cat, ab_kil, ab_al, ab_ln, ab_lnp, ab_rf, sh_0, sh_1, sh_2, sh_3, sh_4, sh_5, sh_6, sh_7, sh_8, sh_9, sh_10, sh_11, sh_12, sh_13, sh_14, sh_20, sh_21, sh_22, sh_23, sh_24, sh_25, sh_30, sh_31, sh_32, sh_40, sh_41, sh_42, sh_43, sh_44, sh_45, sh_46, sh_47, sh_48, sh_49, sh_50, sh_51, sh_52, sh_53, sh_54, sh_55, sh_56, sh_57, sh_58, sh_59, sh_60, ct_0, ct_1, ct_2, ct_3, ct_4, ct_5, ct_6, ct_7, ct_8, ct_9, ct_10, ct_11, ct_12, ct_13, ct_14, ct_20, ct_21, ct_22, ct_23, ct_24, ct_25, ct_30, ct_31, ct_32, ct_40, ct_41, ct_42, ct_43, ct_44, ct_45, ct_46, ct_47, ct_48, ct_49, ct_50, ct_51, ct_52, ct_53, ct_54, ct_55, ct_56, ct_57, ct_58, ct_59, ct_60, ki_m1, ki_0, ki_1, ki_2, ki_3, ki_4, ki_5, kb_m2, kb_m3, kb_m4, kb_m8, kb_m9, kb_10, kb_100, kb_16, kb_36, kb_6, kb_63, kb_8, kb_9, kb_99, ks_216, ks_2520, ks_256, ks_800, kl_0, kl_1, ↓reduceIte, reduceCtorEq, Nat.reduceAdd, Nat.reduceLT, Nat.reduceLeDiff, Nat.reduceEqDiff, List.map_cons, List.map_nil, List.sum_cons, List.sum_nil, List.cons_append, List.nil_append, Option.toList_some, Option.toList_none, true_and, and_true, true_or, or_true, not_true_eq_false, not_false_eq_true, Nat.lt_add_one, Nat.zero_le, eq_self, or_false, false_or, implies_true, forall_const, false_implies, forall_false, true_implies, and_self, Nat.zero_lt_one, Nat.add_zero, Nat.zero_add, Int32.reduceLT, Int32.reduceLE, Int32.reduceAdd, Int32.reduceSub, Int32.reduceMul, e10, e01, ite_self, ab_mx, ab_mi, ab_mb, ab_ml2, rX3_insert_73, rX3_insert_74, rX3_insert_77, rX3_insert_79, rX3_insert_80, rX3_insert_81, rX3_insert_82, rX3_insert_85, rX3_insert_87, rX3_insert_88, rX3_insert_89, rX3_insert_90i, rX3_insert_90a, rX3_insert_91, rX3_insert_94, rX3_insert_95, rX3_insert_96, rX3_insert_99, rX3_insert_100i, rX3_insert_100a, rX3_insert_101, rX3_insert_104, rX3_insert_105, rX3_insert_106, rX3_insert_109, rX3_insert_110i, rX3_insert_110a, rX3_insert_111, rX3_insert_114, rX3_insert_115, rX3_insert_116, rX3_insert_117, rX3_insert_118, rX3_insert_121, hi, hv8]
    rw [ep]
    refine hP _ (((((hc.sl 32 i m (T2 m)).sl 31 i m (T1 m)).si 30 i 0 (T0 0) (show (0 : Int) ≤ (c.1 30 i 0 + 1).toInt by omega) (show (c.1 30 i 0 + 1).toInt ≤ 8 by omega)).sl 30 i 1 (T0 1)).sl 30 i 2 (T0 2)) ?_ ?_ ?_ (fun j hj => ?_) (fun j hj => ?_)
    · rw [sn_li, sn_li, sn_ie]; exact e1
    · rw [sn_lj (by decide), sn_le, sn_il, sn_ll (by decide), sn_ll (by decide), c1]
    · rw [sn_le, sn_lj (by decide), sn_il, sn_ll (by decide), sn_ll (by decide), c2]
    · rw [sn_ll (by decide), sn_ll (by decide), sn_il, sn_ll (by decide), hp]
      unfold ins
      by_cases a : j < m
      · rw [if_pos a, sn_lj (by omega)]; exact (lo j a).1
      · rw [if_neg a]
        by_cases b : j = m
        · rw [if_pos b, b, sn_le]; exact hv
        · rw [if_neg b, sn_lj b]; exact (hi' j (by omega) hj).1
    · rw [sn_ll (by decide), sn_ll (by decide), sn_il, hp]
      unfold ins
      by_cases a : j < m
      · rw [if_pos a, sn_lj (by omega), sn_ll (by decide)]; exact (lo j a).2
      · rw [if_neg a]
        by_cases b : j = m
        · rw [if_pos b, b, sn_le]; exact hw
        · rw [if_neg b, sn_lj b, sn_ll (by decide)]; exact (hi' j (by omega) hj).2
  have key : ∀ (m : Nat) (p : Int32) (c : ab_S), p.toInt = m → m ≤ n → plc E V n = plc E V m → fr (cvS i) σ1 c → c.1 30 i 0 = σ.1 30 i 0 → c.2 30 i 1 = σ.2 30 i 1 → c.2 30 i 2 = σ.2 30 i 2 → (∀ j, j < m → (c.2 32 i j).toInt = E j ∧ (c.2 31 i j).toInt = W j) → (∀ j, m < j → j < n + 1 → (c.2 32 i j).toInt = E (j - 1) ∧ (c.2 31 i j).toInt = W (j - 1)) → ab_wp mX3_insert cX3_insert none P 16 [some (.inr (some (30, i))), some (.inl (.inr v)), none, some (.inl (.inr w)), none, some (.inl (.inl p))] [] c := by
    intro m
    induction m with
    | zero =>
      intro p c em hm hp hc c0 c1 c2 lo hi'
      have q : p ≤ 0 := Int32.le_iff_toInt_le.mpr (by rw [t0i]; omega)
      rw [rX3_insert_16, rX3_insert_18, if_pos q]
      exact fin p 0 c em hm hp hc c0 c1 c2 lo hi'
    | succ m ih =>
      intro p c em hm hp hc c0 c1 c2 lo hi'
      have q : ¬ p ≤ 0 := fun q => by have q := le32 q; rw [t0i] at q; omega
      have hv8 : vp_in p 8 := vp_of (by omega) (by omega)
      have ep : p.toNatClampNeg = m + 1 := by show p.toInt.toNat = m + 1; omega
      obtain ⟨hv1, es⟩ := m1_of em (by omega)
      have hp' : plc E V (m + 1) = if V < E m then plc E V m else m + 1 := rfl
      have lom := lo m (by omega)
      by_cases a : V < E m
      · have b : (lg_cmp (c.2 32 i m) v ≤ 0) = False := by rw [lcle, lom.1, hv]; exact eq_false (by omega)
        rw [if_pos a] at hp'
        have F := ih (p + -1) (ab_sl (ab_sl c 32 i (m + 1) (c.2 32 i m)) 31 i (m + 1) ((ab_sl c 32 i (m + 1) (c.2 32 i m)).2 31 i m)) (dc_of em) (by omega) (hp.trans hp') ((hc.sl 32 i _ (T2 _)).sl 31 i _ (T1 _)) c0 (by rw [sn_ll (by decide), sn_ll (by decide)]; exact c1) (by rw [sn_ll (by decide), sn_ll (by decide)]; exact c2) (fun j hj => by
          rw [sn_ll (by decide), sn_lj (by omega), sn_lj (by omega), sn_ll (by decide)]
          exact lo j (by omega)) (fun j hj hj' => by
          rw [sn_ll (by decide), sn_ll (k := 32) (k' := 31) (by decide)]
          by_cases e : j = m + 1
          · rw [e, sn_le, sn_le]; exact lom
          · rw [sn_lj e, sn_lj e, sn_ll (by decide)]; exact hi' j (by omega) hj')
        rw [rX3_insert_16]
        simp only [ab_loc, ab_cat, ab_kil, ab_al, ab_ln, ab_lnp, ab_rf, sh_0, sh_1, sh_2, sh_3, sh_4, sh_5, sh_6, sh_7, sh_8, sh_9, sh_10, sh_11, sh_12, sh_13, sh_14, sh_20, sh_21, sh_22, sh_23, sh_24, sh_25, sh_30, sh_31, sh_32, sh_40, sh_41, sh_42, sh_43, sh_44, sh_45, sh_46, sh_47, sh_48, sh_49, sh_50, sh_51, sh_52, sh_53, sh_54, sh_55, sh_56, sh_57, sh_58, sh_59, sh_60, ct_0, ct_1, ct_2, ct_3, ct_4, ct_5, ct_6, ct_7, ct_8, ct_9, ct_10, ct_11, ct_12, ct_13, ct_14, ct_20, ct_21, ct_22, ct_23, ct_24, ct_25, ct_30, ct_31, ct_32, ct_40, ct_41, ct_42, ct_43, ct_44, ct_45, ct_46, ct_47, ct_48, ct_49, ct_50, ct_51, ct_52, ct_53, ct_54, ct_55, ct_56, ct_57, ct_58, ct_59, ct_60, ki_m1, ki_0, ki_1, ki_2, ki_3, ki_4, ki_5, kb_m2, kb_m3, kb_m4, kb_m8, kb_m9, kb_10, kb_100, kb_16, kb_36, kb_6, kb_63, kb_8, kb_9, kb_99, ks_216, ks_2520, ks_256, ks_800, kl_0, kl_1, ↓reduceIte, reduceCtorEq, Nat.reduceAdd, Nat.reduceLT, Nat.reduceLeDiff, Nat.reduceEqDiff, List.map_cons, List.map_nil, List.sum_cons, List.sum_nil, List.cons_append, List.nil_append, Option.toList_some, Option.toList_none, true_and, and_true, true_or, or_true, not_true_eq_false, not_false_eq_true, Nat.lt_add_one, Nat.zero_le, eq_self, or_false, false_or, implies_true, forall_const, false_implies, forall_false, true_implies, and_self, Nat.zero_lt_one, Nat.add_zero, Nat.zero_add, Int32.reduceLT, Int32.reduceLE, Int32.reduceAdd, Int32.reduceSub, Int32.reduceMul, e10, e01, ite_self, ab_mx, ab_mi, ab_mb, ab_ml2, rX3_insert_18, rX3_insert_21, rX3_insert_22, rX3_insert_25, rX3_insert_27, rX3_insert_28, rX3_insert_29, rX3_insert_30, rX3_insert_31, rX3_insert_32, rX3_insert_35, rX3_insert_36, rX3_insert_39, rX3_insert_41, rX3_insert_42, rX3_insert_45, rX3_insert_47, rX3_insert_48, rX3_insert_49, rX3_insert_50, rX3_insert_51, rX3_insert_52, rX3_insert_55, rX3_insert_57, rX3_insert_58, rX3_insert_61, rX3_insert_63, rX3_insert_64, rX3_insert_65, rX3_insert_66, rX3_insert_67, rX3_insert_70, hi, hv8, hv1, q, ep, es, b]
        exact F
      · have b : (lg_cmp (c.2 32 i m) v ≤ 0) = True := by rw [lcle, lom.1, hv]; exact eq_true (by omega)
        rw [if_neg a] at hp'
        have F := fin p (m + 1) c em hm (hp.trans hp') hc c0 c1 c2 lo hi'
        rw [rX3_insert_16]
        simp only [ab_loc, ab_cat, ab_kil, ab_al, ab_ln, ab_lnp, ab_rf, sh_0, sh_1, sh_2, sh_3, sh_4, sh_5, sh_6, sh_7, sh_8, sh_9, sh_10, sh_11, sh_12, sh_13, sh_14, sh_20, sh_21, sh_22, sh_23, sh_24, sh_25, sh_30, sh_31, sh_32, sh_40, sh_41, sh_42, sh_43, sh_44, sh_45, sh_46, sh_47, sh_48, sh_49, sh_50, sh_51, sh_52, sh_53, sh_54, sh_55, sh_56, sh_57, sh_58, sh_59, sh_60, ct_0, ct_1, ct_2, ct_3, ct_4, ct_5, ct_6, ct_7, ct_8, ct_9, ct_10, ct_11, ct_12, ct_13, ct_14, ct_20, ct_21, ct_22, ct_23, ct_24, ct_25, ct_30, ct_31, ct_32, ct_40, ct_41, ct_42, ct_43, ct_44, ct_45, ct_46, ct_47, ct_48, ct_49, ct_50, ct_51, ct_52, ct_53, ct_54, ct_55, ct_56, ct_57, ct_58, ct_59, ct_60, ki_m1, ki_0, ki_1, ki_2, ki_3, ki_4, ki_5, kb_m2, kb_m3, kb_m4, kb_m8, kb_m9, kb_10, kb_100, kb_16, kb_36, kb_6, kb_63, kb_8, kb_9, kb_99, ks_216, ks_2520, ks_256, ks_800, kl_0, kl_1, ↓reduceIte, reduceCtorEq, Nat.reduceAdd, Nat.reduceLT, Nat.reduceLeDiff, Nat.reduceEqDiff, List.map_cons, List.map_nil, List.sum_cons, List.sum_nil, List.cons_append, List.nil_append, Option.toList_some, Option.toList_none, true_and, and_true, true_or, or_true, not_true_eq_false, not_false_eq_true, Nat.lt_add_one, Nat.zero_le, eq_self, or_false, false_or, implies_true, forall_const, false_implies, forall_false, true_implies, and_self, Nat.zero_lt_one, Nat.add_zero, Nat.zero_add, Int32.reduceLT, Int32.reduceLE, Int32.reduceAdd, Int32.reduceSub, Int32.reduceMul, e10, e01, ite_self, ab_mx, ab_mi, ab_mb, ab_ml2, rX3_insert_18, rX3_insert_21, rX3_insert_22, rX3_insert_25, rX3_insert_27, rX3_insert_28, rX3_insert_29, rX3_insert_30, rX3_insert_31, rX3_insert_32, hi, hv8, hv1, q, ep, es, b]
        exact F
  have d : σ.1 30 i 0 < 8 := Int32.lt_iff_toInt_lt.mpr (by rw [hn, show (8 : Int32).toInt = 8 from rfl]; omega)
  have K := key n (σ.1 30 i 0) σ hn (Nat.le_refl n) rfl hF rfl rfl rfl (fun j hj => ⟨hE j hj, hW j hj⟩) (fun j h1 h2 => by omega)
  simp only [ab_loc, ab_cat, ab_kil, ab_al, ab_ln, ab_lnp, ab_rf, sh_0, sh_1, sh_2, sh_3, sh_4, sh_5, sh_6, sh_7, sh_8, sh_9, sh_10, sh_11, sh_12, sh_13, sh_14, sh_20, sh_21, sh_22, sh_23, sh_24, sh_25, sh_30, sh_31, sh_32, sh_40, sh_41, sh_42, sh_43, sh_44, sh_45, sh_46, sh_47, sh_48, sh_49, sh_50, sh_51, sh_52, sh_53, sh_54, sh_55, sh_56, sh_57, sh_58, sh_59, sh_60, ct_0, ct_1, ct_2, ct_3, ct_4, ct_5, ct_6, ct_7, ct_8, ct_9, ct_10, ct_11, ct_12, ct_13, ct_14, ct_20, ct_21, ct_22, ct_23, ct_24, ct_25, ct_30, ct_31, ct_32, ct_40, ct_41, ct_42, ct_43, ct_44, ct_45, ct_46, ct_47, ct_48, ct_49, ct_50, ct_51, ct_52, ct_53, ct_54, ct_55, ct_56, ct_57, ct_58, ct_59, ct_60, ki_m1, ki_0, ki_1, ki_2, ki_3, ki_4, ki_5, kb_m2, kb_m3, kb_m4, kb_m8, kb_m9, kb_10, kb_100, kb_16, kb_36, kb_6, kb_63, kb_8, kb_9, kb_99, ks_216, ks_2520, ks_256, ks_800, kl_0, kl_1, ↓reduceIte, reduceCtorEq, Nat.reduceAdd, Nat.reduceLT, Nat.reduceLeDiff, Nat.reduceEqDiff, List.map_cons, List.map_nil, List.sum_cons, List.sum_nil, List.cons_append, List.nil_append, Option.toList_some, Option.toList_none, true_and, and_true, true_or, or_true, not_true_eq_false, not_false_eq_true, Nat.lt_add_one, Nat.zero_le, eq_self, or_false, false_or, implies_true, forall_const, false_implies, forall_false, true_implies, and_self, Nat.zero_lt_one, Nat.add_zero, Nat.zero_add, Int32.reduceLT, Int32.reduceLE, Int32.reduceAdd, Int32.reduceSub, Int32.reduceMul, e10, e01, ite_self, ab_mx, ab_mi, ab_mb, ab_ml2, uX3_insert, rX3_insert_0, rX3_insert_1, rX3_insert_4, rX3_insert_6, rX3_insert_9, rX3_insert_10, rX3_insert_11, rX3_insert_14, hi, d]
  exact K
