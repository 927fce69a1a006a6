/-! order: the reference lays the breaks -/
def brS (k _ j : Nat) : Bool := (Nat.beq k 52 || Nat.beq k 53) || (Nat.beq k 40 && Nat.beq j 11)
theorem br_w : ∀ k i j, brS k i j = true → ck_wr 0 k j = true := fun k i j h => by
  rcases (Bool.or_eq_true _ _).mp h with h | h
  · rcases (Bool.or_eq_true _ _).mp h with h | h
    · rw [Nat.eq_of_beq_eq_true h]; rfl
    · rw [Nat.eq_of_beq_eq_true h]; rfl
  · have h := (Bool.and_eq_true _ _).mp h
    rw [Nat.eq_of_beq_eq_true h.1, Nat.eq_of_beq_eq_true h.2]; rfl
def plB (A B : Nat → Int) (u w : Int) (n : Nat) : Nat := match n with
  | 0 => 0
  | n + 1 => if u * B n < A n * w then plB A B u w n else n + 1
theorem plB_le {A B : Nat → Int} {u w : Int} : ∀ {n : Nat}, plB A B u w n ≤ n
  | 0 => Nat.le_refl 0
  | n + 1 => by
    unfold plB
    split
    · exact Nat.le_succ_of_le plB_le
    · exact Nat.le_refl _
theorem m16_of {p : Int32} {m : Nat} (h : p.toInt = (m + 1 : Nat)) (h8 : m < 16) : vp_in (p - 1) 16 ∧ (p - 1).toNatClampNeg = m := by
  have e : (p - 1).toInt = m := by rw [i32_m1 (by omega)]; omega
  exact ⟨vp_of (by omega) (by omega), by show (p - 1).toInt.toNat = m; omega⟩
theorem v16_of {p : Int32} {m : Nat} (h : p.toInt = m) (h8 : m < 16) : vp_in p 16 ∧ p.toNatClampNeg = m := ⟨vp_of (by omega) (by omega), by show p.toInt.toNat = m; omega⟩
set_option maxRecDepth 100000 in
set_option maxHeartbeats 1000000 in
theorem sX8_addBreakF {σ1 σ : ab_S} {P : ab_P} {u w : Int32} {A B : Nat → Int} {n : Nat} {U V : Int} (hF : fr brS σ1 σ) (hn : (σ.1 40 0 11).toInt = n) (n16 : n < 16) (hA : ∀ j, j < n → (σ.1 52 0 j).toInt = A j ∧ (σ.1 53 0 j).toInt = B j) (hb : ∀ j, j < n → (0 ≤ A j ∧ A j ≤ 72) ∧ 0 ≤ B j ∧ B j ≤ 72) (hu : u.toInt = U) (hw : w.toInt = V) (bu : 0 ≤ U ∧ U ≤ 72) (bw : 0 ≤ V ∧ V ≤ 72) (hP : ∀ σ', fr brS σ1 σ' → (σ'.1 40 0 11).toInt = (n + 1 : Nat) → (∀ j, j < n + 1 → (σ'.1 52 0 j).toInt = ins A (plB A B U V n) U j ∧ (σ'.1 53 0 j).toInt = ins B (plB A B U V n) V j) → P none σ') : ab_sp mX8_addBreak cX8_addBreak [.inr (some (40, 0)), .inl (.inl u), .inl (.inl w)] σ P := by
  have fin : ∀ (p : Int32) (m : Nat) (c : ab_S), p.toInt = m → m ≤ n → plB A B U V n = m → fr brS σ1 c → c.1 40 0 11 = σ.1 40 0 11 → (∀ j, j < m → (c.1 52 0 j).toInt = A j ∧ (c.1 53 0 j).toInt = B j) → (∀ j, m < j → j < n + 1 → (c.1 52 0 j).toInt = A (j - 1) ∧ (c.1 53 0 j).toInt = B (j - 1)) → ab_wp mX8_addBreak cX8_addBreak none P 66 [some (.inr (some (40, 0))), some (.inl (.inl u)), some (.inl (.inl w)), some (.inl (.inl p))] [] c := by
    intro p m c em hm hp hc c0 lo hi'
    obtain ⟨vp, np⟩ := v16_of em (by omega)
    have e1 : (c.1 40 0 11 + 1).toInt = (n + 1 : Nat) := by rw [c0, i32_p1 (by omega), hn]; omega
    have F := hP (ab_si (ab_si (ab_si c 52 0 m u) 53 0 m w) 40 0 11 (c.1 40 0 11 + 1)) (((hc.si 52 0 m rfl (i32_lo _) (i32_hi _)).si 53 0 m rfl (i32_lo _) (i32_hi _)).si 40 0 11 rfl (show (0 : Int) ≤ (c.1 40 0 11 + 1).toInt by rw [e1]; omega) (show (c.1 40 0 11 + 1).toInt ≤ (16 : Int) by rw [e1]; omega)) (by rw [sn_ie]; exact e1) (fun j hj => by
      rw [sn_ii (by decide), sn_ii (k := 40) (k' := 53) (by decide), sn_ii (k := 53) (k' := 52) (by decide), hp]
      unfold ins
      by_cases a : j < m
      · rw [if_pos a, if_pos a, sn_ij (by omega), sn_ij (by omega), sn_ii (by decide)]; exact lo j a
      · rw [if_neg a, if_neg a]
        by_cases b : j = m
        · rw [if_pos b, if_pos b, b, sn_ie, sn_ie]; exact ⟨hu, hw⟩
        · rw [if_neg b, if_neg b, sn_ij b, sn_ij b, sn_ii (by decide)]; exact hi' j (by omega) hj)
    simp only [ab_loc, ab_cat, ab_kil, ab_al, ab_ln, ab_lnp, ab_rf, sh_0, sh_1, sh_2, sh_3, sh_4, sh_5, sh_6, sh_7, sh_8, sh_9, sh_10, sh_11, sh_12, sh_13, sh_14, sh_20, sh_21, sh_22, sh_23, sh_24, sh_25, sh_30, sh_31, sh_32, sh_40, sh_41, sh_42, sh_43, sh_44, sh_45, sh_46, sh_47, sh_48, sh_49, sh_50, sh_51, sh_52, sh_53, sh_54, sh_55, sh_56, sh_57, sh_58, sh_59, sh_60, ct_0, ct_1, ct_2, ct_3, ct_4, ct_5, ct_6, ct_7, ct_8, ct_9, ct_10, ct_11, ct_12, ct_13, ct_14, ct_20, ct_21, ct_22, ct_23, ct_24, ct_25, ct_30, ct_31, ct_32, ct_40, ct_41, ct_42, ct_43, ct_44, ct_45, ct_46, ct_47, ct_48, ct_49, ct_50, ct_51, ct_52, ct_53, ct_54, ct_55, ct_56, ct_57, ct_58, ct_59, ct_60, ki_m1, ki_0, ki_1, ki_2, ki_3, ki_4, ki_5, kb_m2, kb_m3, kb_m4, kb_m8, kb_m9, kb_10, kb_100, kb_16, kb_36, kb_6, kb_63, kb_8, kb_9, kb_99, ks_216, ks_2520, ks_256, ks_800, kl_0, kl_1, ↓reduceIte, reduceCtorEq, Nat.reduceAdd, Nat.reduceLT, Nat.reduceLeDiff, Nat.reduceEqDiff, List.map_cons, List.map_nil, List.sum_cons, List.sum_nil, List.cons_append, List.nil_append, Option.toList_some, Option.toList_none, true_and, and_true, true_or, or_true, not_true_eq_false, not_false_eq_true, Nat.lt_add_one, Nat.zero_le, eq_self, or_false, false_or, implies_true, forall_const, false_implies, forall_false, true_implies, and_self, Nat.zero_lt_one, Nat.add_zero, Nat.zero_add, Int32.reduceLT, Int32.reduceLE, Int32.reduceAdd, Int32.reduceSub, Int32.reduceMul, e10, e01, ite_self, ab_mx, ab_mi, ab_mb, ab_ml2, rX8_addBreak_66, rX8_addBreak_67, rX8_addBreak_70, rX8_addBreak_71, rX8_addBreak_72, rX8_addBreak_73, rX8_addBreak_74, rX8_addBreak_77, rX8_addBreak_78, rX8_addBreak_79, rX8_addBreak_80, rX8_addBreak_81i, rX8_addBreak_81a, rX8_addBreak_82, rX8_addBreak_85, rX8_addBreak_86, rX8_addBreak_87, rX8_addBreak_90, vp, np, sn_ii (show ¬ 40 = 52 by decide), sn_ii (show ¬ 40 = 53 by decide)]
    exact F
  have key : ∀ (m : Nat) (p : Int32) (c : ab_S), p.toInt = m → m ≤ n → plB A B U V n = plB A B U V m → fr brS σ1 c → c.1 40 0 11 = σ.1 40 0 11 → (∀ j, j < m → (c.1 52 0 j).toInt = A j ∧ (c.1 53 0 j).toInt = B j) → (∀ j, m < j → j < n + 1 → (c.1 52 0 j).toInt = A (j - 1) ∧ (c.1 53 0 j).toInt = B (j - 1)) → ab_wp mX8_addBreak cX8_addBreak none P 5 [some (.inr (some (40, 0))), some (.inl (.inl u)), some (.inl (.inl w)), some (.inl (.inl p))] [] c := by
    intro m
    induction m with
    | zero =>
      intro p c em hm hp hc c0 lo hi'
      have q : p ≤ 0 := Int32.le_iff_toInt_le.mpr (by rw [t0i]; omega)
      rw [rX8_addBreak_5, rX8_addBreak_6, if_pos q]
      exact fin p 0 c em hm hp hc c0 lo hi'
    | succ m ih =>
      intro p c em hm hp hc c0 lo hi'
      have q : ¬ p ≤ 0 := fun q => by have q := le32 q; rw [t0i] at q; omega
      have lom := lo m (by omega)
      have bm := hb m (by omega)
      have x0 : 0 ≤ A m * V := Int.mul_nonneg bm.1.1 bw.1
      have x1 : A m * V ≤ 72 * 72 := Int.mul_le_mul bm.1.2 bw.2 bw.1 (by decide)
      have y0 : 0 ≤ U * B m := Int.mul_nonneg bu.1 bm.2.1
      have y1 : U * B m ≤ 72 * 72 := Int.mul_le_mul bu.2 bm.2.2 bm.2.1 (by decide)
      have ex : (c.1 52 0 m * w).toInt = A m * V := by rw [i32_mul (by rw [lom.1, hw]; omega) (by rw [lom.1, hw]; omega), lom.1, hw]
      have ey : (u * c.1 53 0 m).toInt = U * B m := by rw [i32_mul (by rw [lom.2, hu]; omega) (by rw [lom.2, hu]; omega), lom.2, hu]
      have hp' : plB A B U V (m + 1) = if U * B m < A m * V then plB A B U V m else m + 1 := rfl
      by_cases a : U * B m < A m * V
      · have b : ¬ c.1 52 0 m * w ≤ u * c.1 53 0 m := fun w' => by have w' := le32 w'; rw [ex, ey] at w'; omega
        rw [if_pos a] at hp'
        have F := ih (p + -1) (ab_si (ab_si c 52 0 (m + 1) (c.1 52 0 m)) 53 0 (m + 1) (c.1 53 0 m)) (dc_of em) (by omega) (hp.trans hp') ((hc.si 52 0 _ rfl (i32_lo _) (i32_hi _)).si 53 0 _ rfl (i32_lo _) (i32_hi _)) c0 (fun j hj => by
          rw [sn_ii (by decide), sn_ij (by omega), sn_ij (by omega), sn_ii (by decide)]
          exact lo j (by omega)) (fun j hj hj' => by
          rw [sn_ii (k := 53) (k' := 52) (by decide)]
          by_cases e : j = m + 1
          · rw [e, sn_ie, sn_ie]; exact lom
          · rw [sn_ij e, sn_ij e, sn_ii (by decide)]; exact hi' j (by omega) hj')
        obtain ⟨vp, np⟩ := v16_of em (by omega)
        obtain ⟨vp1, np1⟩ := m16_of em (by omega)
        rw [rX8_addBreak_5]
        simp only [ab_loc, ab_cat, ab_kil, ab_al, ab_ln, ab_lnp, ab_rf, sh_0, sh_1, sh_2, sh_3, sh_4, sh_5, sh_6, sh_7, sh_8, sh_9, sh_10, sh_11, sh_12, sh_13, sh_14, sh_20, sh_21, sh_22, sh_23, sh_24, sh_25, sh_30, sh_31, sh_32, sh_40, sh_41, sh_42, sh_43, sh_44, sh_45, sh_46, sh_47, sh_48, sh_49, sh_50, sh_51, sh_52, sh_53, sh_54, sh_55, sh_56, sh_57, sh_58, sh_59, sh_60, ct_0, ct_1, ct_2, ct_3, ct_4, ct_5, ct_6, ct_7, ct_8, ct_9, ct_10, ct_11, ct_12, ct_13, ct_14, ct_20, ct_21, ct_22, ct_23, ct_24, ct_25, ct_30, ct_31, ct_32, ct_40, ct_41, ct_42, ct_43, ct_44, ct_45, ct_46, ct_47, ct_48, ct_49, ct_50, ct_51, ct_52, ct_53, ct_54, ct_55, ct_56, ct_57, ct_58, ct_59, ct_60, ki_m1, ki_0, ki_1, ki_2, ki_3, ki_4, ki_5, kb_m2, kb_m3, kb_m4, kb_m8, kb_m9, kb_10, kb_100, kb_16, kb_36, kb_6, kb_63, kb_8, kb_9, kb_99, ks_216, ks_2520, ks_256, ks_800, kl_0, kl_1, ↓reduceIte, reduceCtorEq, Nat.reduceAdd, Nat.reduceLT, Nat.reduceLeDiff, Nat.reduceEqDiff, List.map_cons, List.map_nil, List.sum_cons, List.sum_nil, List.cons_append, List.nil_append, Option.toList_some, Option.toList_none, true_and, and_true, true_or, or_true, not_true_eq_false, not_false_eq_true, Nat.lt_add_one, Nat.zero_le, eq_self, or_false, false_or, implies_true, forall_const, false_implies, forall_false, true_implies, and_self, Nat.zero_lt_one, Nat.add_zero, Nat.zero_add, Int32.reduceLT, Int32.reduceLE, Int32.reduceAdd, Int32.reduceSub, Int32.reduceMul, e10, e01, ite_self, ab_mx, ab_mi, ab_mb, ab_ml2, rX8_addBreak_6, rX8_addBreak_9, rX8_addBreak_10, rX8_addBreak_13, rX8_addBreak_14, rX8_addBreak_15, rX8_addBreak_16, rX8_addBreak_17, rX8_addBreak_18, rX8_addBreak_19, rX8_addBreak_20, rX8_addBreak_21, rX8_addBreak_24, rX8_addBreak_25, rX8_addBreak_26, rX8_addBreak_27, rX8_addBreak_28, rX8_addBreak_29, rX8_addBreak_32, rX8_addBreak_33, rX8_addBreak_36, rX8_addBreak_37, rX8_addBreak_38, rX8_addBreak_41, rX8_addBreak_42, rX8_addBreak_43, rX8_addBreak_44, rX8_addBreak_45, rX8_addBreak_46, rX8_addBreak_47, rX8_addBreak_50, rX8_addBreak_51, rX8_addBreak_52, rX8_addBreak_55, rX8_addBreak_56, rX8_addBreak_57, rX8_addBreak_58, rX8_addBreak_59, rX8_addBreak_60, rX8_addBreak_63, q, vp, np, vp1, np1, b, sn_ii (show ¬ 53 = 52 by decide)]
        exact F
      · have b : c.1 52 0 m * w ≤ u * c.1 53 0 m := Int32.le_iff_toInt_le.mpr (by rw [ex, ey]; omega)
        rw [if_neg a] at hp'
        have F := fin p (m + 1) c em hm (hp.trans hp') hc c0 lo hi'
        obtain ⟨vp1, np1⟩ := m16_of em (by omega)
        rw [rX8_addBreak_5]
        simp only [ab_loc, ab_cat, ab_kil, ab_al, ab_ln, ab_lnp, ab_rf, sh_0, sh_1, sh_2, sh_3, sh_4, sh_5, sh_6, sh_7, sh_8, sh_9, sh_10, sh_11, sh_12, sh_13, sh_14, sh_20, sh_21, sh_22, sh_23, sh_24, sh_25, sh_30, sh_31, sh_32, sh_40, sh_41, sh_42, sh_43, sh_44, sh_45, sh_46, sh_47, sh_48, sh_49, sh_50, sh_51, sh_52, sh_53, sh_54, sh_55, sh_56, sh_57, sh_58, sh_59, sh_60, ct_0, ct_1, ct_2, ct_3, ct_4, ct_5, ct_6, ct_7, ct_8, ct_9, ct_10, ct_11, ct_12, ct_13, ct_14, ct_20, ct_21, ct_22, ct_23, ct_24, ct_25, ct_30, ct_31, ct_32, ct_40, ct_41, ct_42, ct_43, ct_44, ct_45, ct_46, ct_47, ct_48, ct_49, ct_50, ct_51, ct_52, ct_53, ct_54, ct_55, ct_56, ct_57, ct_58, ct_59, ct_60, ki_m1, ki_0, ki_1, ki_2, ki_3, ki_4, ki_5, kb_m2, kb_m3, kb_m4, kb_m8, kb_m9, kb_10, kb_100, kb_16, kb_36, kb_6, kb_63, kb_8, kb_9, kb_99, ks_216, ks_2520, ks_256, ks_800, kl_0, kl_1, ↓reduceIte, reduceCtorEq, Nat.reduceAdd, Nat.reduceLT, Nat.reduceLeDiff, Nat.reduceEqDiff, List.map_cons, List.map_nil, List.sum_cons, List.sum_nil, List.cons_append, List.nil_append, Option.toList_some, Option.toList_none, true_and, and_true, true_or, or_true, not_true_eq_false, not_false_eq_true, Nat.lt_add_one, Nat.zero_le, eq_self, or_false, false_or, implies_true, forall_const, false_implies, forall_false, true_implies, and_self, Nat.zero_lt_one, Nat.add_zero, Nat.zero_add, Int32.reduceLT, Int32.reduceLE, Int32.reduceAdd, Int32.reduceSub, Int32.reduceMul, e10, e01, ite_self, ab_mx, ab_mi, ab_mb, ab_ml2, rX8_addBreak_6, rX8_addBreak_9, rX8_addBreak_10, rX8_addBreak_13, rX8_addBreak_14, rX8_addBreak_15, rX8_addBreak_16, rX8_addBreak_17, rX8_addBreak_18, rX8_addBreak_19, rX8_addBreak_20, rX8_addBreak_21, rX8_addBreak_24, rX8_addBreak_25, rX8_addBreak_26, rX8_addBreak_27, rX8_addBreak_28, rX8_addBreak_29, q, vp1, np1, b]
        exact F
  have K := key n (σ.1 40 0 11) σ hn (Nat.le_refl n) rfl hF rfl hA (fun j h1 h2 => absurd h2 (by omega))
  simp only [ab_loc, ab_cat, ab_kil, ab_al, ab_ln, ab_lnp, ab_rf, sh_0, sh_1, sh_2, sh_3, sh_4, sh_5, sh_6, sh_7, sh_8, sh_9, sh_10, sh_11, sh_12, sh_13, sh_14, sh_20, sh_21, sh_22, sh_23, sh_24, sh_25, sh_30, sh_31, sh_32, sh_40, sh_41, sh_42, sh_43, sh_44, sh_45, sh_46, sh_47, sh_48, sh_49, sh_50, sh_51, sh_52, sh_53, sh_54, sh_55, sh_56, sh_57, sh_58, sh_59, sh_60, ct_0, ct_1, ct_2, ct_3, ct_4, ct_5, ct_6, ct_7, ct_8, ct_9, ct_10, ct_11, ct_12, ct_13, ct_14, ct_20, ct_21, ct_22, ct_23, ct_24, ct_25, ct_30, ct_31, ct_32, ct_40, ct_41, ct_42, ct_43, ct_44, ct_45, ct_46, ct_47, ct_48, ct_49, ct_50, ct_51, ct_52, ct_53, ct_54, ct_55, ct_56, ct_57, ct_58, ct_59, ct_60, ki_m1, ki_0, ki_1, ki_2, ki_3, ki_4, ki_5, kb_m2, kb_m3, kb_m4, kb_m8, kb_m9, kb_10, kb_100, kb_16, kb_36, kb_6, kb_63, kb_8, kb_9, kb_99, ks_216, ks_2520, ks_256, ks_800, kl_0, kl_1, ↓reduceIte, reduceCtorEq, Nat.reduceAdd, Nat.reduceLT, Nat.reduceLeDiff, Nat.reduceEqDiff, List.map_cons, List.map_nil, List.sum_cons, List.sum_nil, List.cons_append, List.nil_append, Option.toList_some, Option.toList_none, true_and, and_true, true_or, or_true, not_true_eq_false, not_false_eq_true, Nat.lt_add_one, Nat.zero_le, eq_self, or_false, false_or, implies_true, forall_const, false_implies, forall_false, true_implies, and_self, Nat.zero_lt_one, Nat.add_zero, Nat.zero_add, Int32.reduceLT, Int32.reduceLE, Int32.reduceAdd, Int32.reduceSub, Int32.reduceMul, e10, e01, ite_self, ab_mx, ab_mi, ab_mb, ab_ml2, uX8_addBreak, rX8_addBreak_0, rX8_addBreak_1, rX8_addBreak_4]
  exact K
/-- the breaks, laid in order -/
def bkS (u w : Nat → Int) (n : Nat) : (Nat → Int) × (Nat → Int) := match n with
  | 0 => (fun _ => 0, fun _ => 0)
  | n + 1 => (ins (bkS u w n).1 (plB (bkS u w n).1 (bkS u w n).2 (u n) (w n) n) (u n), ins (bkS u w n).2 (plB (bkS u w n).1 (bkS u w n).2 (u n) (w n) n) (w n))
theorem ins2_all {Q : Int → Int → Prop} {A B : Nat → Int} {p n : Nat} {u w : Int} (h : ∀ j, j < n → Q (A j) (B j)) (hv : Q u w) (hp : p ≤ n) : ∀ j, j < n + 1 → Q (ins A p u j) (ins B p w j) := fun j hj => by
  unfold ins
  by_cases a : j < p
  · rw [if_pos a, if_pos a]; exact h j (by omega)
  · rw [if_neg a, if_neg a]
    by_cases b : j = p
    · rw [if_pos b, if_pos b]; exact hv
    · rw [if_neg b, if_neg b]; exact h (j - 1) (by omega)
theorem bk_all {Q : Int → Int → Prop} {u w : Nat → Int} : ∀ {n : Nat}, (∀ j, j < n → Q (u j) (w j)) → ∀ j, j < n → Q ((bkS u w n).1 j) ((bkS u w n).2 j)
  | 0, _ => fun j hj => absurd hj (Nat.not_lt_zero j)
  | n + 1, h => ins2_all (bk_all (fun j hj => h j (by omega))) (h n (by omega)) plB_le
theorem ins2_ex {Q : Int → Int → Prop} {A B : Nat → Int} {p n : Nat} {u w : Int} (hp : p ≤ n) : (∃ j, j < n + 1 ∧ Q (ins A p u j) (ins B p w j)) ↔ (∃ j, j < n ∧ Q (A j) (B j)) ∨ Q u w := by
  refine ⟨fun ⟨j, hj, h⟩ => ?_, fun h => ?_⟩
  · unfold ins at h
    by_cases a : j < p
    · rw [if_pos a, if_pos a] at h; exact Or.inl ⟨j, by omega, h⟩
    · rw [if_neg a, if_neg a] at h
      by_cases b : j = p
      · rw [if_pos b, if_pos b] at h; exact Or.inr h
      · rw [if_neg b, if_neg b] at h; exact Or.inl ⟨j - 1, by omega, h⟩
  · rcases h with ⟨j, hj, h⟩ | h
    · by_cases a : j < p
      · exact ⟨j, by omega, by unfold ins; rw [if_pos a, if_pos a]; exact h⟩
      · exact ⟨j + 1, by omega, by unfold ins; rw [if_neg (by omega), if_neg (by omega), if_neg (by omega), if_neg (by omega)]; exact h⟩
    · exact ⟨p, by omega, by unfold ins; rw [if_neg (Nat.lt_irrefl p), if_neg (Nat.lt_irrefl p), if_pos rfl, if_pos rfl]; exact h⟩
theorem bk_ex {Q : Int → Int → Prop} {u w : Nat → Int} : ∀ {n : Nat}, (∃ j, j < n ∧ Q ((bkS u w n).1 j) ((bkS u w n).2 j)) ↔ ∃ j, j < n ∧ Q (u j) (w j)
  | 0 => ⟨fun ⟨j, h, _⟩ => absurd h (Nat.not_lt_zero j), fun ⟨j, h, _⟩ => absurd h (Nat.not_lt_zero j)⟩
  | n + 1 => by
    refine (ins2_ex plB_le).trans ⟨fun h => ?_, fun ⟨j, hj, h⟩ => ?_⟩
    · rcases h with h | h
      · obtain ⟨j, hj, h⟩ := bk_ex.mp h
        exact ⟨j, by omega, h⟩
      · exact ⟨n, by omega, h⟩
    · by_cases e : j = n
      · rw [e] at h; exact Or.inr h
      · exact Or.inl (bk_ex.mpr ⟨j, by omega, h⟩)
