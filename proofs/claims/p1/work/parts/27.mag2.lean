def g2 (n : Nat) (k : Int32) (s : Nat) : Bool := gm n k (nI (s / 36)) (nI (s / 6 % 6)) (nI (s % 6))
set_option maxHeartbeats 4000000 in
set_option maxRecDepth 100000 in
theorem m_agl {n : Nat} {kind k : Int32} {P : ab_P} (hw : mwg n kind k) : ∀ (m s : Nat), s + m = 216 → (∀ σ, P (some (.inl (.inl (rf (g2 n k) m s)))) σ) → ∀ σ, ab_wp mX8_firstAgainst cX8_firstAgainst none P 2 [some (.inr (some (40, 0))), some (.inl (.inl kind)), some (.inl (.inl k)), some (.inl (.inl (nI s)))] [] σ := by
  intro m
  induction m with
  | zero =>
    intro s hs hq σ
    have e : s = 216 := by omega
    subst e
    simp only [ab_loc, ab_cat, ab_kil, ab_al, ab_ln, ab_lnp, ab_rf, sh_0, sh_1, sh_2, sh_3, sh_4, sh_5, sh_6, sh_7, sh_8, sh_9, sh_10, sh_11, sh_12, sh_13, sh_14, sh_20, sh_21, sh_22, sh_23, sh_24, sh_25, sh_30, sh_31, sh_32, sh_40, sh_41, sh_42, sh_43, sh_44, sh_45, sh_46, sh_47, sh_48, sh_49, sh_50, sh_51, sh_52, sh_53, sh_54, sh_55, sh_56, sh_57, sh_58, sh_59, sh_60, ct_0, ct_1, ct_2, ct_3, ct_4, ct_5, ct_6, ct_7, ct_8, ct_9, ct_10, ct_11, ct_12, ct_13, ct_14, ct_20, ct_21, ct_22, ct_23, ct_24, ct_25, ct_30, ct_31, ct_32, ct_40, ct_41, ct_42, ct_43, ct_44, ct_45, ct_46, ct_47, ct_48, ct_49, ct_50, ct_51, ct_52, ct_53, ct_54, ct_55, ct_56, ct_57, ct_58, ct_59, ct_60, ki_m1, ki_0, ki_1, ki_2, ki_3, ki_4, ki_5, kb_m2, kb_m3, kb_m4, kb_m8, kb_m9, kb_10, kb_100, kb_16, kb_36, kb_6, kb_63, kb_8, kb_9, kb_99, ks_216, ks_2520, ks_256, ks_800, kl_0, kl_1, ↓reduceIte, reduceCtorEq, Nat.reduceAdd, Nat.reduceLT, Nat.reduceLeDiff, Nat.reduceEqDiff, List.map_cons, List.map_nil, List.sum_cons, List.sum_nil, List.cons_append, List.nil_append, Option.toList_some, Option.toList_none, true_and, and_true, true_or, or_true, not_true_eq_false, not_false_eq_true, Nat.lt_add_one, Nat.zero_le, eq_self, or_false, false_or, implies_true, forall_const, false_implies, forall_false, true_implies, and_self, Nat.zero_lt_one, Nat.add_zero, Nat.zero_add, Int32.reduceLT, Int32.reduceLE, Int32.reduceAdd, Int32.reduceSub, Int32.reduceMul, e10, e01, ite_self, ab_mx, ab_mi, ab_mb, ab_ml2, rX8_firstAgainst_2, rX8_firstAgainst_3, rX8_firstAgainst_6, rX8_firstAgainst_27, rX8_firstAgainst_29, nI216]
    exact hq σ
  | succ m ih =>
    intro s hs hq σ
    have hs6 : s < 216 := by omega
    have hlt : ¬ (216 : Int32) ≤ nI s := by rw [← nI216]; exact nI_ge hs6 (by omega)
    simp only [ab_loc, ab_cat, ab_kil, ab_al, ab_ln, ab_lnp, ab_rf, sh_0, sh_1, sh_2, sh_3, sh_4, sh_5, sh_6, sh_7, sh_8, sh_9, sh_10, sh_11, sh_12, sh_13, sh_14, sh_20, sh_21, sh_22, sh_23, sh_24, sh_25, sh_30, sh_31, sh_32, sh_40, sh_41, sh_42, sh_43, sh_44, sh_45, sh_46, sh_47, sh_48, sh_49, sh_50, sh_51, sh_52, sh_53, sh_54, sh_55, sh_56, sh_57, sh_58, sh_59, sh_60, ct_0, ct_1, ct_2, ct_3, ct_4, ct_5, ct_6, ct_7, ct_8, ct_9, ct_10, ct_11, ct_12, ct_13, ct_14, ct_20, ct_21, ct_22, ct_23, ct_24, ct_25, ct_30, ct_31, ct_32, ct_40, ct_41, ct_42, ct_43, ct_44, ct_45, ct_46, ct_47, ct_48, ct_49, ct_50, ct_51, ct_52, ct_53, ct_54, ct_55, ct_56, ct_57, ct_58, ct_59, ct_60, ki_m1, ki_0, ki_1, ki_2, ki_3, ki_4, ki_5, kb_m2, kb_m3, kb_m4, kb_m8, kb_m9, kb_10, kb_100, kb_16, kb_36, kb_6, kb_63, kb_8, kb_9, kb_99, ks_216, ks_2520, ks_256, ks_800, kl_0, kl_1, ↓reduceIte, reduceCtorEq, Nat.reduceAdd, Nat.reduceLT, Nat.reduceLeDiff, Nat.reduceEqDiff, List.map_cons, List.map_nil, List.sum_cons, List.sum_nil, List.cons_append, List.nil_append, Option.toList_some, Option.toList_none, true_and, and_true, true_or, or_true, not_true_eq_false, not_false_eq_true, Nat.lt_add_one, Nat.zero_le, eq_self, or_false, false_or, implies_true, forall_const, false_implies, forall_false, true_implies, and_self, Nat.zero_lt_one, Nat.add_zero, Nat.zero_add, Int32.reduceLT, Int32.reduceLE, Int32.reduceAdd, Int32.reduceSub, Int32.reduceMul, e10, e01, ite_self, ab_mx, ab_mi, ab_mb, ab_ml2, rX8_firstAgainst_2, rX8_firstAgainst_3, rX8_firstAgainst_6, rX8_firstAgainst_9, rX8_firstAgainst_10, rX8_firstAgainst_11, rX8_firstAgainst_12, rX8_firstAgainst_13, hlt]
    refine m_isAg hw hs6 rfl rfl rfl (fun σ' => ?_)
    by_cases hg : gm n k (nI (s / 36)) (nI (s / 6 % 6)) (nI (s % 6)) = true
    · simp only [ab_loc, ab_cat, ab_kil, ab_al, ab_ln, ab_lnp, ab_rf, sh_0, sh_1, sh_2, sh_3, sh_4, sh_5, sh_6, sh_7, sh_8, sh_9, sh_10, sh_11, sh_12, sh_13, sh_14, sh_20, sh_21, sh_22, sh_23, sh_24, sh_25, sh_30, sh_31, sh_32, sh_40, sh_41, sh_42, sh_43, sh_44, sh_45, sh_46, sh_47, sh_48, sh_49, sh_50, sh_51, sh_52, sh_53, sh_54, sh_55, sh_56, sh_57, sh_58, sh_59, sh_60, ct_0, ct_1, ct_2, ct_3, ct_4, ct_5, ct_6, ct_7, ct_8, ct_9, ct_10, ct_11, ct_12, ct_13, ct_14, ct_20, ct_21, ct_22, ct_23, ct_24, ct_25, ct_30, ct_31, ct_32, ct_40, ct_41, ct_42, ct_43, ct_44, ct_45, ct_46, ct_47, ct_48, ct_49, ct_50, ct_51, ct_52, ct_53, ct_54, ct_55, ct_56, ct_57, ct_58, ct_59, ct_60, ki_m1, ki_0, ki_1, ki_2, ki_3, ki_4, ki_5, kb_m2, kb_m3, kb_m4, kb_m8, kb_m9, kb_10, kb_100, kb_16, kb_36, kb_6, kb_63, kb_8, kb_9, kb_99, ks_216, ks_2520, ks_256, ks_800, kl_0, kl_1, ↓reduceIte, reduceCtorEq, Nat.reduceAdd, Nat.reduceLT, Nat.reduceLeDiff, Nat.reduceEqDiff, List.map_cons, List.map_nil, List.sum_cons, List.sum_nil, List.cons_append, List.nil_append, Option.toList_some, Option.toList_none, true_and, and_true, true_or, or_true, not_true_eq_false, not_false_eq_true, Nat.lt_add_one, Nat.zero_le, eq_self, or_false, false_or, implies_true, forall_const, false_implies, forall_false, true_implies, and_self, Nat.zero_lt_one, Nat.add_zero, Nat.zero_add, Int32.reduceLT, Int32.reduceLE, Int32.reduceAdd, Int32.reduceSub, Int32.reduceMul, e10, e01, ite_self, ab_mx, ab_mi, ab_mb, ab_ml2, rX8_firstAgainst_16, rX8_firstAgainst_19, rX8_firstAgainst_20, hg]
      have := hq σ'
      unfold rf at this
      rw [if_pos (show g2 n k s = true from hg)] at this
      exact this
    · simp only [ab_loc, ab_cat, ab_kil, ab_al, ab_ln, ab_lnp, ab_rf, sh_0, sh_1, sh_2, sh_3, sh_4, sh_5, sh_6, sh_7, sh_8, sh_9, sh_10, sh_11, sh_12, sh_13, sh_14, sh_20, sh_21, sh_22, sh_23, sh_24, sh_25, sh_30, sh_31, sh_32, sh_40, sh_41, sh_42, sh_43, sh_44, sh_45, sh_46, sh_47, sh_48, sh_49, sh_50, sh_51, sh_52, sh_53, sh_54, sh_55, sh_56, sh_57, sh_58, sh_59, sh_60, ct_0, ct_1, ct_2, ct_3, ct_4, ct_5, ct_6, ct_7, ct_8, ct_9, ct_10, ct_11, ct_12, ct_13, ct_14, ct_20, ct_21, ct_22, ct_23, ct_24, ct_25, ct_30, ct_31, ct_32, ct_40, ct_41, ct_42, ct_43, ct_44, ct_45, ct_46, ct_47, ct_48, ct_49, ct_50, ct_51, ct_52, ct_53, ct_54, ct_55, ct_56, ct_57, ct_58, ct_59, ct_60, ki_m1, ki_0, ki_1, ki_2, ki_3, ki_4, ki_5, kb_m2, kb_m3, kb_m4, kb_m8, kb_m9, kb_10, kb_100, kb_16, kb_36, kb_6, kb_63, kb_8, kb_9, kb_99, ks_216, ks_2520, ks_256, ks_800, kl_0, kl_1, ↓reduceIte, reduceCtorEq, Nat.reduceAdd, Nat.reduceLT, Nat.reduceLeDiff, Nat.reduceEqDiff, List.map_cons, List.map_nil, List.sum_cons, List.sum_nil, List.cons_append, List.nil_append, Option.toList_some, Option.toList_none, true_and, and_true, true_or, or_true, not_true_eq_false, not_false_eq_true, Nat.lt_add_one, Nat.zero_le, eq_self, or_false, false_or, implies_true, forall_const, false_implies, forall_false, true_implies, and_self, Nat.zero_lt_one, Nat.add_zero, Nat.zero_add, Int32.reduceLT, Int32.reduceLE, Int32.reduceAdd, Int32.reduceSub, Int32.reduceMul, e10, e01, ite_self, ab_mx, ab_mi, ab_mb, ab_ml2, rX8_firstAgainst_16, rX8_firstAgainst_19, rX8_firstAgainst_20, rX8_firstAgainst_21, rX8_firstAgainst_24, hg]
      rw [nI_1 s]
      refine ih (s + 1) (by omega) (fun σ'' => ?_) σ'
      have := hq σ''
      unfold rf at this
      rw [if_neg (show ¬ g2 n k s = true from hg)] at this
      exact this
theorem rf_cong {f g : Nat → Bool} : ∀ (m s : Nat), s + m = 216 → (∀ i, i < 216 → f i = g i) → rf f m s = rf g m s
  | 0, _, _, _ => rfl
  | m + 1, s, h, hfg => by
    unfold rf
    rw [hfg s (by omega), rf_cong m (s + 1) (by omega) hfg]
theorem mwg_of {kind k : Int32} (h : tk2 kind k = true) : mwg (kn kind) kind k := by
  rcases tk_kind h with rfl | rfl | rfl | rfl | rfl | rfl
  · exact m_wg0 k
  · exact m_wg1 k
  · exact m_wg2 k
  · exact m_wg3 k
  · exact m_wg4 k
  · exact m_wg5 k
theorem gq0 : ∀ s, s < 216 → g1 0 0 s = g2 0 0 s := by decide +kernel
theorem gq1 : ∀ s, s < 216 → g1 1 0 s = g2 1 0 s := by decide +kernel
theorem gq5 : ∀ s, s < 216 → g1 5 0 s = g2 5 0 s := by decide +kernel
theorem gq2 : ∀ j, j < 9 → ∀ s, s < 216 → g1 2 (nI j) s = g2 2 (nI j) s := by decide +kernel
theorem gq0k (k : Int32) : ∀ s, s < 216 → g1 0 k s = g2 0 k s := fun s hs => by
  have e := gq0 s hs
  simp only [g1, g2, gs, gm, w1, w2, ax, um, dn] at e ⊢
  exact e
theorem gq1k (k : Int32) : ∀ s, s < 216 → g1 1 k s = g2 1 k s := fun s hs => by
  have e := gq1 s hs
  simp only [g1, g2, gs, gm, w1, w2, ax, um, dn] at e ⊢
  exact e
theorem gq5k (k : Int32) : ∀ s, s < 216 → g1 5 k s = g2 5 k s := fun s hs => by
  have e := gq5 s hs
  simp only [g1, g2, gs, gm, w1, w2, ax, um, dn] at e ⊢
  exact e
def t3 (p q r : Bool) : Int64 := if r = true then (if q = true then (if p = true then 0 else 0 + 1) else (if p = true then 0 else 0 + 1) + 1) else (if q = true then (if p = true then 0 else 0 + 1) else (if p = true then 0 else 0 + 1) + 1) + 1
def q3 (p q r : Bool) : Int64 := (0 + (if p = true then 0 else 1) + (if q = true then 0 else 1) + (if r = true then 0 else 1) : Int32).toInt64
theorem ax3_t (k a b c : Int32) : ax 3 k a b c = t3 (decide (k ≤ a)) (decide (k ≤ b)) (decide (k ≤ c)) := by
  by_cases h1 : k ≤ a <;> by_cases h2 : k ≤ b <;> by_cases h3 : k ≤ c <;> simp only [ax, ax3, t3, h1, h2, h3, decide_true, decide_false, if_true, if_false, Bool.false_eq_true]
theorem um3_t (k a b c : Int32) : um 3 k a b c = q3 (decide (k ≤ a)) (decide (k ≤ b)) (decide (k ≤ c)) := by
  by_cases h1 : k ≤ a <;> by_cases h2 : k ≤ b <;> by_cases h3 : k ≤ c <;> simp only [um, ulk, uk, q3, h1, h2, h3, decide_true, decide_false, if_true, if_false, Bool.false_eq_true]
theorem tq3 : ∀ p q r p' q' r' : Bool, (!decide (t3 p' q' r' ≤ t3 p q r)) = (!decide (q3 p' q' r' * (3 : Int32).toInt64 ≤ q3 p q r * (3 : Int32).toInt64)) := by decide +kernel
theorem weq3 (k a b c a' b' c' : Int32) : w1 3 k a b c a' b' c' = w2 3 k a b c a' b' c' := by
  unfold w1 w2
  rw [ax3_t, ax3_t, um3_t, um3_t]
  exact tq3 _ _ _ _ _ _
theorem mx4 : ∀ j, j < 100 → ∀ x, x < 7 → mx2 0 (nI j - nI x) = nI (j - x) := by decide +kernel
theorem uk4 : ∀ j, j < 100 → ∀ x, x < 7 → (if nI j ≤ nI x then (0 : Int32) else if (1 : Int32) = 0 then 1 else nI j - nI x) = nI (j - x) := by decide +kernel
theorem ax4_n {j x y z : Nat} (hj : j < 100) (hx : x < 7) (hy : y < 7) (hz : z < 7) : ax 4 (nI j) (nI x) (nI y) (nI z) = lN ((j - x) + (j - y) + (j - z)) := by
  show ax4 _ _ _ _ = _
  unfold ax4
  rw [mx4 j hj x hx, mx4 j hj y hy, mx4 j hj z hz, nI_l (by omega), nI_l (by omega), nI_l (by omega)]
  rw [show (0 : Int64) = lN 0 from by decide, lN_add, lN_add, lN_add]
  congr 1
  omega
theorem um4_n {j x y z : Nat} (hj : j < 100) (hx : x < 7) (hy : y < 7) (hz : z < 7) : um 4 (nI j) (nI x) (nI y) (nI z) = lN ((j - x) + (j - y) + (j - z)) := by
  show (ulk _ _ _ _ _).toInt64 = _
  unfold ulk uk
  rw [uk4 j hj x hx, uk4 j hj y hy, uk4 j hj z hz]
  rw [show (0 : Int32) = nI 0 from by decide, nI_add, nI_add, nI_add, nI_l (by omega)]
  congr 1
  omega
theorem weq4 {j x y z x' y' z' : Nat} (hj : j < 100) (hx : x < 7) (hy : y < 7) (hz : z < 7) (hx' : x' < 7) (hy' : y' < 7) (hz' : z' < 7) : w1 4 (nI j) (nI x) (nI y) (nI z) (nI x') (nI y') (nI z') = w2 4 (nI j) (nI x) (nI y) (nI z) (nI x') (nI y') (nI z') := by
  unfold w1 w2
  rw [ax4_n hj hx hy hz, ax4_n hj hx' hy' hz', um4_n hj hx hy hz, um4_n hj hx' hy' hz']
  have e : ∀ p q : Nat, p < 400 → q < 400 → ((lN p ≤ lN q) = (lN p * dn 4 (nI x) (nI y) (nI z) ≤ lN q * dn 4 (nI x') (nI y') (nI z'))) := by
    intro p q hp hq
    show _ = (lN p * (3 : Int32).toInt64 ≤ lN q * (3 : Int32).toInt64)
    rw [show (3 : Int32).toInt64 = lN 3 from by decide, lN_mul, lN_mul, lN_le (by omega) (by omega), lN_le (by omega) (by omega)]
    exact propext ⟨fun h => by omega, fun h => by omega⟩
  have h1 := e ((j - x') + (j - y') + (j - z')) ((j - x) + (j - y) + (j - z)) (by omega) (by omega)
  simp only [h1]
theorem nm1 {x : Nat} (h : 1 ≤ x) : nI x - 1 = nI (x - 1) := by
  obtain ⟨y, rfl⟩ : ∃ y, x = y + 1 := ⟨x - 1, by omega⟩
  exact nI_pred y
theorem n2 (x : Nat) : nI x + 2 = nI (x + 2) := by rw [show (2 : Int32) = nI 2 from by decide, nI_add]
theorem gq3 {k : Int32} {x y z : Nat} (hx0 : x < 6) (hy0 : y < 6) (hz0 : z < 6) : gs 3 k (nI x) (nI y) (nI z) = gm 3 k (nI x) (nI y) (nI z) := by
  have hx : x < 7 := by omega
  have hy : y < 7 := by omega
  have hz : z < 7 := by omega
  have e01 : (!decide (nI x < nI y + 2) && w1 3 k (nI x) (nI y) (nI z) (nI x - 1 + 0) (nI y - 0 + 1) (nI z - 0 + 0)) = (!decide (nI x < nI y + 2) && w2 3 k (nI x) (nI y) (nI z) (nI x - 1) (nI y + 1) (nI z)) := by
    by_cases h : nI x < nI y + 2
    · simp only [h, decide_true, Bool.not_true, Bool.false_and]
    · have hge : y + 2 ≤ x := by
        rw [n2] at h
        rcases Nat.lt_or_ge x (y + 2) with q | q
        · exact absurd (nI_lt q (by omega)) h
        · exact q
      simp only [Int32.sub_zero, Int32.add_zero, nm1 (show 1 ≤ x by omega), nI_1]
      rw [weq3 _ _ _ _ _ _ _]
  have e02 : (!decide (nI x < nI z + 2) && w1 3 k (nI x) (nI y) (nI z) (nI x - 1 + 0) (nI y - 0 + 0) (nI z - 0 + 1)) = (!decide (nI x < nI z + 2) && w2 3 k (nI x) (nI y) (nI z) (nI x - 1) (nI y) (nI z + 1)) := by
    by_cases h : nI x < nI z + 2
    · simp only [h, decide_true, Bool.not_true, Bool.false_and]
    · have hge : z + 2 ≤ x := by
        rw [n2] at h
        rcases Nat.lt_or_ge x (z + 2) with q | q
        · exact absurd (nI_lt q (by omega)) h
        · exact q
      simp only [Int32.sub_zero, Int32.add_zero, nm1 (show 1 ≤ x by omega), nI_1]
      rw [weq3 _ _ _ _ _ _ _]
  have e10 : (!decide (nI y < nI x + 2) && w1 3 k (nI x) (nI y) (nI z) (nI x - 0 + 1) (nI y - 1 + 0) (nI z - 0 + 0)) = (!decide (nI y < nI x + 2) && w2 3 k (nI x) (nI y) (nI z) (nI x + 1) (nI y - 1) (nI z)) := by
    by_cases h : nI y < nI x + 2
    · simp only [h, decide_true, Bool.not_true, Bool.false_and]
    · have hge : x + 2 ≤ y := by
        rw [n2] at h
        rcases Nat.lt_or_ge y (x + 2) with q | q
        · exact absurd (nI_lt q (by omega)) h
        · exact q
      simp only [Int32.sub_zero, Int32.add_zero, nm1 (show 1 ≤ y by omega), nI_1]
      rw [weq3 _ _ _ _ _ _ _]
  have e12 : (!decide (nI y < nI z + 2) && w1 3 k (nI x) (nI y) (nI z) (nI x - 0 + 0) (nI y - 1 + 0) (nI z - 0 + 1)) = (!decide (nI y < nI z + 2) && w2 3 k (nI x) (nI y) (nI z) (nI x) (nI y - 1) (nI z + 1)) := by
    by_cases h : nI y < nI z + 2
    · simp only [h, decide_true, Bool.not_true, Bool.false_and]
    · have hge : z + 2 ≤ y := by
        rw [n2] at h
        rcases Nat.lt_or_ge y (z + 2) with q | q
        · exact absurd (nI_lt q (by omega)) h
        · exact q
      simp only [Int32.sub_zero, Int32.add_zero, nm1 (show 1 ≤ y by omega), nI_1]
      rw [weq3 _ _ _ _ _ _ _]
  have e20 : (!decide (nI z < nI x + 2) && w1 3 k (nI x) (nI y) (nI z) (nI x - 0 + 1) (nI y - 0 + 0) (nI z - 1 + 0)) = (!decide (nI z < nI x + 2) && w2 3 k (nI x) (nI y) (nI z) (nI x + 1) (nI y) (nI z - 1)) := by
    by_cases h : nI z < nI x + 2
    · simp only [h, decide_true, Bool.not_true, Bool.false_and]
    · have hge : x + 2 ≤ z := by
        rw [n2] at h
        rcases Nat.lt_or_ge z (x + 2) with q | q
        · exact absurd (nI_lt q (by omega)) h
        · exact q
      simp only [Int32.sub_zero, Int32.add_zero, nm1 (show 1 ≤ z by omega), nI_1]
      rw [weq3 _ _ _ _ _ _ _]
  have e21 : (!decide (nI z < nI y + 2) && w1 3 k (nI x) (nI y) (nI z) (nI x - 0 + 0) (nI y - 0 + 1) (nI z - 1 + 0)) = (!decide (nI z < nI y + 2) && w2 3 k (nI x) (nI y) (nI z) (nI x) (nI y + 1) (nI z - 1)) := by
    by_cases h : nI z < nI y + 2
    · simp only [h, decide_true, Bool.not_true, Bool.false_and]
    · have hge : y + 2 ≤ z := by
        rw [n2] at h
        rcases Nat.lt_or_ge z (y + 2) with q | q
        · exact absurd (nI_lt q (by omega)) h
        · exact q
      simp only [Int32.sub_zero, Int32.add_zero, nm1 (show 1 ≤ z by omega), nI_1]
      rw [weq3 _ _ _ _ _ _ _]
  unfold gs gm
  rw [e01, e02, e10, e12, e20, e21]
theorem gq4 {j : Nat} (hj : j < 100) {x y z : Nat} (hx0 : x < 6) (hy0 : y < 6) (hz0 : z < 6) : gs 4 (nI j) (nI x) (nI y) (nI z) = gm 4 (nI j) (nI x) (nI y) (nI z) := by
  have hx : x < 7 := by omega
  have hy : y < 7 := by omega
  have hz : z < 7 := by omega
  have e01 : (!decide (nI x < nI y + 2) && w1 4 (nI j) (nI x) (nI y) (nI z) (nI x - 1 + 0) (nI y - 0 + 1) (nI z - 0 + 0)) = (!decide (nI x < nI y + 2) && w2 4 (nI j) (nI x) (nI y) (nI z) (nI x - 1) (nI y + 1) (nI z)) := by
    by_cases h : nI x < nI y + 2
    · simp only [h, decide_true, Bool.not_true, Bool.false_and]
    · have hge : y + 2 ≤ x := by
        rw [n2] at h
        rcases Nat.lt_or_ge x (y + 2) with q | q
        · exact absurd (nI_lt q (by omega)) h
        · exact q
      simp only [Int32.sub_zero, Int32.add_zero, nm1 (show 1 ≤ x by omega), nI_1]
      rw [weq4 hj hx hy hz (by omega) (by omega) (by omega)]
  have e02 : (!decide (nI x < nI z + 2) && w1 4 (nI j) (nI x) (nI y) (nI z) (nI x - 1 + 0) (nI y - 0 + 0) (nI z - 0 + 1)) = (!decide (nI x < nI z + 2) && w2 4 (nI j) (nI x) (nI y) (nI z) (nI x - 1) (nI y) (nI z + 1)) := by
    by_cases h : nI x < nI z + 2
    · simp only [h, decide_true, Bool.not_true, Bool.false_and]
    · have hge : z + 2 ≤ x := by
        rw [n2] at h
        rcases Nat.lt_or_ge x (z + 2) with q | q
        · exact absurd (nI_lt q (by omega)) h
        · exact q
      simp only [Int32.sub_zero, Int32.add_zero, nm1 (show 1 ≤ x by omega), nI_1]
      rw [weq4 hj hx hy hz (by omega) (by omega) (by omega)]
  have e10 : (!decide (nI y < nI x + 2) && w1 4 (nI j) (nI x) (nI y) (nI z) (nI x - 0 + 1) (nI y - 1 + 0) (nI z - 0 + 0)) = (!decide (nI y < nI x + 2) && w2 4 (nI j) (nI x) (nI y) (nI z) (nI x + 1) (nI y - 1) (nI z)) := by
    by_cases h : nI y < nI x + 2
    · simp only [h, decide_true, Bool.not_true, Bool.false_and]
    · have hge : x + 2 ≤ y := by
        rw [n2] at h
        rcases Nat.lt_or_ge y (x + 2) with q | q
        · exact absurd (nI_lt q (by omega)) h
        · exact q
      simp only [Int32.sub_zero, Int32.add_zero, nm1 (show 1 ≤ y by omega), nI_1]
      rw [weq4 hj hx hy hz (by omega) (by omega) (by omega)]
  have e12 : (!decide (nI y < nI z + 2) && w1 4 (nI j) (nI x) (nI y) (nI z) (nI x - 0 + 0) (nI y - 1 + 0) (nI z - 0 + 1)) = (!decide (nI y < nI z + 2) && w2 4 (nI j) (nI x) (nI y) (nI z) (nI x) (nI y - 1) (nI z + 1)) := by
    by_cases h : nI y < nI z + 2
    · simp only [h, decide_true, Bool.not_true, Bool.false_and]
    · have hge : z + 2 ≤ y := by
        rw [n2] at h
        rcases Nat.lt_or_ge y (z + 2) with q | q
        · exact absurd (nI_lt q (by omega)) h
        · exact q
      simp only [Int32.sub_zero, Int32.add_zero, nm1 (show 1 ≤ y by omega), nI_1]
      rw [weq4 hj hx hy hz (by omega) (by omega) (by omega)]
  have e20 : (!decide (nI z < nI x + 2) && w1 4 (nI j) (nI x) (nI y) (nI z) (nI x - 0 + 1) (nI y - 0 + 0) (nI z - 1 + 0)) = (!decide (nI z < nI x + 2) && w2 4 (nI j) (nI x) (nI y) (nI z) (nI x + 1) (nI y) (nI z - 1)) := by
    by_cases h : nI z < nI x + 2
    · simp only [h, decide_true, Bool.not_true, Bool.false_and]
    · have hge : x + 2 ≤ z := by
        rw [n2] at h
        rcases Nat.lt_or_ge z (x + 2) with q | q
        · exact absurd (nI_lt q (by omega)) h
        · exact q
      simp only [Int32.sub_zero, Int32.add_zero, nm1 (show 1 ≤ z by omega), nI_1]
      rw [weq4 hj hx hy hz (by omega) (by omega) (by omega)]
  have e21 : (!decide (nI z < nI y + 2) && w1 4 (nI j) (nI x) (nI y) (nI z) (nI x - 0 + 0) (nI y - 0 + 1) (nI z - 1 + 0)) = (!decide (nI z < nI y + 2) && w2 4 (nI j) (nI x) (nI y) (nI z) (nI x) (nI y + 1) (nI z - 1)) := by
    by_cases h : nI z < nI y + 2
    · simp only [h, decide_true, Bool.not_true, Bool.false_and]
    · have hge : y + 2 ≤ z := by
        rw [n2] at h
        rcases Nat.lt_or_ge z (y + 2) with q | q
        · exact absurd (nI_lt q (by omega)) h
        · exact q
      simp only [Int32.sub_zero, Int32.add_zero, nm1 (show 1 ≤ z by omega), nI_1]
      rw [weq4 hj hx hy hz (by omega) (by omega) (by omega)]
  unfold gs gm
  rw [e01, e02, e10, e12, e20, e21]
theorem bt_nI {k : Int32} {n : Nat} {b : Int32} (hb : b.toInt = n) (hn : n < 2 ^ 31) (h : bt k 0 b = true) : ∃ j, j < n + 1 ∧ k = nI j := by
  have h1 := bt_toInt (n := (n : Int)) hb h
  refine ⟨k.toInt.toNat, by omega, Int32.toInt_inj.mp ?_⟩
  rw [nI_toInt (by omega)]
  omega
theorem g_eq {kind k : Int32} (h : tk2 kind k = true) : ∀ s, s < 216 → g1 (kn kind) k s = g2 (kn kind) k s := by
  have h2 : bt k 0 (if kind = 2 then 8 else if kind = 3 then 99 else if kind = 4 then 99 else 0) = true := by
    unfold tk2 at h
    exact (Bool.and_eq_true _ _ ▸ h).2
  rcases tk_kind h with rfl | rfl | rfl | rfl | rfl | rfl
  · rw [show kn 0 = 0 from by decide]; exact gq0k k
  · rw [show kn 1 = 1 from by decide]; exact gq1k k
  · rw [show kn 2 = 2 from by decide]
    obtain ⟨j, hj, rfl⟩ := bt_nI (n := 8) (b := 8) (by decide) (by decide) h2
    exact gq2 j hj
  · rw [show kn 3 = 3 from by decide]
    exact fun s hs => gq3 (by omega) (by omega) (by omega)
  · rw [show kn 4 = 4 from by decide]
    obtain ⟨j, hj, rfl⟩ := bt_nI (n := 99) (b := 99) (by decide) (by decide) h2
    exact fun s hs => gq4 (by omega) (by omega) (by omega) (by omega)
  · rw [show kn 5 = 5 from by decide]; exact gq5k k
set_option maxHeartbeats 4000000 in
set_option maxRecDepth 100000 in
theorem m_first {kind k : Int32} {σ : ab_S} {P : ab_P} (h : tk2 kind k = true) (hq : ∀ σ', P (some (.inl (.inl (rf (g1 (kn kind) k) 216 0)))) σ') : ab_sp mX8_firstAgainst cX8_firstAgainst [.inr (some (40, 0)), .inl (.inl kind), .inl (.inl k)] σ P := by
  rw [rf_cong 216 0 rfl (g_eq h)] at hq
  simp only [ab_loc, ab_cat, ab_kil, ab_al, ab_ln, ab_lnp, ab_rf, sh_0, sh_1, sh_2, sh_3, sh_4, sh_5, sh_6, sh_7, sh_8, sh_9, sh_10, sh_11, sh_12, sh_13, sh_14, sh_20, sh_21, sh_22, sh_23, sh_24, sh_25, sh_30, sh_31, sh_32, sh_40, sh_41, sh_42, sh_43, sh_44, sh_45, sh_46, sh_47, sh_48, sh_49, sh_50, sh_51, sh_52, sh_53, sh_54, sh_55, sh_56, sh_57, sh_58, sh_59, sh_60, ct_0, ct_1, ct_2, ct_3, ct_4, ct_5, ct_6, ct_7, ct_8, ct_9, ct_10, ct_11, ct_12, ct_13, ct_14, ct_20, ct_21, ct_22, ct_23, ct_24, ct_25, ct_30, ct_31, ct_32, ct_40, ct_41, ct_42, ct_43, ct_44, ct_45, ct_46, ct_47, ct_48, ct_49, ct_50, ct_51, ct_52, ct_53, ct_54, ct_55, ct_56, ct_57, ct_58, ct_59, ct_60, ki_m1, ki_0, ki_1, ki_2, ki_3, ki_4, ki_5, kb_m2, kb_m3, kb_m4, kb_m8, kb_m9, kb_10, kb_100, kb_16, kb_36, kb_6, kb_63, kb_8, kb_9, kb_99, ks_216, ks_2520, ks_256, ks_800, kl_0, kl_1, ↓reduceIte, reduceCtorEq, Nat.reduceAdd, Nat.reduceLT, Nat.reduceLeDiff, Nat.reduceEqDiff, List.map_cons, List.map_nil, List.sum_cons, List.sum_nil, List.cons_append, List.nil_append, Option.toList_some, Option.toList_none, true_and, and_true, true_or, or_true, not_true_eq_false, not_false_eq_true, Nat.lt_add_one, Nat.zero_le, eq_self, or_false, false_or, implies_true, forall_const, false_implies, forall_false, true_implies, and_self, Nat.zero_lt_one, Nat.add_zero, Nat.zero_add, Int32.reduceLT, Int32.reduceLE, Int32.reduceAdd, Int32.reduceSub, Int32.reduceMul, e10, e01, ite_self, ab_mx, ab_mi, ab_mb, ab_ml2, uX8_firstAgainst, rX8_firstAgainst_0, rX8_firstAgainst_1]
  rw [← nI00]
  exact m_agl (mwg_of h) 216 0 rfl hq σ
set_option maxHeartbeats 4000000 in
set_option maxRecDepth 100000 in
theorem m_against {kind k : Int32} {σ : ab_S} {P : ab_P} (hq : ∀ σ', P (some (.inl (.inl (r_against kind k)))) σ') : ab_sp mX8_against cX8_against [.inr (some (40, 0)), .inl (.inl kind), .inl (.inl k)] σ P := by
  by_cases h : tk2 kind k = true
  · simp only [ab_loc, ab_cat, ab_kil, ab_al, ab_ln, ab_lnp, ab_rf, sh_0, sh_1, sh_2, sh_3, sh_4, sh_5, sh_6, sh_7, sh_8, sh_9, sh_10, sh_11, sh_12, sh_13, sh_14, sh_20, sh_21, sh_22, sh_23, sh_24, sh_25, sh_30, sh_31, sh_32, sh_40, sh_41, sh_42, sh_43, sh_44, sh_45, sh_46, sh_47, sh_48, sh_49, sh_50, sh_51, sh_52, sh_53, sh_54, sh_55, sh_56, sh_57, sh_58, sh_59, sh_60, ct_0, ct_1, ct_2, ct_3, ct_4, ct_5, ct_6, ct_7, ct_8, ct_9, ct_10, ct_11, ct_12, ct_13, ct_14, ct_20, ct_21, ct_22, ct_23, ct_24, ct_25, ct_30, ct_31, ct_32, ct_40, ct_41, ct_42, ct_43, ct_44, ct_45, ct_46, ct_47, ct_48, ct_49, ct_50, ct_51, ct_52, ct_53, ct_54, ct_55, ct_56, ct_57, ct_58, ct_59, ct_60, ki_m1, ki_0, ki_1, ki_2, ki_3, ki_4, ki_5, kb_m2, kb_m3, kb_m4, kb_m8, kb_m9, kb_10, kb_100, kb_16, kb_36, kb_6, kb_63, kb_8, kb_9, kb_99, ks_216, ks_2520, ks_256, ks_800, kl_0, kl_1, ↓reduceIte, reduceCtorEq, Nat.reduceAdd, Nat.reduceLT, Nat.reduceLeDiff, Nat.reduceEqDiff, List.map_cons, List.map_nil, List.sum_cons, List.sum_nil, List.cons_append, List.nil_append, Option.toList_some, Option.toList_none, true_and, and_true, true_or, or_true, not_true_eq_false, not_false_eq_true, Nat.lt_add_one, Nat.zero_le, eq_self, or_false, false_or, implies_true, forall_const, false_implies, forall_false, true_implies, and_self, Nat.zero_lt_one, Nat.add_zero, Nat.zero_add, Int32.reduceLT, Int32.reduceLE, Int32.reduceAdd, Int32.reduceSub, Int32.reduceMul, e10, e01, ite_self, ab_mx, ab_mi, ab_mb, ab_ml2, uX8_against, rX8_against_0, rX8_against_1, rX8_against_2, rX8_against_5, rX8_against_8, rX8_against_9, rX8_against_10, rX8_against_11, s_isMeasure, h]
    simp only [r_against, h, if_true] at hq
    refine m_first h (fun σ' => ?_)
    simp only [ab_loc, ab_cat, ab_kil, ab_al, ab_ln, ab_lnp, ab_rf, sh_0, sh_1, sh_2, sh_3, sh_4, sh_5, sh_6, sh_7, sh_8, sh_9, sh_10, sh_11, sh_12, sh_13, sh_14, sh_20, sh_21, sh_22, sh_23, sh_24, sh_25, sh_30, sh_31, sh_32, sh_40, sh_41, sh_42, sh_43, sh_44, sh_45, sh_46, sh_47, sh_48, sh_49, sh_50, sh_51, sh_52, sh_53, sh_54, sh_55, sh_56, sh_57, sh_58, sh_59, sh_60, ct_0, ct_1, ct_2, ct_3, ct_4, ct_5, ct_6, ct_7, ct_8, ct_9, ct_10, ct_11, ct_12, ct_13, ct_14, ct_20, ct_21, ct_22, ct_23, ct_24, ct_25, ct_30, ct_31, ct_32, ct_40, ct_41, ct_42, ct_43, ct_44, ct_45, ct_46, ct_47, ct_48, ct_49, ct_50, ct_51, ct_52, ct_53, ct_54, ct_55, ct_56, ct_57, ct_58, ct_59, ct_60, ki_m1, ki_0, ki_1, ki_2, ki_3, ki_4, ki_5, kb_m2, kb_m3, kb_m4, kb_m8, kb_m9, kb_10, kb_100, kb_16, kb_36, kb_6, kb_63, kb_8, kb_9, kb_99, ks_216, ks_2520, ks_256, ks_800, kl_0, kl_1, ↓reduceIte, reduceCtorEq, Nat.reduceAdd, Nat.reduceLT, Nat.reduceLeDiff, Nat.reduceEqDiff, List.map_cons, List.map_nil, List.sum_cons, List.sum_nil, List.cons_append, List.nil_append, Option.toList_some, Option.toList_none, true_and, and_true, true_or, or_true, not_true_eq_false, not_false_eq_true, Nat.lt_add_one, Nat.zero_le, eq_self, or_false, false_or, implies_true, forall_const, false_implies, forall_false, true_implies, and_self, Nat.zero_lt_one, Nat.add_zero, Nat.zero_add, Int32.reduceLT, Int32.reduceLE, Int32.reduceAdd, Int32.reduceSub, Int32.reduceMul, e10, e01, ite_self, ab_mx, ab_mi, ab_mb, ab_ml2, rX8_against_14, rX8_against_17, rX8_against_19]
    exact hq σ'
  · simp only [ab_loc, ab_cat, ab_kil, ab_al, ab_ln, ab_lnp, ab_rf, sh_0, sh_1, sh_2, sh_3, sh_4, sh_5, sh_6, sh_7, sh_8, sh_9, sh_10, sh_11, sh_12, sh_13, sh_14, sh_20, sh_21, sh_22, sh_23, sh_24, sh_25, sh_30, sh_31, sh_32, sh_40, sh_41, sh_42, sh_43, sh_44, sh_45, sh_46, sh_47, sh_48, sh_49, sh_50, sh_51, sh_52, sh_53, sh_54, sh_55, sh_56, sh_57, sh_58, sh_59, sh_60, ct_0, ct_1, ct_2, ct_3, ct_4, ct_5, ct_6, ct_7, ct_8, ct_9, ct_10, ct_11, ct_12, ct_13, ct_14, ct_20, ct_21, ct_22, ct_23, ct_24, ct_25, ct_30, ct_31, ct_32, ct_40, ct_41, ct_42, ct_43, ct_44, ct_45, ct_46, ct_47, ct_48, ct_49, ct_50, ct_51, ct_52, ct_53, ct_54, ct_55, ct_56, ct_57, ct_58, ct_59, ct_60, ki_m1, ki_0, ki_1, ki_2, ki_3, ki_4, ki_5, kb_m2, kb_m3, kb_m4, kb_m8, kb_m9, kb_10, kb_100, kb_16, kb_36, kb_6, kb_63, kb_8, kb_9, kb_99, ks_216, ks_2520, ks_256, ks_800, kl_0, kl_1, ↓reduceIte, reduceCtorEq, Nat.reduceAdd, Nat.reduceLT, Nat.reduceLeDiff, Nat.reduceEqDiff, List.map_cons, List.map_nil, List.sum_cons, List.sum_nil, List.cons_append, List.nil_append, Option.toList_some, Option.toList_none, true_and, and_true, true_or, or_true, not_true_eq_false, not_false_eq_true, Nat.lt_add_one, Nat.zero_le, eq_self, or_false, false_or, implies_true, forall_const, false_implies, forall_false, true_implies, and_self, Nat.zero_lt_one, Nat.add_zero, Nat.zero_add, Int32.reduceLT, Int32.reduceLE, Int32.reduceAdd, Int32.reduceSub, Int32.reduceMul, e10, e01, ite_self, ab_mx, ab_mi, ab_mb, ab_ml2, uX8_against, rX8_against_0, rX8_against_1, rX8_against_2, rX8_against_5, rX8_against_8, rX8_against_9, rX8_against_10, rX8_against_11, rX8_against_14, rX8_against_17, rX8_against_19, s_isMeasure, h]
    simp only [r_against, h] at hq
    exact hq σ
set_option maxHeartbeats 4000000 in
set_option maxRecDepth 100000 in
theorem m_minds {kind k : Int32} {σ : ab_S} {P : ab_P} (hq : ∀ σ', P (some (.inl (.inl (r_minds kind k)))) σ') : ab_sp mX8_minds cX8_minds [.inr (some (40, 0)), .inl (.inl kind), .inl (.inl k)] σ P := by
  by_cases h : tk2 kind k = true
  · simp only [ab_loc, ab_cat, ab_kil, ab_al, ab_ln, ab_lnp, ab_rf, sh_0, sh_1, sh_2, sh_3, sh_4, sh_5, sh_6, sh_7, sh_8, sh_9, sh_10, sh_11, sh_12, sh_13, sh_14, sh_20, sh_21, sh_22, sh_23, sh_24, sh_25, sh_30, sh_31, sh_32, sh_40, sh_41, sh_42, sh_43, sh_44, sh_45, sh_46, sh_47, sh_48, sh_49, sh_50, sh_51, sh_52, sh_53, sh_54, sh_55, sh_56, sh_57, sh_58, sh_59, sh_60, ct_0, ct_1, ct_2, ct_3, ct_4, ct_5, ct_6, ct_7, ct_8, ct_9, ct_10, ct_11, ct_12, ct_13, ct_14, ct_20, ct_21, ct_22, ct_23, ct_24, ct_25, ct_30, ct_31, ct_32, ct_40, ct_41, ct_42, ct_43, ct_44, ct_45, ct_46, ct_47, ct_48, ct_49, ct_50, ct_51, ct_52, ct_53, ct_54, ct_55, ct_56, ct_57, ct_58, ct_59, ct_60, ki_m1, ki_0, ki_1, ki_2, ki_3, ki_4, ki_5, kb_m2, kb_m3, kb_m4, kb_m8, kb_m9, kb_10, kb_100, kb_16, kb_36, kb_6, kb_63, kb_8, kb_9, kb_99, ks_216, ks_2520, ks_256, ks_800, kl_0, kl_1, ↓reduceIte, reduceCtorEq, Nat.reduceAdd, Nat.reduceLT, Nat.reduceLeDiff, Nat.reduceEqDiff, List.map_cons, List.map_nil, List.sum_cons, List.sum_nil, List.cons_append, List.nil_append, Option.toList_some, Option.toList_none, true_and, and_true, true_or, or_true, not_true_eq_false, not_false_eq_true, Nat.lt_add_one, Nat.zero_le, eq_self, or_false, false_or, implies_true, forall_const, false_implies, forall_false, true_implies, and_self, Nat.zero_lt_one, Nat.add_zero, Nat.zero_add, Int32.reduceLT, Int32.reduceLE, Int32.reduceAdd, Int32.reduceSub, Int32.reduceMul, e10, e01, ite_self, ab_mx, ab_mi, ab_mb, ab_ml2, uX8_minds, rX8_minds_0, rX8_minds_1, rX8_minds_2, rX8_minds_5, rX8_minds_8, rX8_minds_10, rX8_minds_13, rX8_minds_14, rX8_minds_15, rX8_minds_16, s_isMeasure, h]
    simp only [r_minds, h, if_true] at hq
    refine m_first h (fun σ' => ?_)
    have := hq σ'
    by_cases hz : rf (g1 (kn kind) k) 216 0 = -9
    · simp only [ab_loc, ab_cat, ab_kil, ab_al, ab_ln, ab_lnp, ab_rf, sh_0, sh_1, sh_2, sh_3, sh_4, sh_5, sh_6, sh_7, sh_8, sh_9, sh_10, sh_11, sh_12, sh_13, sh_14, sh_20, sh_21, sh_22, sh_23, sh_24, sh_25, sh_30, sh_31, sh_32, sh_40, sh_41, sh_42, sh_43, sh_44, sh_45, sh_46, sh_47, sh_48, sh_49, sh_50, sh_51, sh_52, sh_53, sh_54, sh_55, sh_56, sh_57, sh_58, sh_59, sh_60, ct_0, ct_1, ct_2, ct_3, ct_4, ct_5, ct_6, ct_7, ct_8, ct_9, ct_10, ct_11, ct_12, ct_13, ct_14, ct_20, ct_21, ct_22, ct_23, ct_24, ct_25, ct_30, ct_31, ct_32, ct_40, ct_41, ct_42, ct_43, ct_44, ct_45, ct_46, ct_47, ct_48, ct_49, ct_50, ct_51, ct_52, ct_53, ct_54, ct_55, ct_56, ct_57, ct_58, ct_59, ct_60, ki_m1, ki_0, ki_1, ki_2, ki_3, ki_4, ki_5, kb_m2, kb_m3, kb_m4, kb_m8, kb_m9, kb_10, kb_100, kb_16, kb_36, kb_6, kb_63, kb_8, kb_9, kb_99, ks_216, ks_2520, ks_256, ks_800, kl_0, kl_1, ↓reduceIte, reduceCtorEq, Nat.reduceAdd, Nat.reduceLT, Nat.reduceLeDiff, Nat.reduceEqDiff, List.map_cons, List.map_nil, List.sum_cons, List.sum_nil, List.cons_append, List.nil_append, Option.toList_some, Option.toList_none, true_and, and_true, true_or, or_true, not_true_eq_false, not_false_eq_true, Nat.lt_add_one, Nat.zero_le, eq_self, or_false, false_or, implies_true, forall_const, false_implies, forall_false, true_implies, and_self, Nat.zero_lt_one, Nat.add_zero, Nat.zero_add, Int32.reduceLT, Int32.reduceLE, Int32.reduceAdd, Int32.reduceSub, Int32.reduceMul, e10, e01, ite_self, ab_mx, ab_mi, ab_mb, ab_ml2, rX8_minds_19, rX8_minds_21, rX8_minds_24, rX8_minds_25, rX8_minds_28, rX8_minds_29, hz]
      rw [if_pos hz] at this
      exact this
    · simp only [ab_loc, ab_cat, ab_kil, ab_al, ab_ln, ab_lnp, ab_rf, sh_0, sh_1, sh_2, sh_3, sh_4, sh_5, sh_6, sh_7, sh_8, sh_9, sh_10, sh_11, sh_12, sh_13, sh_14, sh_20, sh_21, sh_22, sh_23, sh_24, sh_25, sh_30, sh_31, sh_32, sh_40, sh_41, sh_42, sh_43, sh_44, sh_45, sh_46, sh_47, sh_48, sh_49, sh_50, sh_51, sh_52, sh_53, sh_54, sh_55, sh_56, sh_57, sh_58, sh_59, sh_60, ct_0, ct_1, ct_2, ct_3, ct_4, ct_5, ct_6, ct_7, ct_8, ct_9, ct_10, ct_11, ct_12, ct_13, ct_14, ct_20, ct_21, ct_22, ct_23, ct_24, ct_25, ct_30, ct_31, ct_32, ct_40, ct_41, ct_42, ct_43, ct_44, ct_45, ct_46, ct_47, ct_48, ct_49, ct_50, ct_51, ct_52, ct_53, ct_54, ct_55, ct_56, ct_57, ct_58, ct_59, ct_60, ki_m1, ki_0, ki_1, ki_2, ki_3, ki_4, ki_5, kb_m2, kb_m3, kb_m4, kb_m8, kb_m9, kb_10, kb_100, kb_16, kb_36, kb_6, kb_63, kb_8, kb_9, kb_99, ks_216, ks_2520, ks_256, ks_800, kl_0, kl_1, ↓reduceIte, reduceCtorEq, Nat.reduceAdd, Nat.reduceLT, Nat.reduceLeDiff, Nat.reduceEqDiff, List.map_cons, List.map_nil, List.sum_cons, List.sum_nil, List.cons_append, List.nil_append, Option.toList_some, Option.toList_none, true_and, and_true, true_or, or_true, not_true_eq_false, not_false_eq_true, Nat.lt_add_one, Nat.zero_le, eq_self, or_false, false_or, implies_true, forall_const, false_implies, forall_false, true_implies, and_self, Nat.zero_lt_one, Nat.add_zero, Nat.zero_add, Int32.reduceLT, Int32.reduceLE, Int32.reduceAdd, Int32.reduceSub, Int32.reduceMul, e10, e01, ite_self, ab_mx, ab_mi, ab_mb, ab_ml2, rX8_minds_19, rX8_minds_21, rX8_minds_24, rX8_minds_25, rX8_minds_28, rX8_minds_29, hz]
      rw [if_neg hz] at this
      exact this
  · simp only [ab_loc, ab_cat, ab_kil, ab_al, ab_ln, ab_lnp, ab_rf, sh_0, sh_1, sh_2, sh_3, sh_4, sh_5, sh_6, sh_7, sh_8, sh_9, sh_10, sh_11, sh_12, sh_13, sh_14, sh_20, sh_21, sh_22, sh_23, sh_24, sh_25, sh_30, sh_31, sh_32, sh_40, sh_41, sh_42, sh_43, sh_44, sh_45, sh_46, sh_47, sh_48, sh_49, sh_50, sh_51, sh_52, sh_53, sh_54, sh_55, sh_56, sh_57, sh_58, sh_59, sh_60, ct_0, ct_1, ct_2, ct_3, ct_4, ct_5, ct_6, ct_7, ct_8, ct_9, ct_10, ct_11, ct_12, ct_13, ct_14, ct_20, ct_21, ct_22, ct_23, ct_24, ct_25, ct_30, ct_31, ct_32, ct_40, ct_41, ct_42, ct_43, ct_44, ct_45, ct_46, ct_47, ct_48, ct_49, ct_50, ct_51, ct_52, ct_53, ct_54, ct_55, ct_56, ct_57, ct_58, ct_59, ct_60, ki_m1, ki_0, ki_1, ki_2, ki_3, ki_4, ki_5, kb_m2, kb_m3, kb_m4, kb_m8, kb_m9, kb_10, kb_100, kb_16, kb_36, kb_6, kb_63, kb_8, kb_9, kb_99, ks_216, ks_2520, ks_256, ks_800, kl_0, kl_1, ↓reduceIte, reduceCtorEq, Nat.reduceAdd, Nat.reduceLT, Nat.reduceLeDiff, Nat.reduceEqDiff, List.map_cons, List.map_nil, List.sum_cons, List.sum_nil, List.cons_append, List.nil_append, Option.toList_some, Option.toList_none, true_and, and_true, true_or, or_true, not_true_eq_false, not_false_eq_true, Nat.lt_add_one, Nat.zero_le, eq_self, or_false, false_or, implies_true, forall_const, false_implies, forall_false, true_implies, and_self, Nat.zero_lt_one, Nat.add_zero, Nat.zero_add, Int32.reduceLT, Int32.reduceLE, Int32.reduceAdd, Int32.reduceSub, Int32.reduceMul, e10, e01, ite_self, ab_mx, ab_mi, ab_mb, ab_ml2, uX8_minds, rX8_minds_0, rX8_minds_1, rX8_minds_2, rX8_minds_5, rX8_minds_8, rX8_minds_10, rX8_minds_13, rX8_minds_14, rX8_minds_15, rX8_minds_16, rX8_minds_19, rX8_minds_21, rX8_minds_24, rX8_minds_25, rX8_minds_28, rX8_minds_29, s_isMeasure, h]
    simp only [r_minds, h] at hq
    exact hq σ
set_option maxHeartbeats 4000000 in
set_option maxRecDepth 100000 in
theorem x_risel {P : ab_P} : ∀ (m s : Nat), s + m = 99 → (∀ σ, fM σ → P (some (.inl (.inl 1))) σ) → ∀ σ, fX σ → fM σ → ab_wp mX7_rises cX7_rises none P 2 [some (.inr (some (0, 0))), some (.inl (.inl (nI s)))] [] σ := by
  intro m
  induction m with
  | zero =>
    intro s hs hq σ hX hM
    have e : s = 99 := by omega
    subst e
    simp only [ab_loc, ab_cat, ab_kil, ab_al, ab_ln, ab_lnp, ab_rf, sh_0, sh_1, sh_2, sh_3, sh_4, sh_5, sh_6, sh_7, sh_8, sh_9, sh_10, sh_11, sh_12, sh_13, sh_14, sh_20, sh_21, sh_22, sh_23, sh_24, sh_25, sh_30, sh_31, sh_32, sh_40, sh_41, sh_42, sh_43, sh_44, sh_45, sh_46, sh_47, sh_48, sh_49, sh_50, sh_51, sh_52, sh_53, sh_54, sh_55, sh_56, sh_57, sh_58, sh_59, sh_60, ct_0, ct_1, ct_2, ct_3, ct_4, ct_5, ct_6, ct_7, ct_8, ct_9, ct_10, ct_11, ct_12, ct_13, ct_14, ct_20, ct_21, ct_22, ct_23, ct_24, ct_25, ct_30, ct_31, ct_32, ct_40, ct_41, ct_42, ct_43, ct_44, ct_45, ct_46, ct_47, ct_48, ct_49, ct_50, ct_51, ct_52, ct_53, ct_54, ct_55, ct_56, ct_57, ct_58, ct_59, ct_60, ki_m1, ki_0, ki_1, ki_2, ki_3, ki_4, ki_5, kb_m2, kb_m3, kb_m4, kb_m8, kb_m9, kb_10, kb_100, kb_16, kb_36, kb_6, kb_63, kb_8, kb_9, kb_99, ks_216, ks_2520, ks_256, ks_800, kl_0, kl_1, ↓reduceIte, reduceCtorEq, Nat.reduceAdd, Nat.reduceLT, Nat.reduceLeDiff, Nat.reduceEqDiff, List.map_cons, List.map_nil, List.sum_cons, List.sum_nil, List.cons_append, List.nil_append, Option.toList_some, Option.toList_none, true_and, and_true, true_or, or_true, not_true_eq_false, not_false_eq_true, Nat.lt_add_one, Nat.zero_le, eq_self, or_false, false_or, implies_true, forall_const, false_implies, forall_false, true_implies, and_self, Nat.zero_lt_one, Nat.add_zero, Nat.zero_add, Int32.reduceLT, Int32.reduceLE, Int32.reduceAdd, Int32.reduceSub, Int32.reduceMul, e10, e01, ite_self, ab_mx, ab_mi, ab_mb, ab_ml2, rX7_rises_2, rX7_rises_3, rX7_rises_5, rX7_rises_43, rX7_rises_44, show nI 99 = 99 from by decide]
    exact hq σ hM
  | succ m ih =>
    intro s hs hq σ hX hM
    have hlt : ¬ (99 : Int32) ≤ nI s := by rw [show (99 : Int32) = nI 99 from by decide]; exact nI_ge (by omega) (by omega)
    simp only [ab_loc, ab_cat, ab_kil, ab_al, ab_ln, ab_lnp, ab_rf, sh_0, sh_1, sh_2, sh_3, sh_4, sh_5, sh_6, sh_7, sh_8, sh_9, sh_10, sh_11, sh_12, sh_13, sh_14, sh_20, sh_21, sh_22, sh_23, sh_24, sh_25, sh_30, sh_31, sh_32, sh_40, sh_41, sh_42, sh_43, sh_44, sh_45, sh_46, sh_47, sh_48, sh_49, sh_50, sh_51, sh_52, sh_53, sh_54, sh_55, sh_56, sh_57, sh_58, sh_59, sh_60, ct_0, ct_1, ct_2, ct_3, ct_4, ct_5, ct_6, ct_7, ct_8, ct_9, ct_10, ct_11, ct_12, ct_13, ct_14, ct_20, ct_21, ct_22, ct_23, ct_24, ct_25, ct_30, ct_31, ct_32, ct_40, ct_41, ct_42, ct_43, ct_44, ct_45, ct_46, ct_47, ct_48, ct_49, ct_50, ct_51, ct_52, ct_53, ct_54, ct_55, ct_56, ct_57, ct_58, ct_59, ct_60, ki_m1, ki_0, ki_1, ki_2, ki_3, ki_4, ki_5, kb_m2, kb_m3, kb_m4, kb_m8, kb_m9, kb_10, kb_100, kb_16, kb_36, kb_6, kb_63, kb_8, kb_9, kb_99, ks_216, ks_2520, ks_256, ks_800, kl_0, kl_1, ↓reduceIte, reduceCtorEq, Nat.reduceAdd, Nat.reduceLT, Nat.reduceLeDiff, Nat.reduceEqDiff, List.map_cons, List.map_nil, List.sum_cons, List.sum_nil, List.cons_append, List.nil_append, Option.toList_some, Option.toList_none, true_and, and_true, true_or, or_true, not_true_eq_false, not_false_eq_true, Nat.lt_add_one, Nat.zero_le, eq_self, or_false, false_or, implies_true, forall_const, false_implies, forall_false, true_implies, and_self, Nat.zero_lt_one, Nat.add_zero, Nat.zero_add, Int32.reduceLT, Int32.reduceLE, Int32.reduceAdd, Int32.reduceSub, Int32.reduceMul, e10, e01, ite_self, ab_mx, ab_mi, ab_mb, ab_ml2, rX7_rises_2, rX7_rises_3, rX7_rises_5, rX7_rises_8, rX7_rises_9, hlt]
    simp only [ab_loc, ab_cat, ab_kil, ab_al, ab_ln, ab_lnp, ab_rf, sh_0, sh_1, sh_2, sh_3, sh_4, sh_5, sh_6, sh_7, sh_8, sh_9, sh_10, sh_11, sh_12, sh_13, sh_14, sh_20, sh_21, sh_22, sh_23, sh_24, sh_25, sh_30, sh_31, sh_32, sh_40, sh_41, sh_42, sh_43, sh_44, sh_45, sh_46, sh_47, sh_48, sh_49, sh_50, sh_51, sh_52, sh_53, sh_54, sh_55, sh_56, sh_57, sh_58, sh_59, sh_60, ct_0, ct_1, ct_2, ct_3, ct_4, ct_5, ct_6, ct_7, ct_8, ct_9, ct_10, ct_11, ct_12, ct_13, ct_14, ct_20, ct_21, ct_22, ct_23, ct_24, ct_25, ct_30, ct_31, ct_32, ct_40, ct_41, ct_42, ct_43, ct_44, ct_45, ct_46, ct_47, ct_48, ct_49, ct_50, ct_51, ct_52, ct_53, ct_54, ct_55, ct_56, ct_57, ct_58, ct_59, ct_60, ki_m1, ki_0, ki_1, ki_2, ki_3, ki_4, ki_5, kb_m2, kb_m3, kb_m4, kb_m8, kb_m9, kb_10, kb_100, kb_16, kb_36, kb_6, kb_63, kb_8, kb_9, kb_99, ks_216, ks_2520, ks_256, ks_800, kl_0, kl_1, ↓reduceIte, reduceCtorEq, Nat.reduceAdd, Nat.reduceLT, Nat.reduceLeDiff, Nat.reduceEqDiff, List.map_cons, List.map_nil, List.sum_cons, List.sum_nil, List.cons_append, List.nil_append, Option.toList_some, Option.toList_none, true_and, and_true, true_or, or_true, not_true_eq_false, not_false_eq_true, Nat.lt_add_one, Nat.zero_le, eq_self, or_false, false_or, implies_true, forall_const, false_implies, forall_false, true_implies, and_self, Nat.zero_lt_one, Nat.add_zero, Nat.zero_add, Int32.reduceLT, Int32.reduceLE, Int32.reduceAdd, Int32.reduceSub, Int32.reduceMul, e10, e01, ite_self, ab_mx, ab_mi, ab_mb, ab_ml2, rX7_rises_12, rX7_rises_13, rX7_rises_16, rX7_rises_17, rX7_rises_18, rX7_rises_19, rX7_rises_20, rX7_rises_21, rX7_rises_24, rX7_rises_25, rX7_rises_26, rX7_rises_27, rX7_rises_30, rX7_rises_31, rX7_rises_32, rX7_rises_35, rX7_rises_36, rX7_rises_37, rX7_rises_40, ↓s_taken0 hX, Int32.zero_mul, i32_le_refl, rX7_rises_20, rX7_rises_21]
    rw [nI_1 s]
    exact ih (s + 1) (by omega) hq σ hX hM
set_option maxHeartbeats 4000000 in
set_option maxRecDepth 100000 in
theorem x_rises {σ : ab_S} {P : ab_P} (hX : fX σ) (hM : fM σ) (hq : ∀ σ', fM σ' → P (some (.inl (.inl 1))) σ') : ab_sp mX7_rises cX7_rises [.inr (some (0, 0))] σ P := by
  simp only [ab_loc, ab_cat, ab_kil, ab_al, ab_ln, ab_lnp, ab_rf, sh_0, sh_1, sh_2, sh_3, sh_4, sh_5, sh_6, sh_7, sh_8, sh_9, sh_10, sh_11, sh_12, sh_13, sh_14, sh_20, sh_21, sh_22, sh_23, sh_24, sh_25, sh_30, sh_31, sh_32, sh_40, sh_41, sh_42, sh_43, sh_44, sh_45, sh_46, sh_47, sh_48, sh_49, sh_50, sh_51, sh_52, sh_53, sh_54, sh_55, sh_56, sh_57, sh_58, sh_59, sh_60, ct_0, ct_1, ct_2, ct_3, ct_4, ct_5, ct_6, ct_7, ct_8, ct_9, ct_10, ct_11, ct_12, ct_13, ct_14, ct_20, ct_21, ct_22, ct_23, ct_24, ct_25, ct_30, ct_31, ct_32, ct_40, ct_41, ct_42, ct_43, ct_44, ct_45, ct_46, ct_47, ct_48, ct_49, ct_50, ct_51, ct_52, ct_53, ct_54, ct_55, ct_56, ct_57, ct_58, ct_59, ct_60, ki_m1, ki_0, ki_1, ki_2, ki_3, ki_4, ki_5, kb_m2, kb_m3, kb_m4, kb_m8, kb_m9, kb_10, kb_100, kb_16, kb_36, kb_6, kb_63, kb_8, kb_9, kb_99, ks_216, ks_2520, ks_256, ks_800, kl_0, kl_1, ↓reduceIte, reduceCtorEq, Nat.reduceAdd, Nat.reduceLT, Nat.reduceLeDiff, Nat.reduceEqDiff, List.map_cons, List.map_nil, List.sum_cons, List.sum_nil, List.cons_append, List.nil_append, Option.toList_some, Option.toList_none, true_and, and_true, true_or, or_true, not_true_eq_false, not_false_eq_true, Nat.lt_add_one, Nat.zero_le, eq_self, or_false, false_or, implies_true, forall_const, false_implies, forall_false, true_implies, and_self, Nat.zero_lt_one, Nat.add_zero, Nat.zero_add, Int32.reduceLT, Int32.reduceLE, Int32.reduceAdd, Int32.reduceSub, Int32.reduceMul, e10, e01, ite_self, ab_mx, ab_mi, ab_mb, ab_ml2, uX7_rises, rX7_rises_0, rX7_rises_1]
  exact x_risel 98 1 rfl hq σ hX hM
set_option maxHeartbeats 4000000 in
set_option maxRecDepth 100000 in
theorem m_risel {P : ab_P} {σ : ab_S} (hM : fM σ) (hq : P (some (.inl (.inl 1))) σ) : ∀ (m s : Nat), s + m = 99 → ab_wp mX8_rises cX8_rises none P 2 [some (.inr (some (40, 0))), some (.inl (.inl (nI s)))] [] σ := by
  intro m
  induction m with
  | zero =>
    intro s hs
    have e : s = 99 := by omega
    subst e
    simp only [ab_loc, ab_cat, ab_kil, ab_al, ab_ln, ab_lnp, ab_rf, sh_0, sh_1, sh_2, sh_3, sh_4, sh_5, sh_6, sh_7, sh_8, sh_9, sh_10, sh_11, sh_12, sh_13, sh_14, sh_20, sh_21, sh_22, sh_23, sh_24, sh_25, sh_30, sh_31, sh_32, sh_40, sh_41, sh_42, sh_43, sh_44, sh_45, sh_46, sh_47, sh_48, sh_49, sh_50, sh_51, sh_52, sh_53, sh_54, sh_55, sh_56, sh_57, sh_58, sh_59, sh_60, ct_0, ct_1, ct_2, ct_3, ct_4, ct_5, ct_6, ct_7, ct_8, ct_9, ct_10, ct_11, ct_12, ct_13, ct_14, ct_20, ct_21, ct_22, ct_23, ct_24, ct_25, ct_30, ct_31, ct_32, ct_40, ct_41, ct_42, ct_43, ct_44, ct_45, ct_46, ct_47, ct_48, ct_49, ct_50, ct_51, ct_52, ct_53, ct_54, ct_55, ct_56, ct_57, ct_58, ct_59, ct_60, ki_m1, ki_0, ki_1, ki_2, ki_3, ki_4, ki_5, kb_m2, kb_m3, kb_m4, kb_m8, kb_m9, kb_10, kb_100, kb_16, kb_36, kb_6, kb_63, kb_8, kb_9, kb_99, ks_216, ks_2520, ks_256, ks_800, kl_0, kl_1, ↓reduceIte, reduceCtorEq, Nat.reduceAdd, Nat.reduceLT, Nat.reduceLeDiff, Nat.reduceEqDiff, List.map_cons, List.map_nil, List.sum_cons, List.sum_nil, List.cons_append, List.nil_append, Option.toList_some, Option.toList_none, true_and, and_true, true_or, or_true, not_true_eq_false, not_false_eq_true, Nat.lt_add_one, Nat.zero_le, eq_self, or_false, false_or, implies_true, forall_const, false_implies, forall_false, true_implies, and_self, Nat.zero_lt_one, Nat.add_zero, Nat.zero_add, Int32.reduceLT, Int32.reduceLE, Int32.reduceAdd, Int32.reduceSub, Int32.reduceMul, e10, e01, ite_self, ab_mx, ab_mi, ab_mb, ab_ml2, rX8_rises_2, rX8_rises_3, rX8_rises_5, rX8_rises_37, rX8_rises_38, show nI 99 = 99 from by decide]
    exact hq
  | succ m ih =>
    intro s hs
    have hlt : ¬ (99 : Int32) ≤ nI s := by rw [show (99 : Int32) = nI 99 from by decide]; exact nI_ge (by omega) (by omega)
    simp only [ab_loc, ab_cat, ab_kil, ab_al, ab_ln, ab_lnp, ab_rf, sh_0, sh_1, sh_2, sh_3, sh_4, sh_5, sh_6, sh_7, sh_8, sh_9, sh_10, sh_11, sh_12, sh_13, sh_14, sh_20, sh_21, sh_22, sh_23, sh_24, sh_25, sh_30, sh_31, sh_32, sh_40, sh_41, sh_42, sh_43, sh_44, sh_45, sh_46, sh_47, sh_48, sh_49, sh_50, sh_51, sh_52, sh_53, sh_54, sh_55, sh_56, sh_57, sh_58, sh_59, sh_60, ct_0, ct_1, ct_2, ct_3, ct_4, ct_5, ct_6, ct_7, ct_8, ct_9, ct_10, ct_11, ct_12, ct_13, ct_14, ct_20, ct_21, ct_22, ct_23, ct_24, ct_25, ct_30, ct_31, ct_32, ct_40, ct_41, ct_42, ct_43, ct_44, ct_45, ct_46, ct_47, ct_48, ct_49, ct_50, ct_51, ct_52, ct_53, ct_54, ct_55, ct_56, ct_57, ct_58, ct_59, ct_60, ki_m1, ki_0, ki_1, ki_2, ki_3, ki_4, ki_5, kb_m2, kb_m3, kb_m4, kb_m8, kb_m9, kb_10, kb_100, kb_16, kb_36, kb_6, kb_63, kb_8, kb_9, kb_99, ks_216, ks_2520, ks_256, ks_800, kl_0, kl_1, ↓reduceIte, reduceCtorEq, Nat.reduceAdd, Nat.reduceLT, Nat.reduceLeDiff, Nat.reduceEqDiff, List.map_cons, List.map_nil, List.sum_cons, List.sum_nil, List.cons_append, List.nil_append, Option.toList_some, Option.toList_none, true_and, and_true, true_or, or_true, not_true_eq_false, not_false_eq_true, Nat.lt_add_one, Nat.zero_le, eq_self, or_false, false_or, implies_true, forall_const, false_implies, forall_false, true_implies, and_self, Nat.zero_lt_one, Nat.add_zero, Nat.zero_add, Int32.reduceLT, Int32.reduceLE, Int32.reduceAdd, Int32.reduceSub, Int32.reduceMul, e10, e01, ite_self, ab_mx, ab_mi, ab_mb, ab_ml2, rX8_rises_2, rX8_rises_3, rX8_rises_5, rX8_rises_8, rX8_rises_9, rX8_rises_10, hlt]
    refine m_taxOf0 hM ?_
    simp only [ab_loc, ab_cat, ab_kil, ab_al, ab_ln, ab_lnp, ab_rf, sh_0, sh_1, sh_2, sh_3, sh_4, sh_5, sh_6, sh_7, sh_8, sh_9, sh_10, sh_11, sh_12, sh_13, sh_14, sh_20, sh_21, sh_22, sh_23, sh_24, sh_25, sh_30, sh_31, sh_32, sh_40, sh_41, sh_42, sh_43, sh_44, sh_45, sh_46, sh_47, sh_48, sh_49, sh_50, sh_51, sh_52, sh_53, sh_54, sh_55, sh_56, sh_57, sh_58, sh_59, sh_60, ct_0, ct_1, ct_2, ct_3, ct_4, ct_5, ct_6, ct_7, ct_8, ct_9, ct_10, ct_11, ct_12, ct_13, ct_14, ct_20, ct_21, ct_22, ct_23, ct_24, ct_25, ct_30, ct_31, ct_32, ct_40, ct_41, ct_42, ct_43, ct_44, ct_45, ct_46, ct_47, ct_48, ct_49, ct_50, ct_51, ct_52, ct_53, ct_54, ct_55, ct_56, ct_57, ct_58, ct_59, ct_60, ki_m1, ki_0, ki_1, ki_2, ki_3, ki_4, ki_5, kb_m2, kb_m3, kb_m4, kb_m8, kb_m9, kb_10, kb_100, kb_16, kb_36, kb_6, kb_63, kb_8, kb_9, kb_99, ks_216, ks_2520, ks_256, ks_800, kl_0, kl_1, ↓reduceIte, reduceCtorEq, Nat.reduceAdd, Nat.reduceLT, Nat.reduceLeDiff, Nat.reduceEqDiff, List.map_cons, List.map_nil, List.sum_cons, List.sum_nil, List.cons_append, List.nil_append, Option.toList_some, Option.toList_none, true_and, and_true, true_or, or_true, not_true_eq_false, not_false_eq_true, Nat.lt_add_one, Nat.zero_le, eq_self, or_false, false_or, implies_true, forall_const, false_implies, forall_false, true_implies, and_self, Nat.zero_lt_one, Nat.add_zero, Nat.zero_add, Int32.reduceLT, Int32.reduceLE, Int32.reduceAdd, Int32.reduceSub, Int32.reduceMul, e10, e01, ite_self, ab_mx, ab_mi, ab_mb, ab_ml2, rX8_rises_13, rX8_rises_14, rX8_rises_15, rX8_rises_16, rX8_rises_17, rX8_rises_18, rX8_rises_19, rX8_rises_20, rX8_rises_21]
    refine m_taxOf0 hM ?_
    simp only [ab_loc, ab_cat, ab_kil, ab_al, ab_ln, ab_lnp, ab_rf, sh_0, sh_1, sh_2, sh_3, sh_4, sh_5, sh_6, sh_7, sh_8, sh_9, sh_10, sh_11, sh_12, sh_13, sh_14, sh_20, sh_21, sh_22, sh_23, sh_24, sh_25, sh_30, sh_31, sh_32, sh_40, sh_41, sh_42, sh_43, sh_44, sh_45, sh_46, sh_47, sh_48, sh_49, sh_50, sh_51, sh_52, sh_53, sh_54, sh_55, sh_56, sh_57, sh_58, sh_59, sh_60, ct_0, ct_1, ct_2, ct_3, ct_4, ct_5, ct_6, ct_7, ct_8, ct_9, ct_10, ct_11, ct_12, ct_13, ct_14, ct_20, ct_21, ct_22, ct_23, ct_24, ct_25, ct_30, ct_31, ct_32, ct_40, ct_41, ct_42, ct_43, ct_44, ct_45, ct_46, ct_47, ct_48, ct_49, ct_50, ct_51, ct_52, ct_53, ct_54, ct_55, ct_56, ct_57, ct_58, ct_59, ct_60, ki_m1, ki_0, ki_1, ki_2, ki_3, ki_4, ki_5, kb_m2, kb_m3, kb_m4, kb_m8, kb_m9, kb_10, kb_100, kb_16, kb_36, kb_6, kb_63, kb_8, kb_9, kb_99, ks_216, ks_2520, ks_256, ks_800, kl_0, kl_1, ↓reduceIte, reduceCtorEq, Nat.reduceAdd, Nat.reduceLT, Nat.reduceLeDiff, Nat.reduceEqDiff, List.map_cons, List.map_nil, List.sum_cons, List.sum_nil, List.cons_append, List.nil_append, Option.toList_some, Option.toList_none, true_and, and_true, true_or, or_true, not_true_eq_false, not_false_eq_true, Nat.lt_add_one, Nat.zero_le, eq_self, or_false, false_or, implies_true, forall_const, false_implies, forall_false, true_implies, and_self, Nat.zero_lt_one, Nat.add_zero, Nat.zero_add, Int32.reduceLT, Int32.reduceLE, Int32.reduceAdd, Int32.reduceSub, Int32.reduceMul, e10, e01, ite_self, ab_mx, ab_mi, ab_mb, ab_ml2, rX8_rises_24, rX8_rises_25, rX8_rises_26, rX8_rises_29, rX8_rises_30, rX8_rises_31, rX8_rises_34, Int32.zero_mul, i32_le_refl]
    rw [nI_1 s]
    exact ih (s + 1) (by omega)
set_option maxHeartbeats 4000000 in
set_option maxRecDepth 100000 in
theorem m_rises {σ : ab_S} {P : ab_P} (hM : fM σ) (hq : ∀ σ', P (some (.inl (.inl 1))) σ') : ab_sp mX8_rises cX8_rises [.inr (some (40, 0))] σ P := by
  simp only [ab_loc, ab_cat, ab_kil, ab_al, ab_ln, ab_lnp, ab_rf, sh_0, sh_1, sh_2, sh_3, sh_4, sh_5, sh_6, sh_7, sh_8, sh_9, sh_10, sh_11, sh_12, sh_13, sh_14, sh_20, sh_21, sh_22, sh_23, sh_24, sh_25, sh_30, sh_31, sh_32, sh_40, sh_41, sh_42, sh_43, sh_44, sh_45, sh_46, sh_47, sh_48, sh_49, sh_50, sh_51, sh_52, sh_53, sh_54, sh_55, sh_56, sh_57, sh_58, sh_59, sh_60, ct_0, ct_1, ct_2, ct_3, ct_4, ct_5, ct_6, ct_7, ct_8, ct_9, ct_10, ct_11, ct_12, ct_13, ct_14, ct_20, ct_21, ct_22, ct_23, ct_24, ct_25, ct_30, ct_31, ct_32, ct_40, ct_41, ct_42, ct_43, ct_44, ct_45, ct_46, ct_47, ct_48, ct_49, ct_50, ct_51, ct_52, ct_53, ct_54, ct_55, ct_56, ct_57, ct_58, ct_59, ct_60, ki_m1, ki_0, ki_1, ki_2, ki_3, ki_4, ki_5, kb_m2, kb_m3, kb_m4, kb_m8, kb_m9, kb_10, kb_100, kb_16, kb_36, kb_6, kb_63, kb_8, kb_9, kb_99, ks_216, ks_2520, ks_256, ks_800, kl_0, kl_1, ↓reduceIte, reduceCtorEq, Nat.reduceAdd, Nat.reduceLT, Nat.reduceLeDiff, Nat.reduceEqDiff, List.map_cons, List.map_nil, List.sum_cons, List.sum_nil, List.cons_append, List.nil_append, Option.toList_some, Option.toList_none, true_and, and_true, true_or, or_true, not_true_eq_false, not_false_eq_true, Nat.lt_add_one, Nat.zero_le, eq_self, or_false, false_or, implies_true, forall_const, false_implies, forall_false, true_implies, and_self, Nat.zero_lt_one, Nat.add_zero, Nat.zero_add, Int32.reduceLT, Int32.reduceLE, Int32.reduceAdd, Int32.reduceSub, Int32.reduceMul, e10, e01, ite_self, ab_mx, ab_mi, ab_mb, ab_ml2, uX8_rises, rX8_rises_0, rX8_rises_1]
  exact m_risel hM (hq σ) 98 1 rfl
