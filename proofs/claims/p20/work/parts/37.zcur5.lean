theorem ix8r {x k : Int32} {m : Nat} (h0 : 0 ≤ x.toInt) (h1 : x.toInt ≤ 3) (hk : k.toInt = m) (h8 : m < 8) : vp_in (8 * x + k) 32 ∧ (8 * x + k).toNatClampNeg = 8 * x.toNatClampNeg + m := by
  have a := ix8n (x := x) (k := k) h0 h1 (by omega) (by omega)
  exact ⟨ix8 h0 h1 (by omega) (by omega) (by omega), by rw [a, hk]; rfl⟩
set_option maxRecDepth 100000 in
set_option maxHeartbeats 1000000 in
theorem sX8_layF {σ : ab_S} {P : ab_P} {x1 x2 x3 : Int32} {g z : Nat → Int} {n : Nat} (hR : rg_R σ) (l1 : 0 ≤ x1.toInt) (m1 : x1.toInt ≤ 1) (l2 : 0 ≤ x2.toInt) (m2 : x2.toInt ≤ 3) (s0 : 0 ≤ x3.toInt) (s2 : x3.toInt ≤ 2) (hn : (σ.1 41 0 x2.toNatClampNeg).toInt = n) (n8 : n ≤ 8) (hg : ∀ j, j < n → (σ.1 46 0 (8 * x1.toNatClampNeg + j)).toInt = g j) (hz : ∀ j, j < n → (σ.1 44 0 (8 * x2.toNatClampNeg + j)).toInt = z j) (bg : ∀ j, j < n → 0 ≤ g j ∧ g j ≤ 99) (bz : ∀ j, j < n → 1 ≤ z j ∧ z j ≤ 9) (hP : ∀ σ', fr (laS x1.toNatClampNeg) σ σ' → rvv σ' x1.toNatClampNeg x3.toInt g z n → P none σ') : ab_sp mX8_lay cX8_lay [.inr (some (40, 0)), .inl (.inl x1), .inl (.inl x2), .inl (.inl x3)] σ P := by
  have v1 : vp_in x1 2 := vp_of l1 (by omega)
  have v2 : vp_in x2 4 := vp_of l2 (by omega)
  have many : ∀ c, fr (laS x1.toNatClampNeg) σ c → c.1 41 0 x2.toNatClampNeg = σ.1 41 0 x2.toNatClampNeg := fun c h => (h.2 41 0 _ rfl).1
  obtain ⟨M, eM⟩ : ∃ M, σ.1 41 0 x2.toNatClampNeg = M := ⟨_, rfl⟩
  have many : ∀ c, fr (laS x1.toNatClampNeg) σ c → c.1 41 0 x2.toNatClampNeg = M := fun c h => (many c h).trans eM
  rw [eM] at hn
  have finZ : ∀ (r K : Nat) (k : Int32) (c : ab_S) (l5 l6 l7 l8 : Option ab_V), K + r = n → k.toInt = K → alI x3.toInt g z n = 0 → lyJ σ c x1.toNatClampNeg x2.toNatClampNeg x3.toInt g z n → (∀ j, j < n → (c.1 47 0 (8 * x1.toNatClampNeg + j)).toInt = (srt x3.toInt g z n).2 j) → (∀ j, j < K → c.2 48 0 (8 * x1.toNatClampNeg + j) = 2520) → ab_wp mX8_lay cX8_lay none P 269 [some (.inr (some (40, 0))), some (.inl (.inl x1)), some (.inl (.inl x2)), some (.inl (.inl x3)), some (.inl (.inl k)), l5, l6, l7, l8] [] c := by
    intro r
    induction r with
    | zero =>
      intro K k c l5 l6 l7 l8 er k0 hA hc h47 h48
      have em := many c hc.1
      have c2 : M ≤ k := Int32.le_iff_toInt_le.mpr (by omega)
      have F := hP c hc.1 ⟨by rw [hc.2.1, eM]; exact hn, hc.2.2.1, hc.2.2.2, fun j hj => ⟨by unfold erI; rw [if_pos hA, h48 j (by omega)]; rfl, h47 j hj⟩⟩
      rw [rX8_lay_269]
      simp only [ab_loc, ab_cat, ab_kil, ab_al, ab_ln, ab_lnp, ab_rf, sh_0, sh_1, sh_2, sh_3, sh_4, sh_5, sh_6, sh_7, sh_8, sh_9, sh_10, sh_11, sh_12, sh_13, sh_14, sh_20, sh_21, sh_22, sh_23, sh_24, sh_25, sh_30, sh_31, sh_32, sh_40, sh_41, sh_42, sh_43, sh_44, sh_45, sh_46, sh_47, sh_48, sh_49, sh_50, sh_51, sh_52, sh_53, sh_54, sh_55, sh_56, sh_57, sh_58, sh_59, sh_60, ct_0, ct_1, ct_2, ct_3, ct_4, ct_5, ct_6, ct_7, ct_8, ct_9, ct_10, ct_11, ct_12, ct_13, ct_14, ct_20, ct_21, ct_22, ct_23, ct_24, ct_25, ct_30, ct_31, ct_32, ct_40, ct_41, ct_42, ct_43, ct_44, ct_45, ct_46, ct_47, ct_48, ct_49, ct_50, ct_51, ct_52, ct_53, ct_54, ct_55, ct_56, ct_57, ct_58, ct_59, ct_60, ki_m1, ki_0, ki_1, ki_2, ki_3, ki_4, ki_5, kb_m2, kb_m3, kb_m4, kb_m8, kb_m9, kb_10, kb_100, kb_16, kb_36, kb_6, kb_63, kb_8, kb_9, kb_99, ks_216, ks_2520, ks_256, ks_800, kl_0, kl_1, ↓reduceIte, reduceCtorEq, Nat.reduceAdd, Nat.reduceLT, Nat.reduceLeDiff, Nat.reduceEqDiff, List.map_cons, List.map_nil, List.sum_cons, List.sum_nil, List.cons_append, List.nil_append, Option.toList_some, Option.toList_none, true_and, and_true, true_or, or_true, not_true_eq_false, not_false_eq_true, Nat.lt_add_one, Nat.zero_le, eq_self, or_false, false_or, implies_true, forall_const, false_implies, forall_false, true_implies, and_self, Nat.zero_lt_one, Nat.add_zero, Nat.zero_add, Int32.reduceLT, Int32.reduceLE, Int32.reduceAdd, Int32.reduceSub, Int32.reduceMul, e10, e01, ite_self, ab_mx, ab_mi, ab_mb, ab_ml2, rX8_lay_271, rX8_lay_272, rX8_lay_275, rX8_lay_276, rX8_lay_277, rX8_lay_312, v2, em, c2]
      exact F
    | succ r ih =>
      intro K k c l5 l6 l7 l8 er k0 hA hc h47 h48
      have em := many c hc.1
      have c2 : ¬ M ≤ k := fun q => by have q := le32 q; omega
      have ek : (k + 1).toInt = (K + 1 : Nat) := by rw [i32_p1 (by omega)]; omega
      have z51 : c.2 51 0 x1.toNatClampNeg = 0 := Int64.toInt_inj.mp (by rw [hc.2.2.2, hA]; rfl)
      have K8 : K < 8 := by omega
      have er' : K + 1 + r = n := by omega
      have T := la_4 (s := x1.toNatClampNeg) (i := 0) K8
      have F := ih (K + 1) (k + 1) (ab_sl c 48 0 (8 * x1.toNatClampNeg + K) 2520) l5 l6 l7 l8 er' ek hA ⟨hc.1.sl 48 0 _ T.2, by rw [sn_li]; exact hc.2.1, by rw [sn_li]; exact hc.2.2.1, by rw [sn_ll (by decide)]; exact hc.2.2.2⟩ (fun j hj => by rw [sn_li]; exact h47 j hj) (fun j hj => by
        by_cases e : j = K
        · rw [e, sn_le]
        · rw [sn_lj (by omega)]; exact h48 j (by omega))
      obtain ⟨vk, nk⟩ := ix8q l1 m1 k0 K8
      rw [rX8_lay_269]
      simp only [ab_loc, ab_cat, ab_kil, ab_al, ab_ln, ab_lnp, ab_rf, sh_0, sh_1, sh_2, sh_3, sh_4, sh_5, sh_6, sh_7, sh_8, sh_9, sh_10, sh_11, sh_12, sh_13, sh_14, sh_20, sh_21, sh_22, sh_23, sh_24, sh_25, sh_30, sh_31, sh_32, sh_40, sh_41, sh_42, sh_43, sh_44, sh_45, sh_46, sh_47, sh_48, sh_49, sh_50, sh_51, sh_52, sh_53, sh_54, sh_55, sh_56, sh_57, sh_58, sh_59, sh_60, ct_0, ct_1, ct_2, ct_3, ct_4, ct_5, ct_6, ct_7, ct_8, ct_9, ct_10, ct_11, ct_12, ct_13, ct_14, ct_20, ct_21, ct_22, ct_23, ct_24, ct_25, ct_30, ct_31, ct_32, ct_40, ct_41, ct_42, ct_43, ct_44, ct_45, ct_46, ct_47, ct_48, ct_49, ct_50, ct_51, ct_52, ct_53, ct_54, ct_55, ct_56, ct_57, ct_58, ct_59, ct_60, ki_m1, ki_0, ki_1, ki_2, ki_3, ki_4, ki_5, kb_m2, kb_m3, kb_m4, kb_m8, kb_m9, kb_10, kb_100, kb_16, kb_36, kb_6, kb_63, kb_8, kb_9, kb_99, ks_216, ks_2520, ks_256, ks_800, kl_0, kl_1, ↓reduceIte, reduceCtorEq, Nat.reduceAdd, Nat.reduceLT, Nat.reduceLeDiff, Nat.reduceEqDiff, List.map_cons, List.map_nil, List.sum_cons, List.sum_nil, List.cons_append, List.nil_append, Option.toList_some, Option.toList_none, true_and, and_true, true_or, or_true, not_true_eq_false, not_false_eq_true, Nat.lt_add_one, Nat.zero_le, eq_self, or_false, false_or, implies_true, forall_const, false_implies, forall_false, true_implies, and_self, Nat.zero_lt_one, Nat.add_zero, Nat.zero_add, Int32.reduceLT, Int32.reduceLE, Int32.reduceAdd, Int32.reduceSub, Int32.reduceMul, e10, e01, ite_self, ab_mx, ab_mi, ab_mb, ab_ml2, rX8_lay_271, rX8_lay_272, rX8_lay_275, rX8_lay_276, rX8_lay_277, rX8_lay_280, rX8_lay_281, rX8_lay_284, rX8_lay_285, rX8_lay_286, rX8_lay_287, rX8_lay_288, rX8_lay_291, rX8_lay_292, rX8_lay_295, rX8_lay_297, rX8_lay_298, rX8_lay_299, rX8_lay_301, rX8_lay_302, rX8_lay_305, rX8_lay_306, rX8_lay_309, v1, v2, em, c2, vk, nk, lg_cmp_eq, z51]
      exact F
  have fin : ∀ (c : ab_S) (l5 l6 l7 l8 : Option ab_V), lyJ σ c x1.toNatClampNeg x2.toNatClampNeg x3.toInt g z n → (∀ j, j < n → (c.2 48 0 (8 * x1.toNatClampNeg + j)).toInt = (srt x3.toInt g z n).1 j ∧ (c.1 47 0 (8 * x1.toNatClampNeg + j)).toInt = (srt x3.toInt g z n).2 j) → ab_wp mX8_lay cX8_lay none P 269 [some (.inr (some (40, 0))), some (.inl (.inl x1)), some (.inl (.inl x2)), some (.inl (.inl x3)), some (.inl (.inl 0)), l5, l6, l7, l8] [] c := by
    intro c l5 l6 l7 l8 hc hr
    by_cases hA : alI x3.toInt g z n = 0
    · exact finZ n 0 0 c l5 l6 l7 l8 (by omega) rfl hA hc (fun j hj => (hr j hj).2) (fun j hj => absurd hj (Nat.not_lt_zero j))
    · have em := many c hc.1
      have n0 : n ≠ 0 := fun e => hA (by rw [e]; rfl)
      have c2 : ¬ M ≤ 0 := fun q => by have q := le32 q; rw [t0i] at q; omega
      have z51 : ¬ c.2 51 0 x1.toNatClampNeg = 0 := fun e => hA (by rw [← hc.2.2.2, e]; rfl)
      have F := hP c hc.1 ⟨by rw [hc.2.1, eM]; exact hn, hc.2.2.1, hc.2.2.2, fun j hj => ⟨by unfold erI; rw [if_neg hA]; exact (hr j hj).1, (hr j hj).2⟩⟩
      rw [rX8_lay_269]
      simp only [ab_loc, ab_cat, ab_kil, ab_al, ab_ln, ab_lnp, ab_rf, sh_0, sh_1, sh_2, sh_3, sh_4, sh_5, sh_6, sh_7, sh_8, sh_9, sh_10, sh_11, sh_12, sh_13, sh_14, sh_20, sh_21, sh_22, sh_23, sh_24, sh_25, sh_30, sh_31, sh_32, sh_40, sh_41, sh_42, sh_43, sh_44, sh_45, sh_46, sh_47, sh_48, sh_49, sh_50, sh_51, sh_52, sh_53, sh_54, sh_55, sh_56, sh_57, sh_58, sh_59, sh_60, ct_0, ct_1, ct_2, ct_3, ct_4, ct_5, ct_6, ct_7, ct_8, ct_9, ct_10, ct_11, ct_12, ct_13, ct_14, ct_20, ct_21, ct_22, ct_23, ct_24, ct_25, ct_30, ct_31, ct_32, ct_40, ct_41, ct_42, ct_43, ct_44, ct_45, ct_46, ct_47, ct_48, ct_49, ct_50, ct_51, ct_52, ct_53, ct_54, ct_55, ct_56, ct_57, ct_58, ct_59, ct_60, ki_m1, ki_0, ki_1, ki_2, ki_3, ki_4, ki_5, kb_m2, kb_m3, kb_m4, kb_m8, kb_m9, kb_10, kb_100, kb_16, kb_36, kb_6, kb_63, kb_8, kb_9, kb_99, ks_216, ks_2520, ks_256, ks_800, kl_0, kl_1, ↓reduceIte, reduceCtorEq, Nat.reduceAdd, Nat.reduceLT, Nat.reduceLeDiff, Nat.reduceEqDiff, List.map_cons, List.map_nil, List.sum_cons, List.sum_nil, List.cons_append, List.nil_append, Option.toList_some, Option.toList_none, true_and, and_true, true_or, or_true, not_true_eq_false, not_false_eq_true, Nat.lt_add_one, Nat.zero_le, eq_self, or_false, false_or, implies_true, forall_const, false_implies, forall_false, true_implies, and_self, Nat.zero_lt_one, Nat.add_zero, Nat.zero_add, Int32.reduceLT, Int32.reduceLE, Int32.reduceAdd, Int32.reduceSub, Int32.reduceMul, e10, e01, ite_self, ab_mx, ab_mi, ab_mb, ab_ml2, rX8_lay_271, rX8_lay_272, rX8_lay_275, rX8_lay_276, rX8_lay_277, rX8_lay_280, rX8_lay_281, rX8_lay_284, rX8_lay_285, rX8_lay_286, rX8_lay_287, rX8_lay_288, rX8_lay_312, v1, v2, em, c2, lg_cmp_eq, z51]
      exact F
  have outer : ∀ (r F : Nat) (f : Int32) (c : ab_S) (l5 l6 l7 l8 : Option ab_V), F + r = n → f.toInt = F → lyJ σ c x1.toNatClampNeg x2.toNatClampNeg x3.toInt g z F → (∀ j, j < F → (c.2 48 0 (8 * x1.toNatClampNeg + j)).toInt = (srt x3.toInt g z F).1 j ∧ (c.1 47 0 (8 * x1.toNatClampNeg + j)).toInt = (srt x3.toInt g z F).2 j) → ab_wp mX8_lay cX8_lay none P 29 [some (.inr (some (40, 0))), some (.inl (.inl x1)), some (.inl (.inl x2)), some (.inl (.inl x3)), some (.inl (.inl f)), l5, l6, l7, l8] [] c := by
    intro r
    induction r with
    | zero =>
      intro F f c l5 l6 l7 l8 er fn hc hr
      have em := many c hc.1
      have c2 : M ≤ f := Int32.le_iff_toInt_le.mpr (by omega)
      rw [show F = n by omega] at hc hr
      have Q := fin c l5 l6 l7 l8 hc hr
      simp only [ab_loc, ab_cat, ab_kil, ab_al, ab_ln, ab_lnp, ab_rf, sh_0, sh_1, sh_2, sh_3, sh_4, sh_5, sh_6, sh_7, sh_8, sh_9, sh_10, sh_11, sh_12, sh_13, sh_14, sh_20, sh_21, sh_22, sh_23, sh_24, sh_25, sh_30, sh_31, sh_32, sh_40, sh_41, sh_42, sh_43, sh_44, sh_45, sh_46, sh_47, sh_48, sh_49, sh_50, sh_51, sh_52, sh_53, sh_54, sh_55, sh_56, sh_57, sh_58, sh_59, sh_60, ct_0, ct_1, ct_2, ct_3, ct_4, ct_5, ct_6, ct_7, ct_8, ct_9, ct_10, ct_11, ct_12, ct_13, ct_14, ct_20, ct_21, ct_22, ct_23, ct_24, ct_25, ct_30, ct_31, ct_32, ct_40, ct_41, ct_42, ct_43, ct_44, ct_45, ct_46, ct_47, ct_48, ct_49, ct_50, ct_51, ct_52, ct_53, ct_54, ct_55, ct_56, ct_57, ct_58, ct_59, ct_60, ki_m1, ki_0, ki_1, ki_2, ki_3, ki_4, ki_5, kb_m2, kb_m3, kb_m4, kb_m8, kb_m9, kb_10, kb_100, kb_16, kb_36, kb_6, kb_63, kb_8, kb_9, kb_99, ks_216, ks_2520, ks_256, ks_800, kl_0, kl_1, ↓reduceIte, reduceCtorEq, Nat.reduceAdd, Nat.reduceLT, Nat.reduceLeDiff, Nat.reduceEqDiff, List.map_cons, List.map_nil, List.sum_cons, List.sum_nil, List.cons_append, List.nil_append, Option.toList_some, Option.toList_none, true_and, and_true, true_or, or_true, not_true_eq_false, not_false_eq_true, Nat.lt_add_one, Nat.zero_le, eq_self, or_false, false_or, implies_true, forall_const, false_implies, forall_false, true_implies, and_self, Nat.zero_lt_one, Nat.add_zero, Nat.zero_add, Int32.reduceLT, Int32.reduceLE, Int32.reduceAdd, Int32.reduceSub, Int32.reduceMul, e10, e01, ite_self, ab_mx, ab_mi, ab_mb, ab_ml2, rX8_lay_29, rX8_lay_31, rX8_lay_32, rX8_lay_35, rX8_lay_36, rX8_lay_37, rX8_lay_266, rX8_lay_267, v2, em, c2]
      exact Q
    | succ r ih =>
      intro F f c l5 l6 l7 l8 er fn hc hr
      have em := many c hc.1
      have c2 : ¬ M ≤ f := fun q => by have q := le32 q; omega
      have f7 : F < 8 := by omega
      have fl : F < n := by omega
      have ef : (f + 1).toInt = (F + 1 : Nat) := by rw [i32_p1 (by omega)]; omega
      have er' : F + 1 + r = n := by omega
      have nx : ∀ (c : ab_S) (l5 l6 l7 l8 : Option ab_V), lyJ σ c x1.toNatClampNeg x2.toNatClampNeg x3.toInt g z (F + 1) → (∀ j, j < F + 1 → (c.2 48 0 (8 * x1.toNatClampNeg + j)).toInt = (srt x3.toInt g z (F + 1)).1 j ∧ (c.1 47 0 (8 * x1.toNatClampNeg + j)).toInt = (srt x3.toInt g z (F + 1)).2 j) → ab_wp mX8_lay cX8_lay none P 29 [some (.inr (some (40, 0))), some (.inl (.inl x1)), some (.inl (.inl x2)), some (.inl (.inl x3)), some (.inl (.inl (f + 1))), l5, l6, l7, l8] [] c := fun c l5 l6 l7 l8 h1 h2 => ih (F + 1) (f + 1) c l5 l6 l7 l8 er' ef h1 h2
      have Bg := bg F fl
      have Bz := bz F fl
      have bh := hd_b (sc := x3.toInt) (z := z) (n := F) (fun j hj => bz j (by omega))
      have ba := al_b (sc := x3.toInt) (g := g) (z := z) (n := F) (fun j hj => bg j (by omega)) (fun j hj => bz j (by omega))
      have bv := hv_b (sc := x3.toInt) (g := g) (z := z) Bg Bz
      have bs := wv_b (sc := x3.toInt) (z := z) Bz
      have hh : (c.1 46 0 (8 * x1.toNatClampNeg + F)).toInt = g F := by rw [(hc.1.2 46 0 _ rfl).1]; exact hg _ fl
      have hs : (c.1 44 0 (8 * x2.toNatClampNeg + F)).toInt = z F := by rw [(hc.1.2 44 0 _ rfl).1]; exact hz _ fl
      obtain ⟨s, hse⟩ : ∃ s, c.1 44 0 (8 * x2.toNatClampNeg + F) = s := ⟨_, rfl⟩
      obtain ⟨h, hhe⟩ : ∃ h, c.1 46 0 (8 * x1.toNatClampNeg + F) = h := ⟨_, rfl⟩
      rw [hse] at hs
      rw [hhe] at hh
      have e0 := ly_v0 (h := h) (by omega) (by omega)
      have B1 := ly_b1 (h := h) (s := s) (by omega) (by omega) (by omega)
      have B2 := ly_b2 (h := h) (s := s) (by omega) (by omega) (by omega) (by omega)
      have e22 : (2 : Int64).toInt = 2 := rfl
      have es1 : (s + 1).toInt64.toInt = z F + 1 := by rw [l64, i32_p1 (by omega), hs]
      have e2v : (2 * (2520 * h.toInt64)).toInt = 2 * (2520 * g F) := by rw [i64_mul (by rw [e22, e0]; omega) (by rw [e22, e0]; omega), e22, e0, hh]
      have d1 : (2520 * h.toInt64 / s.toInt64).toInt = 2520 * g F / z F := by rw [i64_div (by rw [e0]; omega) (by rw [l64]; omega), e0, l64, hh, hs]
      have d2 : (2 * (2520 * h.toInt64) / (s + 1).toInt64).toInt = 2 * (2520 * g F) / (z F + 1) := by rw [i64_div (by rw [e2v]; omega) (by rw [es1]; omega), e2v, es1]
      have go : ∀ (s5 : Int32) (v : Int64), v.toInt = hvI x3.toInt g z F → s5.toInt = wvI x3.toInt z F → ab_wp mX8_lay cX8_lay none P 123 [some (.inr (some (40, 0))), some (.inl (.inl x1)), some (.inl (.inl x2)), some (.inl (.inl x3)), some (.inl (.inl f)), some (.inl (.inl s5)), some (.inl (.inr v)), none, some (.inl (.inl f))] [] c := fun s5 v hv hs5 => ly_in l1 m1 fn f7 hv hs5 bv bs bh ba nx F f c fn (Nat.le_refl _) rfl hc ⟨hr, fun j h1 h2 => absurd h2 (by omega)⟩
      obtain ⟨va, na⟩ := ix8q l1 m1 fn f7
      obtain ⟨vb, nb⟩ := ix8r l2 m2 fn f7
      rcases sc3 s0 s2 with e | e | e
      · have q0 : (x3 = 0) = True := eq_true e
        have q1 : (x3 = 1) = False := eq_false (fun w => by rw [e] at w; cases w)
        have q2 : (x3 = 2) = False := eq_false (fun w => by rw [e] at w; cases w)
        have K := go 1 (2520 * h.toInt64) (by rw [e0, hh, e]; rfl) (by rw [e]; rfl)
        simp only [ab_loc, ab_cat, ab_kil, ab_al, ab_ln, ab_lnp, ab_rf, sh_0, sh_1, sh_2, sh_3, sh_4, sh_5, sh_6, sh_7, sh_8, sh_9, sh_10, sh_11, sh_12, sh_13, sh_14, sh_20, sh_21, sh_22, sh_23, sh_24, sh_25, sh_30, sh_31, sh_32, sh_40, sh_41, sh_42, sh_43, sh_44, sh_45, sh_46, sh_47, sh_48, sh_49, sh_50, sh_51, sh_52, sh_53, sh_54, sh_55, sh_56, sh_57, sh_58, sh_59, sh_60, ct_0, ct_1, ct_2, ct_3, ct_4, ct_5, ct_6, ct_7, ct_8, ct_9, ct_10, ct_11, ct_12, ct_13, ct_14, ct_20, ct_21, ct_22, ct_23, ct_24, ct_25, ct_30, ct_31, ct_32, ct_40, ct_41, ct_42, ct_43, ct_44, ct_45, ct_46, ct_47, ct_48, ct_49, ct_50, ct_51, ct_52, ct_53, ct_54, ct_55, ct_56, ct_57, ct_58, ct_59, ct_60, ki_m1, ki_0, ki_1, ki_2, ki_3, ki_4, ki_5, kb_m2, kb_m3, kb_m4, kb_m8, kb_m9, kb_10, kb_100, kb_16, kb_36, kb_6, kb_63, kb_8, kb_9, kb_99, ks_216, ks_2520, ks_256, ks_800, kl_0, kl_1, ↓reduceIte, reduceCtorEq, Nat.reduceAdd, Nat.reduceLT, Nat.reduceLeDiff, Nat.reduceEqDiff, List.map_cons, List.map_nil, List.sum_cons, List.sum_nil, List.cons_append, List.nil_append, Option.toList_some, Option.toList_none, true_and, and_true, true_or, or_true, not_true_eq_false, not_false_eq_true, Nat.lt_add_one, Nat.zero_le, eq_self, or_false, false_or, implies_true, forall_const, false_implies, forall_false, true_implies, and_self, Nat.zero_lt_one, Nat.add_zero, Nat.zero_add, Int32.reduceLT, Int32.reduceLE, Int32.reduceAdd, Int32.reduceSub, Int32.reduceMul, e10, e01, ite_self, ab_mx, ab_mi, ab_mb, ab_ml2, rX8_lay_29, rX8_lay_31, rX8_lay_32, rX8_lay_35, rX8_lay_36, rX8_lay_37, rX8_lay_40, rX8_lay_41, rX8_lay_44, rX8_lay_45, rX8_lay_48, rX8_lay_49, rX8_lay_52, rX8_lay_54, rX8_lay_55, rX8_lay_56, rX8_lay_58, rX8_lay_59, rX8_lay_60, rX8_lay_62, rX8_lay_65, rX8_lay_66, rX8_lay_69, rX8_lay_71, rX8_lay_72, rX8_lay_73, rX8_lay_75, rX8_lay_76, rX8_lay_77, rX8_lay_78, rX8_lay_79, rX8_lay_81, rX8_lay_82, rX8_lay_83, rX8_lay_86, rX8_lay_88, rX8_lay_90, rX8_lay_91, rX8_lay_92, rX8_lay_95, rX8_lay_96, rX8_lay_97, rX8_lay_100, rX8_lay_103, rX8_lay_105, rX8_lay_106, rX8_lay_108, rX8_lay_109, rX8_lay_110, rX8_lay_111, rX8_lay_112, rX8_lay_115, rX8_lay_117, rX8_lay_119, rX8_lay_121, v1, v2, va, vb, na, nb, em, c2, q0, q1, q2, hse, hhe]
        exact K
      · have q0 : (x3 = 0) = False := eq_false (fun w => by rw [e] at w; cases w)
        have q1 : (x3 = 1) = True := eq_true e
        have K := go s (2520 * h.toInt64 / s.toInt64) (by rw [d1, e]; rfl) (by rw [hs, e]; rfl)
        simp only [ab_loc, ab_cat, ab_kil, ab_al, ab_ln, ab_lnp, ab_rf, sh_0, sh_1, sh_2, sh_3, sh_4, sh_5, sh_6, sh_7, sh_8, sh_9, sh_10, sh_11, sh_12, sh_13, sh_14, sh_20, sh_21, sh_22, sh_23, sh_24, sh_25, sh_30, sh_31, sh_32, sh_40, sh_41, sh_42, sh_43, sh_44, sh_45, sh_46, sh_47, sh_48, sh_49, sh_50, sh_51, sh_52, sh_53, sh_54, sh_55, sh_56, sh_57, sh_58, sh_59, sh_60, ct_0, ct_1, ct_2, ct_3, ct_4, ct_5, ct_6, ct_7, ct_8, ct_9, ct_10, ct_11, ct_12, ct_13, ct_14, ct_20, ct_21, ct_22, ct_23, ct_24, ct_25, ct_30, ct_31, ct_32, ct_40, ct_41, ct_42, ct_43, ct_44, ct_45, ct_46, ct_47, ct_48, ct_49, ct_50, ct_51, ct_52, ct_53, ct_54, ct_55, ct_56, ct_57, ct_58, ct_59, ct_60, ki_m1, ki_0, ki_1, ki_2, ki_3, ki_4, ki_5, kb_m2, kb_m3, kb_m4, kb_m8, kb_m9, kb_10, kb_100, kb_16, kb_36, kb_6, kb_63, kb_8, kb_9, kb_99, ks_216, ks_2520, ks_256, ks_800, kl_0, kl_1, ↓reduceIte, reduceCtorEq, Nat.reduceAdd, Nat.reduceLT, Nat.reduceLeDiff, Nat.reduceEqDiff, List.map_cons, List.map_nil, List.sum_cons, List.sum_nil, List.cons_append, List.nil_append, Option.toList_some, Option.toList_none, true_and, and_true, true_or, or_true, not_true_eq_false, not_false_eq_true, Nat.lt_add_one, Nat.zero_le, eq_self, or_false, false_or, implies_true, forall_const, false_implies, forall_false, true_implies, and_self, Nat.zero_lt_one, Nat.add_zero, Nat.zero_add, Int32.reduceLT, Int32.reduceLE, Int32.reduceAdd, Int32.reduceSub, Int32.reduceMul, e10, e01, ite_self, ab_mx, ab_mi, ab_mb, ab_ml2, rX8_lay_29, rX8_lay_31, rX8_lay_32, rX8_lay_35, rX8_lay_36, rX8_lay_37, rX8_lay_40, rX8_lay_41, rX8_lay_44, rX8_lay_45, rX8_lay_48, rX8_lay_49, rX8_lay_52, rX8_lay_54, rX8_lay_55, rX8_lay_56, rX8_lay_58, rX8_lay_59, rX8_lay_60, rX8_lay_62, rX8_lay_65, rX8_lay_66, rX8_lay_69, rX8_lay_71, rX8_lay_72, rX8_lay_73, rX8_lay_75, rX8_lay_76, rX8_lay_77, rX8_lay_78, rX8_lay_79, rX8_lay_81, rX8_lay_82, rX8_lay_83, rX8_lay_86, rX8_lay_88, rX8_lay_90, rX8_lay_91, rX8_lay_92, rX8_lay_95, rX8_lay_96, rX8_lay_97, rX8_lay_100, rX8_lay_103, rX8_lay_105, rX8_lay_106, rX8_lay_108, rX8_lay_109, rX8_lay_110, rX8_lay_111, rX8_lay_112, rX8_lay_115, rX8_lay_117, rX8_lay_119, rX8_lay_121, v1, v2, va, vb, na, nb, em, c2, q0, q1, hse, hhe, B1.1]
        exact K
      · have q0 : (x3 = 0) = False := eq_false (fun w => by rw [e] at w; cases w)
        have q1 : (x3 = 1) = False := eq_false (fun w => by rw [e] at w; cases w)
        have q2 : (x3 = 2) = True := eq_true e
        have K := go s (2 * (2520 * h.toInt64) / (s + 1).toInt64) (by rw [d2, e]; rfl) (by rw [hs, e]; rfl)
        simp only [ab_loc, ab_cat, ab_kil, ab_al, ab_ln, ab_lnp, ab_rf, sh_0, sh_1, sh_2, sh_3, sh_4, sh_5, sh_6, sh_7, sh_8, sh_9, sh_10, sh_11, sh_12, sh_13, sh_14, sh_20, sh_21, sh_22, sh_23, sh_24, sh_25, sh_30, sh_31, sh_32, sh_40, sh_41, sh_42, sh_43, sh_44, sh_45, sh_46, sh_47, sh_48, sh_49, sh_50, sh_51, sh_52, sh_53, sh_54, sh_55, sh_56, sh_57, sh_58, sh_59, sh_60, ct_0, ct_1, ct_2, ct_3, ct_4, ct_5, ct_6, ct_7, ct_8, ct_9, ct_10, ct_11, ct_12, ct_13, ct_14, ct_20, ct_21, ct_22, ct_23, ct_24, ct_25, ct_30, ct_31, ct_32, ct_40, ct_41, ct_42, ct_43, ct_44, ct_45, ct_46, ct_47, ct_48, ct_49, ct_50, ct_51, ct_52, ct_53, ct_54, ct_55, ct_56, ct_57, ct_58, ct_59, ct_60, ki_m1, ki_0, ki_1, ki_2, ki_3, ki_4, ki_5, kb_m2, kb_m3, kb_m4, kb_m8, kb_m9, kb_10, kb_100, kb_16, kb_36, kb_6, kb_63, kb_8, kb_9, kb_99, ks_216, ks_2520, ks_256, ks_800, kl_0, kl_1, ↓reduceIte, reduceCtorEq, Nat.reduceAdd, Nat.reduceLT, Nat.reduceLeDiff, Nat.reduceEqDiff, List.map_cons, List.map_nil, List.sum_cons, List.sum_nil, List.cons_append, List.nil_append, Option.toList_some, Option.toList_none, true_and, and_true, true_or, or_true, not_true_eq_false, not_false_eq_true, Nat.lt_add_one, Nat.zero_le, eq_self, or_false, false_or, implies_true, forall_const, false_implies, forall_false, true_implies, and_self, Nat.zero_lt_one, Nat.add_zero, Nat.zero_add, Int32.reduceLT, Int32.reduceLE, Int32.reduceAdd, Int32.reduceSub, Int32.reduceMul, e10, e01, ite_self, ab_mx, ab_mi, ab_mb, ab_ml2, rX8_lay_29, rX8_lay_31, rX8_lay_32, rX8_lay_35, rX8_lay_36, rX8_lay_37, rX8_lay_40, rX8_lay_41, rX8_lay_44, rX8_lay_45, rX8_lay_48, rX8_lay_49, rX8_lay_52, rX8_lay_54, rX8_lay_55, rX8_lay_56, rX8_lay_58, rX8_lay_59, rX8_lay_60, rX8_lay_62, rX8_lay_65, rX8_lay_66, rX8_lay_69, rX8_lay_71, rX8_lay_72, rX8_lay_73, rX8_lay_75, rX8_lay_76, rX8_lay_77, rX8_lay_78, rX8_lay_79, rX8_lay_81, rX8_lay_82, rX8_lay_83, rX8_lay_86, rX8_lay_88, rX8_lay_90, rX8_lay_91, rX8_lay_92, rX8_lay_95, rX8_lay_96, rX8_lay_97, rX8_lay_100, rX8_lay_103, rX8_lay_105, rX8_lay_106, rX8_lay_108, rX8_lay_109, rX8_lay_110, rX8_lay_111, rX8_lay_112, rX8_lay_115, rX8_lay_117, rX8_lay_119, rX8_lay_121, v1, v2, va, vb, na, nb, em, c2, q0, q1, q2, hse, hhe, B2.1]
        exact K
  have U := la_5 (s := x1.toNatClampNeg) (i := 0)
  have rn : (0 : Int) ≤ (σ.1 41 0 x2.toNatClampNeg).toInt ∧ (σ.1 41 0 x2.toNatClampNeg).toInt ≤ 8 := hR 41 0 _
  rw [eM] at rn
  have K := outer n 0 0 (ab_sl (ab_si (ab_si σ 49 0 x1.toNatClampNeg M) 50 0 x1.toNatClampNeg 0) 51 0 x1.toNatClampNeg 0) none none none none (by omega) rfl ⟨((((fr.rf hR).si 49 0 _ U.1 (show (0 : Int) ≤ _ from rn.1) (show _ ≤ (8 : Int) from rn.2)).si 50 0 _ U.2.1 (i32_lo _) (i32_hi _)).sl 51 0 _ U.2.2), by rw [sn_li, sn_ii (by decide), sn_ie, eM], by rw [sn_li, sn_ie]; rfl, by rw [sn_le]; rfl⟩ (fun j hj => absurd hj (Nat.not_lt_zero j))
  simp only [ab_loc, ab_cat, ab_kil, ab_al, ab_ln, ab_lnp, ab_rf, sh_0, sh_1, sh_2, sh_3, sh_4, sh_5, sh_6, sh_7, sh_8, sh_9, sh_10, sh_11, sh_12, sh_13, sh_14, sh_20, sh_21, sh_22, sh_23, sh_24, sh_25, sh_30, sh_31, sh_32, sh_40, sh_41, sh_42, sh_43, sh_44, sh_45, sh_46, sh_47, sh_48, sh_49, sh_50, sh_51, sh_52, sh_53, sh_54, sh_55, sh_56, sh_57, sh_58, sh_59, sh_60, ct_0, ct_1, ct_2, ct_3, ct_4, ct_5, ct_6, ct_7, ct_8, ct_9, ct_10, ct_11, ct_12, ct_13, ct_14, ct_20, ct_21, ct_22, ct_23, ct_24, ct_25, ct_30, ct_31, ct_32, ct_40, ct_41, ct_42, ct_43, ct_44, ct_45, ct_46, ct_47, ct_48, ct_49, ct_50, ct_51, ct_52, ct_53, ct_54, ct_55, ct_56, ct_57, ct_58, ct_59, ct_60, ki_m1, ki_0, ki_1, ki_2, ki_3, ki_4, ki_5, kb_m2, kb_m3, kb_m4, kb_m8, kb_m9, kb_10, kb_100, kb_16, kb_36, kb_6, kb_63, kb_8, kb_9, kb_99, ks_216, ks_2520, ks_256, ks_800, kl_0, kl_1, ↓reduceIte, reduceCtorEq, Nat.reduceAdd, Nat.reduceLT, Nat.reduceLeDiff, Nat.reduceEqDiff, List.map_cons, List.map_nil, List.sum_cons, List.sum_nil, List.cons_append, List.nil_append, Option.toList_some, Option.toList_none, true_and, and_true, true_or, or_true, not_true_eq_false, not_false_eq_true, Nat.lt_add_one, Nat.zero_le, eq_self, or_false, false_or, implies_true, forall_const, false_implies, forall_false, true_implies, and_self, Nat.zero_lt_one, Nat.add_zero, Nat.zero_add, Int32.reduceLT, Int32.reduceLE, Int32.reduceAdd, Int32.reduceSub, Int32.reduceMul, e10, e01, ite_self, ab_mx, ab_mi, ab_mb, ab_ml2, uX8_lay, rX8_lay_0, rX8_lay_1, rX8_lay_4, rX8_lay_5, rX8_lay_6, rX8_lay_9, rX8_lay_10, rX8_lay_11, rX8_lay_12, rX8_lay_13, rX8_lay_16, rX8_lay_17, rX8_lay_18, rX8_lay_19, rX8_lay_20, rX8_lay_23, rX8_lay_24, rX8_lay_25, rX8_lay_26, rX8_lay_27, v1, v2, eM]
  exact K
def haS (s k _ j : Nat) : Bool := Nat.beq k 46 && (Nat.ble (8 * s) j && Nat.ble (j + 1) (8 * s + 8))
theorem ha_4 {s i j : Nat} (h : j < 8) : haS s 46 i (8 * s + j) = true := by
  have a : Nat.ble (8 * s) (8 * s + j) = true := Nat.ble_eq_true_of_le (by omega)
  have b : Nat.ble (8 * s + j + 1) (8 * s + 8) = true := Nat.ble_eq_true_of_le (by omega)
  unfold haS
  rw [a, b]
  rfl
theorem ha_w {s : Nat} : ∀ k i j, haS s k i j = true → ck_wr 0 k j = true := fun k i j h => by
  have h := ((Bool.and_eq_true _ _).mp h).1
  rw [Nat.eq_of_beq_eq_true h]; rfl
set_option maxRecDepth 100000 in
theorem sX8_takeLowsF {σ : ab_S} {P : ab_P} {x1 x2 : Int32} {n : Nat} (hR : rg_R σ) (l1 : 0 ≤ x1.toInt) (m1 : x1.toInt ≤ 1) (l2 : 0 ≤ x2.toInt) (m2 : x2.toInt ≤ 3) (hn : (σ.1 41 0 x2.toNatClampNeg).toInt = n) (n8 : n ≤ 8) (hP : ∀ σ', fr (haS x1.toNatClampNeg) σ σ' → (∀ j, j < n → σ'.1 46 0 (8 * x1.toNatClampNeg + j) = σ.1 42 0 (8 * x2.toNatClampNeg + j)) → P none σ') : ab_sp mX8_takeLows cX8_takeLows [.inr (some (40, 0)), .inl (.inl x1), .inl (.inl x2)] σ P := by
  have v2 : vp_in x2 4 := vp_of l2 (by omega)
  have many : ∀ c, fr (haS x1.toNatClampNeg) σ c → c.1 41 0 x2.toNatClampNeg = σ.1 41 0 x2.toNatClampNeg := fun c h => (h.2 41 0 _ rfl).1
  obtain ⟨M, eM⟩ : ∃ M, σ.1 41 0 x2.toNatClampNeg = M := ⟨_, rfl⟩
  have many : ∀ c, fr (haS x1.toNatClampNeg) σ c → c.1 41 0 x2.toNatClampNeg = M := fun c h => (many c h).trans eM
  rw [eM] at hn
  have key : ∀ (r F : Nat) (f : Int32) (c : ab_S), F + r = n → f.toInt = F → fr (haS x1.toNatClampNeg) σ c → (∀ j, j < F → c.1 46 0 (8 * x1.toNatClampNeg + j) = σ.1 42 0 (8 * x2.toNatClampNeg + j)) → ab_wp mX8_takeLows cX8_takeLows none P 2 [some (.inr (some (40, 0))), some (.inl (.inl x1)), some (.inl (.inl x2)), some (.inl (.inl f))] [] c := by
    intro r
    induction r with
    | zero =>
      intro F f c er fn hc h46
      have em := many c hc
      have c2 : M ≤ f := Int32.le_iff_toInt_le.mpr (by omega)
      have Q := hP c hc (fun j hj => h46 j (by omega))
      rw [rX8_takeLows_2]
      simp only [ab_loc, ab_cat, ab_kil, ab_al, ab_ln, ab_lnp, ab_rf, sh_0, sh_1, sh_2, sh_3, sh_4, sh_5, sh_6, sh_7, sh_8, sh_9, sh_10, sh_11, sh_12, sh_13, sh_14, sh_20, sh_21, sh_22, sh_23, sh_24, sh_25, sh_30, sh_31, sh_32, sh_40, sh_41, sh_42, sh_43, sh_44, sh_45, sh_46, sh_47, sh_48, sh_49, sh_50, sh_51, sh_52, sh_53, sh_54, sh_55, sh_56, sh_57, sh_58, sh_59, sh_60, ct_0, ct_1, ct_2, ct_3, ct_4, ct_5, ct_6, ct_7, ct_8, ct_9, ct_10, ct_11, ct_12, ct_13, ct_14, ct_20, ct_21, ct_22, ct_23, ct_24, ct_25, ct_30, ct_31, ct_32, ct_40, ct_41, ct_42, ct_43, ct_44, ct_45, ct_46, ct_47, ct_48, ct_49, ct_50, ct_51, ct_52, ct_53, ct_54, ct_55, ct_56, ct_57, ct_58, ct_59, ct_60, ki_m1, ki_0, ki_1, ki_2, ki_3, ki_4, ki_5, kb_m2, kb_m3, kb_m4, kb_m8, kb_m9, kb_10, kb_100, kb_16, kb_36, kb_6, kb_63, kb_8, kb_9, kb_99, ks_216, ks_2520, ks_256, ks_800, kl_0, kl_1, ↓reduceIte, reduceCtorEq, Nat.reduceAdd, Nat.reduceLT, Nat.reduceLeDiff, Nat.reduceEqDiff, List.map_cons, List.map_nil, List.sum_cons, List.sum_nil, List.cons_append, List.nil_append, Option.toList_some, Option.toList_none, true_and, and_true, true_or, or_true, not_true_eq_false, not_false_eq_true, Nat.lt_add_one, Nat.zero_le, eq_self, or_false, false_or, implies_true, forall_const, false_implies, forall_false, true_implies, and_self, Nat.zero_lt_one, Nat.add_zero, Nat.zero_add, Int32.reduceLT, Int32.reduceLE, Int32.reduceAdd, Int32.reduceSub, Int32.reduceMul, e10, e01, ite_self, ab_mx, ab_mi, ab_mb, ab_ml2, rX8_takeLows_3, rX8_takeLows_4, rX8_takeLows_7, rX8_takeLows_8, rX8_takeLows_9, rX8_takeLows_40, v2, em, c2]
      exact Q
    | succ r ih =>
      intro F f c er fn hc h46
      have em := many c hc
      have c2 : ¬ M ≤ f := fun q => by have q := le32 q; omega
      have ef : (f + 1).toInt = (F + 1 : Nat) := by rw [i32_p1 (by omega)]; omega
      have er' : F + 1 + r = n := by omega
      have f7 : F < 8 := by omega
      have e42 : ∀ j, c.1 42 0 j = σ.1 42 0 j := fun j => (hc.2 42 0 j rfl).1
      have T := ha_4 (s := x1.toNatClampNeg) (i := 0) f7
      have rn : (0 : Int) ≤ (σ.1 42 0 (8 * x2.toNatClampNeg + F)).toInt ∧ (σ.1 42 0 (8 * x2.toNatClampNeg + F)).toInt ≤ 99 := hR 42 0 _
      have Q := ih (F + 1) (f + 1) (ab_si c 46 0 (8 * x1.toNatClampNeg + F) (σ.1 42 0 (8 * x2.toNatClampNeg + F))) er' ef (hc.si 46 0 _ T (show (0 : Int) ≤ _ from rn.1) (show _ ≤ (99 : Int) from rn.2)) (fun j hj => by
        by_cases e : j = F
        · rw [e, sn_ie]
        · rw [sn_ij (by omega)]; exact h46 j (by omega))
      obtain ⟨va, na⟩ := ix8q l1 m1 fn f7
      obtain ⟨vb, nb⟩ := ix8r l2 m2 fn f7
      rw [rX8_takeLows_2]
      simp only [ab_loc, ab_cat, ab_kil, ab_al, ab_ln, ab_lnp, ab_rf, sh_0, sh_1, sh_2, sh_3, sh_4, sh_5, sh_6, sh_7, sh_8, sh_9, sh_10, sh_11, sh_12, sh_13, sh_14, sh_20, sh_21, sh_22, sh_23, sh_24, sh_25, sh_30, sh_31, sh_32, sh_40, sh_41, sh_42, sh_43, sh_44, sh_45, sh_46, sh_47, sh_48, sh_49, sh_50, sh_51, sh_52, sh_53, sh_54, sh_55, sh_56, sh_57, sh_58, sh_59, sh_60, ct_0, ct_1, ct_2, ct_3, ct_4, ct_5, ct_6, ct_7, ct_8, ct_9, ct_10, ct_11, ct_12, ct_13, ct_14, ct_20, ct_21, ct_22, ct_23, ct_24, ct_25, ct_30, ct_31, ct_32, ct_40, ct_41, ct_42, ct_43, ct_44, ct_45, ct_46, ct_47, ct_48, ct_49, ct_50, ct_51, ct_52, ct_53, ct_54, ct_55, ct_56, ct_57, ct_58, ct_59, ct_60, ki_m1, ki_0, ki_1, ki_2, ki_3, ki_4, ki_5, kb_m2, kb_m3, kb_m4, kb_m8, kb_m9, kb_10, kb_100, kb_16, kb_36, kb_6, kb_63, kb_8, kb_9, kb_99, ks_216, ks_2520, ks_256, ks_800, kl_0, kl_1, ↓reduceIte, reduceCtorEq, Nat.reduceAdd, Nat.reduceLT, Nat.reduceLeDiff, Nat.reduceEqDiff, List.map_cons, List.map_nil, List.sum_cons, List.sum_nil, List.cons_append, List.nil_append, Option.toList_some, Option.toList_none, true_and, and_true, true_or, or_true, not_true_eq_false, not_false_eq_true, Nat.lt_add_one, Nat.zero_le, eq_self, or_false, false_or, implies_true, forall_const, false_implies, forall_false, true_implies, and_self, Nat.zero_lt_one, Nat.add_zero, Nat.zero_add, Int32.reduceLT, Int32.reduceLE, Int32.reduceAdd, Int32.reduceSub, Int32.reduceMul, e10, e01, ite_self, ab_mx, ab_mi, ab_mb, ab_ml2, rX8_takeLows_3, rX8_takeLows_4, rX8_takeLows_7, rX8_takeLows_8, rX8_takeLows_9, rX8_takeLows_12, rX8_takeLows_13, rX8_takeLows_16, rX8_takeLows_18, rX8_takeLows_19, rX8_takeLows_20, rX8_takeLows_21, rX8_takeLows_22, rX8_takeLows_23, rX8_takeLows_26, rX8_takeLows_28, rX8_takeLows_29, rX8_takeLows_30, rX8_takeLows_31, rX8_takeLows_32, rX8_takeLows_33, rX8_takeLows_34, rX8_takeLows_37, v2, em, c2, va, vb, na, nb, e42]
      exact Q
  have K := key n 0 0 σ (by omega) rfl (fr.rf hR) (fun j hj => absurd hj (Nat.not_lt_zero j))
  simp only [ab_loc, ab_cat, ab_kil, ab_al, ab_ln, ab_lnp, ab_rf, sh_0, sh_1, sh_2, sh_3, sh_4, sh_5, sh_6, sh_7, sh_8, sh_9, sh_10, sh_11, sh_12, sh_13, sh_14, sh_20, sh_21, sh_22, sh_23, sh_24, sh_25, sh_30, sh_31, sh_32, sh_40, sh_41, sh_42, sh_43, sh_44, sh_45, sh_46, sh_47, sh_48, sh_49, sh_50, sh_51, sh_52, sh_53, sh_54, sh_55, sh_56, sh_57, sh_58, sh_59, sh_60, ct_0, ct_1, ct_2, ct_3, ct_4, ct_5, ct_6, ct_7, ct_8, ct_9, ct_10, ct_11, ct_12, ct_13, ct_14, ct_20, ct_21, ct_22, ct_23, ct_24, ct_25, ct_30, ct_31, ct_32, ct_40, ct_41, ct_42, ct_43, ct_44, ct_45, ct_46, ct_47, ct_48, ct_49, ct_50, ct_51, ct_52, ct_53, ct_54, ct_55, ct_56, ct_57, ct_58, ct_59, ct_60, ki_m1, ki_0, ki_1, ki_2, ki_3, ki_4, ki_5, kb_m2, kb_m3, kb_m4, kb_m8, kb_m9, kb_10, kb_100, kb_16, kb_36, kb_6, kb_63, kb_8, kb_9, kb_99, ks_216, ks_2520, ks_256, ks_800, kl_0, kl_1, ↓reduceIte, reduceCtorEq, Nat.reduceAdd, Nat.reduceLT, Nat.reduceLeDiff, Nat.reduceEqDiff, List.map_cons, List.map_nil, List.sum_cons, List.sum_nil, List.cons_append, List.nil_append, Option.toList_some, Option.toList_none, true_and, and_true, true_or, or_true, not_true_eq_false, not_false_eq_true, Nat.lt_add_one, Nat.zero_le, eq_self, or_false, false_or, implies_true, forall_const, false_implies, forall_false, true_implies, and_self, Nat.zero_lt_one, Nat.add_zero, Nat.zero_add, Int32.reduceLT, Int32.reduceLE, Int32.reduceAdd, Int32.reduceSub, Int32.reduceMul, e10, e01, ite_self, ab_mx, ab_mi, ab_mb, ab_ml2, uX8_takeLows, rX8_takeLows_0, rX8_takeLows_1]
  exact K
