/-! fillings: the n-th filling of a town -/
def flL (w : Nat → Int) (c : Int) (f : Nat) : Int := match f with
  | 0 => c
  | f + 1 => flL w c f / w f
def flD (lo w : Nat → Int) (c : Int) (f : Nat) : Int := lo f + flL w c f % w f
theorem flL_s {w : Nat → Int} {c : Int} {f : Nat} : flL w c (f + 1) = flL w c f / w f := rfl
theorem flL_0 {w : Nat → Int} : ∀ {f : Nat}, flL w 0 f = 0
  | 0 => rfl
  | f + 1 => by rw [flL_s, flL_0, Int.zero_ediv]
theorem flD_0 {lo w : Nat → Int} {f : Nat} : flD lo w 0 f = lo f := by
  unfold flD
  rw [flL_0, Int.zero_emod, Int.add_zero]
theorem flL_n {w : Nat → Int} {c : Int} (hc : 0 ≤ c) : ∀ {f : Nat}, (∀ j, j < f → 1 ≤ w j) → 0 ≤ flL w c f
  | 0, _ => hc
  | f + 1, h => by
    have := h f (by omega)
    exact Int.ediv_nonneg (flL_n hc (fun j hj => h j (by omega))) (by omega)
theorem flL_t {w : Nat → Int} {a b : Int} {f : Nat} (h : flL w a f = flL w b f) : ∀ {r : Nat}, flL w a (f + r) = flL w b (f + r)
  | 0 => h
  | r + 1 => by
    show flL w a (f + r) / w (f + r) = flL w b (f + r) / w (f + r)
    rw [flL_t h]
theorem flD_b {lo w : Nat → Int} {c : Int} {f : Nat} (h : 1 ≤ w f) : lo f ≤ flD lo w c f ∧ flD lo w c f ≤ lo f + w f - 1 := by
  have a := Int.emod_nonneg (flL w c f) (show w f ≠ 0 by omega)
  have b := Int.emod_lt_of_pos (flL w c f) (show 0 < w f by omega)
  unfold flD
  omega
theorem em_s {L w : Int} (hw : 1 ≤ w) : (L % w = w - 1 → (L + 1) % w = 0 ∧ (L + 1) / w = L / w + 1) ∧ (L % w < w - 1 → (L + 1) % w = L % w + 1 ∧ (L + 1) / w = L / w) := by
  have k : (0 : Int) < w := by omega
  obtain ⟨e, r0, r1⟩ := (Int.ediv_emod_unique (a := L) (r := L % w) (q := L / w) k).mp ⟨rfl, rfl⟩
  refine ⟨fun h => ?_, fun h => ?_⟩
  · have q := (Int.ediv_emod_unique (a := L + 1) (r := 0) (q := L / w + 1) k).mpr ⟨by rw [Int.mul_add, Int.mul_one]; omega, by omega, by omega⟩
    exact ⟨q.2, q.1⟩
  · have q := (Int.ediv_emod_unique (a := L + 1) (r := L % w + 1) (q := L / w) k).mpr ⟨by omega, by omega, by omega⟩
    exact ⟨q.2, q.1⟩
/-- what a town's families may have -/
def loW (lo w : Nat → Int) (n : Nat) : Prop := ∀ j, j < n → 0 ≤ lo j ∧ 1 ≤ w j ∧ lo j + w j ≤ 100
theorem flD_g {lo w : Nat → Int} {c : Int} {n : Nat} (h : loW lo w n) : ∀ j, j < n → 0 ≤ flD lo w c j ∧ flD lo w c j ≤ 99 := fun j hj => by
  have a := h j hj
  have b := flD_b (lo := lo) (c := c) a.2.1
  omega
set_option maxRecDepth 100000 in
set_option maxHeartbeats 1000000 in
theorem sX5_nextFillingF {σ : ab_S} {P : ab_P} {t n : Nat} {lo w : Nat → Int} {c : Int} (ht : t < 4) (hR : rg_R σ) (hn : (σ.1 20 t 0).toInt = n) (n8 : n ≤ 8) (hl : ∀ j, j < n → (σ.1 21 t j).toInt = lo j) (hh : ∀ j, j < n → (σ.1 22 t j).toInt = lo j + w j - 1) (hw : loW lo w n) (hg : ∀ j, j < n → (σ.1 25 t j).toInt = flD lo w c j) (hP : ∀ σ', fr (fiS t) σ σ' → (∀ j, j < n → (σ'.1 25 t j).toInt = flD lo w (c + 1) j) → P none σ') : ab_sp mX5_nextFilling cX5_nextFilling [.inr (some (20, t))] σ P := by
  have key : ∀ (r F : Nat) (f : Int32) (d : ab_S), F + r = n → f.toInt = F → fr (fiS t) σ d → flL w (c + 1) F = flL w c F + 1 → (∀ j, j < F → (d.1 25 t j).toInt = flD lo w (c + 1) j) → (∀ j, F ≤ j → j < n → (d.1 25 t j).toInt = flD lo w c j) → ab_wp mX5_nextFilling cX5_nextFilling none P 2 [some (.inr (some (20, t))), some (.inl (.inl f))] [] d := by
    intro r
    induction r with
    | zero =>
      intro F f d er hf fd hL lo1 hi1
      have e20 : d.1 20 t 0 = σ.1 20 t 0 := (fd.2 20 t 0 rfl).1
      have q : σ.1 20 t 0 ≤ f := Int32.le_iff_toInt_le.mpr (by omega)
      have K := hP d fd (fun j hj => lo1 j (by omega))
      rw [rX5_nextFilling_2]
      simp only [ab_loc, ab_cat, ab_kil, ab_al, ab_ln, ab_lnp, ab_rf, sh_0, sh_1, sh_2, sh_3, sh_4, sh_5, sh_6, sh_7, sh_8, sh_9, sh_10, sh_11, sh_12, sh_13, sh_14, sh_20, sh_21, sh_22, sh_23, sh_24, sh_25, sh_30, sh_31, sh_32, sh_40, sh_41, sh_42, sh_43, sh_44, sh_45, sh_46, sh_47, sh_48, sh_49, sh_50, sh_51, sh_52, sh_53, sh_54, sh_55, sh_56, sh_57, sh_58, sh_59, sh_60, ct_0, ct_1, ct_2, ct_3, ct_4, ct_5, ct_6, ct_7, ct_8, ct_9, ct_10, ct_11, ct_12, ct_13, ct_14, ct_20, ct_21, ct_22, ct_23, ct_24, ct_25, ct_30, ct_31, ct_32, ct_40, ct_41, ct_42, ct_43, ct_44, ct_45, ct_46, ct_47, ct_48, ct_49, ct_50, ct_51, ct_52, ct_53, ct_54, ct_55, ct_56, ct_57, ct_58, ct_59, ct_60, ki_m1, ki_0, ki_1, ki_2, ki_3, ki_4, ki_5, kb_m2, kb_m3, kb_m4, kb_m8, kb_m9, kb_10, kb_100, kb_16, kb_36, kb_6, kb_63, kb_8, kb_9, kb_99, ks_216, ks_2520, ks_256, ks_800, kl_0, kl_1, ↓reduceIte, reduceCtorEq, Nat.reduceAdd, Nat.reduceLT, Nat.reduceLeDiff, Nat.reduceEqDiff, List.map_cons, List.map_nil, List.sum_cons, List.sum_nil, List.cons_append, List.nil_append, Option.toList_some, Option.toList_none, true_and, and_true, true_or, or_true, not_true_eq_false, not_false_eq_true, Nat.lt_add_one, Nat.zero_le, eq_self, or_false, false_or, implies_true, forall_const, false_implies, forall_false, true_implies, and_self, Nat.zero_lt_one, Nat.add_zero, Nat.zero_add, Int32.reduceLT, Int32.reduceLE, Int32.reduceAdd, Int32.reduceSub, Int32.reduceMul, e10, e01, ite_self, ab_mx, ab_mi, ab_mb, ab_ml2, rX5_nextFilling_3, rX5_nextFilling_4, rX5_nextFilling_7, rX5_nextFilling_54, ht, e20, q]
      exact K
    | succ r ih =>
      intro F f d er hf fd hL lo1 hi1
      have e20 : d.1 20 t 0 = σ.1 20 t 0 := (fd.2 20 t 0 rfl).1
      have q : ¬ σ.1 20 t 0 ≤ f := fun q => by have q := le32 q; omega
      have vf : vp_in f 8 := vp_of (by omega) (by omega)
      have nf : f.toNatClampNeg = F := by show f.toInt.toNat = F; omega
      have ef : (f + 1).toInt = (F + 1 : Nat) := by rw [i32_p1 (by omega)]; omega
      have W := hw F (by omega)
      have g := hi1 F (Nat.le_refl F) (by omega)
      have gb := flD_b (lo := lo) (c := c) W.2.1
      have e22 : d.1 22 t F = σ.1 22 t F := (fd.2 22 t F rfl).1
      have e21 : d.1 21 t F = σ.1 21 t F := (fd.2 21 t F rfl).1
      have h22 := hh F (by omega)
      have h21 := hl F (by omega)
      have S := em_s (L := flL w c F) W.2.1
      have g' : (d.1 25 t F).toInt = lo F + flL w c F % w F := g
      by_cases a : flL w c F % w F < w F - 1
      · have b : ¬ σ.1 22 t F ≤ d.1 25 t F := fun z => by have z := le32 z; omega
        have s := S.2 a
        have e1 : (d.1 25 t F + 1).toInt = flD lo w (c + 1) F := by
          unfold flD at g gb ⊢
          rw [i32_p1 (by omega), g, hL, s.1]
          omega
        have tl : flL w (c + 1) (F + 1) = flL w c (F + 1) := by rw [flL_s, flL_s, hL, s.2]
        have K := hP (ab_si d 25 t F (d.1 25 t F + 1)) (fd.si 25 t F fi_t (i32_lo _) (i32_hi _)) (fun j hj => by
          by_cases e : j = F
          · rw [e, sn_ie]; exact e1
          · rw [sn_ij e]
            by_cases l : j < F
            · exact lo1 j l
            · have z := hi1 j (by omega) hj
              rw [z]
              unfold flD
              have y := flL_t tl (r := j - (F + 1))
              rw [show F + 1 + (j - (F + 1)) = j by omega] at y
              rw [y])
        rw [rX5_nextFilling_2]
        simp only [ab_loc, ab_cat, ab_kil, ab_al, ab_ln, ab_lnp, ab_rf, sh_0, sh_1, sh_2, sh_3, sh_4, sh_5, sh_6, sh_7, sh_8, sh_9, sh_10, sh_11, sh_12, sh_13, sh_14, sh_20, sh_21, sh_22, sh_23, sh_24, sh_25, sh_30, sh_31, sh_32, sh_40, sh_41, sh_42, sh_43, sh_44, sh_45, sh_46, sh_47, sh_48, sh_49, sh_50, sh_51, sh_52, sh_53, sh_54, sh_55, sh_56, sh_57, sh_58, sh_59, sh_60, ct_0, ct_1, ct_2, ct_3, ct_4, ct_5, ct_6, ct_7, ct_8, ct_9, ct_10, ct_11, ct_12, ct_13, ct_14, ct_20, ct_21, ct_22, ct_23, ct_24, ct_25, ct_30, ct_31, ct_32, ct_40, ct_41, ct_42, ct_43, ct_44, ct_45, ct_46, ct_47, ct_48, ct_49, ct_50, ct_51, ct_52, ct_53, ct_54, ct_55, ct_56, ct_57, ct_58, ct_59, ct_60, ki_m1, ki_0, ki_1, ki_2, ki_3, ki_4, ki_5, kb_m2, kb_m3, kb_m4, kb_m8, kb_m9, kb_10, kb_100, kb_16, kb_36, kb_6, kb_63, kb_8, kb_9, kb_99, ks_216, ks_2520, ks_256, ks_800, kl_0, kl_1, ↓reduceIte, reduceCtorEq, Nat.reduceAdd, Nat.reduceLT, Nat.reduceLeDiff, Nat.reduceEqDiff, List.map_cons, List.map_nil, List.sum_cons, List.sum_nil, List.cons_append, List.nil_append, Option.toList_some, Option.toList_none, true_and, and_true, true_or, or_true, not_true_eq_false, not_false_eq_true, Nat.lt_add_one, Nat.zero_le, eq_self, or_false, false_or, implies_true, forall_const, false_implies, forall_false, true_implies, and_self, Nat.zero_lt_one, Nat.add_zero, Nat.zero_add, Int32.reduceLT, Int32.reduceLE, Int32.reduceAdd, Int32.reduceSub, Int32.reduceMul, e10, e01, ite_self, ab_mx, ab_mi, ab_mb, ab_ml2, rX5_nextFilling_3, rX5_nextFilling_4, rX5_nextFilling_7, rX5_nextFilling_10, rX5_nextFilling_11, rX5_nextFilling_14, rX5_nextFilling_15, rX5_nextFilling_16, rX5_nextFilling_17, rX5_nextFilling_20, rX5_nextFilling_21, rX5_nextFilling_22, rX5_nextFilling_25, rX5_nextFilling_26, rX5_nextFilling_29, rX5_nextFilling_30a, rX5_nextFilling_30l, rX5_nextFilling_31, rX5_nextFilling_32, rX5_nextFilling_33, rX5_nextFilling_34, rX5_nextFilling_35, ht, e20, q, vf, nf, e22, b]
        exact K
      · have r1 := Int.emod_lt_of_pos (flL w c F) (show 0 < w F by omega)
        have b : σ.1 22 t F ≤ d.1 25 t F := Int32.le_iff_toInt_le.mpr (by omega)
        have s := S.1 (by omega)
        have K := ih (F + 1) (f + 1) (ab_si d 25 t F (σ.1 21 t F)) (by omega) ef (fd.si 25 t F fi_t (i32_lo _) (i32_hi _)) (by rw [flL_s, flL_s, hL, s.2]) (fun j hj => by
          by_cases e : j = F
          · rw [e, sn_ie]
            unfold flD
            rw [hL, s.1, h21, Int.add_zero]
          · rw [sn_ij e]; exact lo1 j (by omega)) (fun j h1 h2 => by
          rw [sn_ij (by omega)]; exact hi1 j (by omega) h2)
        rw [rX5_nextFilling_2]
        simp only [ab_loc, ab_cat, ab_kil, ab_al, ab_ln, ab_lnp, ab_rf, sh_0, sh_1, sh_2, sh_3, sh_4, sh_5, sh_6, sh_7, sh_8, sh_9, sh_10, sh_11, sh_12, sh_13, sh_14, sh_20, sh_21, sh_22, sh_23, sh_24, sh_25, sh_30, sh_31, sh_32, sh_40, sh_41, sh_42, sh_43, sh_44, sh_45, sh_46, sh_47, sh_48, sh_49, sh_50, sh_51, sh_52, sh_53, sh_54, sh_55, sh_56, sh_57, sh_58, sh_59, sh_60, ct_0, ct_1, ct_2, ct_3, ct_4, ct_5, ct_6, ct_7, ct_8, ct_9, ct_10, ct_11, ct_12, ct_13, ct_14, ct_20, ct_21, ct_22, ct_23, ct_24, ct_25, ct_30, ct_31, ct_32, ct_40, ct_41, ct_42, ct_43, ct_44, ct_45, ct_46, ct_47, ct_48, ct_49, ct_50, ct_51, ct_52, ct_53, ct_54, ct_55, ct_56, ct_57, ct_58, ct_59, ct_60, ki_m1, ki_0, ki_1, ki_2, ki_3, ki_4, ki_5, kb_m2, kb_m3, kb_m4, kb_m8, kb_m9, kb_10, kb_100, kb_16, kb_36, kb_6, kb_63, kb_8, kb_9, kb_99, ks_216, ks_2520, ks_256, ks_800, kl_0, kl_1, ↓reduceIte, reduceCtorEq, Nat.reduceAdd, Nat.reduceLT, Nat.reduceLeDiff, Nat.reduceEqDiff, List.map_cons, List.map_nil, List.sum_cons, List.sum_nil, List.cons_append, List.nil_append, Option.toList_some, Option.toList_none, true_and, and_true, true_or, or_true, not_true_eq_false, not_false_eq_true, Nat.lt_add_one, Nat.zero_le, eq_self, or_false, false_or, implies_true, forall_const, false_implies, forall_false, true_implies, and_self, Nat.zero_lt_one, Nat.add_zero, Nat.zero_add, Int32.reduceLT, Int32.reduceLE, Int32.reduceAdd, Int32.reduceSub, Int32.reduceMul, e10, e01, ite_self, ab_mx, ab_mi, ab_mb, ab_ml2, rX5_nextFilling_3, rX5_nextFilling_4, rX5_nextFilling_7, rX5_nextFilling_10, rX5_nextFilling_11, rX5_nextFilling_14, rX5_nextFilling_15, rX5_nextFilling_16, rX5_nextFilling_17, rX5_nextFilling_20, rX5_nextFilling_21, rX5_nextFilling_22, rX5_nextFilling_36, rX5_nextFilling_37, rX5_nextFilling_40, rX5_nextFilling_41, rX5_nextFilling_42, rX5_nextFilling_45, rX5_nextFilling_46, rX5_nextFilling_47, rX5_nextFilling_48, rX5_nextFilling_51, ht, e20, q, vf, nf, e22, e21, b]
        exact K
  have K := key n 0 0 σ (by omega) rfl (fr.rf hR) rfl (fun j hj => absurd hj (Nat.not_lt_zero j)) (fun j _ hj => hg j hj)
  simp only [ab_loc, ab_cat, ab_kil, ab_al, ab_ln, ab_lnp, ab_rf, sh_0, sh_1, sh_2, sh_3, sh_4, sh_5, sh_6, sh_7, sh_8, sh_9, sh_10, sh_11, sh_12, sh_13, sh_14, sh_20, sh_21, sh_22, sh_23, sh_24, sh_25, sh_30, sh_31, sh_32, sh_40, sh_41, sh_42, sh_43, sh_44, sh_45, sh_46, sh_47, sh_48, sh_49, sh_50, sh_51, sh_52, sh_53, sh_54, sh_55, sh_56, sh_57, sh_58, sh_59, sh_60, ct_0, ct_1, ct_2, ct_3, ct_4, ct_5, ct_6, ct_7, ct_8, ct_9, ct_10, ct_11, ct_12, ct_13, ct_14, ct_20, ct_21, ct_22, ct_23, ct_24, ct_25, ct_30, ct_31, ct_32, ct_40, ct_41, ct_42, ct_43, ct_44, ct_45, ct_46, ct_47, ct_48, ct_49, ct_50, ct_51, ct_52, ct_53, ct_54, ct_55, ct_56, ct_57, ct_58, ct_59, ct_60, ki_m1, ki_0, ki_1, ki_2, ki_3, ki_4, ki_5, kb_m2, kb_m3, kb_m4, kb_m8, kb_m9, kb_10, kb_100, kb_16, kb_36, kb_6, kb_63, kb_8, kb_9, kb_99, ks_216, ks_2520, ks_256, ks_800, kl_0, kl_1, ↓reduceIte, reduceCtorEq, Nat.reduceAdd, Nat.reduceLT, Nat.reduceLeDiff, Nat.reduceEqDiff, List.map_cons, List.map_nil, List.sum_cons, List.sum_nil, List.cons_append, List.nil_append, Option.toList_some, Option.toList_none, true_and, and_true, true_or, or_true, not_true_eq_false, not_false_eq_true, Nat.lt_add_one, Nat.zero_le, eq_self, or_false, false_or, implies_true, forall_const, false_implies, forall_false, true_implies, and_self, Nat.zero_lt_one, Nat.add_zero, Nat.zero_add, Int32.reduceLT, Int32.reduceLE, Int32.reduceAdd, Int32.reduceSub, Int32.reduceMul, e10, e01, ite_self, ab_mx, ab_mi, ab_mb, ab_ml2, uX5_nextFilling, rX5_nextFilling_0, rX5_nextFilling_1]
  exact K
set_option maxRecDepth 100000 in
set_option maxHeartbeats 1000000 in
theorem sX8_fillF {σ : ab_S} {P : ab_P} {x1 x2 x3 : Int32} {n : Nat} {lo w : Nat → Int} (hR : rg_R σ) (l1 : 0 ≤ x1.toInt) (m1 : x1.toInt ≤ 1) (l2 : 0 ≤ x2.toInt) (m2 : x2.toInt ≤ 3) (c0 : 0 ≤ x3.toInt) (hn : (σ.1 41 0 x2.toNatClampNeg).toInt = n) (n8 : n ≤ 8) (hl : ∀ j, j < n → (σ.1 42 0 (8 * x2.toNatClampNeg + j)).toInt = lo j) (hh : ∀ j, j < n → (σ.1 43 0 (8 * x2.toNatClampNeg + j)).toInt = lo j + w j - 1) (hw : loW lo w n) (hP : ∀ σ', fr (haS x1.toNatClampNeg) σ σ' → (∀ j, j < n → (σ'.1 46 0 (8 * x1.toNatClampNeg + j)).toInt = flD lo w x3.toInt j) → P none σ') : ab_sp mX8_fill cX8_fill [.inr (some (40, 0)), .inl (.inl x1), .inl (.inl x2), .inl (.inl x3)] σ P := by
  have v2 : vp_in x2 4 := vp_of l2 (by omega)
  obtain ⟨M, eM⟩ : ∃ M, σ.1 41 0 x2.toNatClampNeg = M := ⟨_, rfl⟩
  have many : ∀ c, fr (haS x1.toNatClampNeg) σ c → c.1 41 0 x2.toNatClampNeg = M := fun c h => ((h.2 41 0 _ rfl).1).trans eM
  rw [eM] at hn
  have key : ∀ (r F : Nat) (f l : Int32) (d : ab_S) (l6 : Option ab_V), F + r = n → f.toInt = F → l.toInt = flL w x3.toInt F → fr (haS x1.toNatClampNeg) σ d → (∀ j, j < F → (d.1 46 0 (8 * x1.toNatClampNeg + j)).toInt = flD lo w x3.toInt j) → ab_wp mX8_fill cX8_fill none P 6 [some (.inr (some (40, 0))), some (.inl (.inl x1)), some (.inl (.inl x2)), some (.inl (.inl x3)), some (.inl (.inl l)), some (.inl (.inl f)), l6] [] d := by
    intro r
    induction r with
    | zero =>
      intro F f l d l6 er hf hl' fd h46
      have em := many d fd
      have c2 : M ≤ f := Int32.le_iff_toInt_le.mpr (by omega)
      have K := hP d fd (fun j hj => h46 j (by omega))
      rw [rX8_fill_6]
      simp only [ab_loc, ab_cat, ab_kil, ab_al, ab_ln, ab_lnp, ab_rf, sh_0, sh_1, sh_2, sh_3, sh_4, sh_5, sh_6, sh_7, sh_8, sh_9, sh_10, sh_11, sh_12, sh_13, sh_14, sh_20, sh_21, sh_22, sh_23, sh_24, sh_25, sh_30, sh_31, sh_32, sh_40, sh_41, sh_42, sh_43, sh_44, sh_45, sh_46, sh_47, sh_48, sh_49, sh_50, sh_51, sh_52, sh_53, sh_54, sh_55, sh_56, sh_57, sh_58, sh_59, sh_60, ct_0, ct_1, ct_2, ct_3, ct_4, ct_5, ct_6, ct_7, ct_8, ct_9, ct_10, ct_11, ct_12, ct_13, ct_14, ct_20, ct_21, ct_22, ct_23, ct_24, ct_25, ct_30, ct_31, ct_32, ct_40, ct_41, ct_42, ct_43, ct_44, ct_45, ct_46, ct_47, ct_48, ct_49, ct_50, ct_51, ct_52, ct_53, ct_54, ct_55, ct_56, ct_57, ct_58, ct_59, ct_60, ki_m1, ki_0, ki_1, ki_2, ki_3, ki_4, ki_5, kb_m2, kb_m3, kb_m4, kb_m8, kb_m9, kb_10, kb_100, kb_16, kb_36, kb_6, kb_63, kb_8, kb_9, kb_99, ks_216, ks_2520, ks_256, ks_800, kl_0, kl_1, ↓reduceIte, reduceCtorEq, Nat.reduceAdd, Nat.reduceLT, Nat.reduceLeDiff, Nat.reduceEqDiff, List.map_cons, List.map_nil, List.sum_cons, List.sum_nil, List.cons_append, List.nil_append, Option.toList_some, Option.toList_none, true_and, and_true, true_or, or_true, not_true_eq_false, not_false_eq_true, Nat.lt_add_one, Nat.zero_le, eq_self, or_false, false_or, implies_true, forall_const, false_implies, forall_false, true_implies, and_self, Nat.zero_lt_one, Nat.add_zero, Nat.zero_add, Int32.reduceLT, Int32.reduceLE, Int32.reduceAdd, Int32.reduceSub, Int32.reduceMul, e10, e01, ite_self, ab_mx, ab_mi, ab_mb, ab_ml2, rX8_fill_8, rX8_fill_9, rX8_fill_12, rX8_fill_13, rX8_fill_14, rX8_fill_89, v2, em, c2]
      exact K
    | succ r ih =>
      intro F f l d l6 er hf hl' fd h46
      have em := many d fd
      have c2 : ¬ M ≤ f := fun q => by have q := le32 q; omega
      have ef : (f + 1).toInt = (F + 1 : Nat) := by rw [i32_p1 (by omega)]; omega
      have f7 : F < 8 := by omega
      have W := hw F (by omega)
      have g0 : 0 ≤ l.toInt := by rw [hl']; exact flL_n c0 (fun j hj => (hw j (by omega)).2.1)
      have h42 : (d.1 42 0 (8 * x2.toNatClampNeg + F)).toInt = lo F := by rw [(fd.2 42 0 _ rfl).1]; exact hl F (by omega)
      have h43 : (d.1 43 0 (8 * x2.toNatClampNeg + F)).toInt = lo F + w F - 1 := by rw [(fd.2 43 0 _ rfl).1]; exact hh F (by omega)
      obtain ⟨a, ha⟩ : ∃ a, d.1 42 0 (8 * x2.toNatClampNeg + F) = a := ⟨_, rfl⟩
      obtain ⟨b, hb⟩ : ∃ b, d.1 43 0 (8 * x2.toNatClampNeg + F) = b := ⟨_, rfl⟩
      rw [ha] at h42
      rw [hb] at h43
      have V := fl_v (l := l) (a := a) (b := b) g0 (by omega) (by omega) (by omega)
      have e1 : (b - a).toInt = w F - 1 := by rw [i32_sub (by omega) (by omega)]; omega
      have ew : (b - a + 1).toInt = w F := by rw [i32_p1 (by omega), e1]; omega
      have ed : (l / (b - a + 1)).toInt = flL w x3.toInt (F + 1) := by rw [i32_div g0 (by omega), ew, hl']; rfl
      have er' : (l - l / (b - a + 1) * (b - a + 1)).toInt = flL w x3.toInt F % w F := by rw [i32_rem g0 (by omega), ew, hl']
      have gb := flD_b (lo := lo) (c := x3.toInt) W.2.1
      have ev : (a + (l - l / (b - a + 1) * (b - a + 1))).toInt = flD lo w x3.toInt F := by
        unfold flD at gb ⊢
        rw [i32_add (by rw [er']; omega) (by rw [er']; omega), er', h42]
      have T := ha_4 (s := x1.toNatClampNeg) (i := 0) f7
      have K := ih (F + 1) (f + 1) (l / (b - a + 1)) (ab_si d 46 0 (8 * x1.toNatClampNeg + F) (a + (l - l / (b - a + 1) * (b - a + 1)))) (some (.inl (.inl (b - a + 1)))) (by omega) ef ed (fd.si 46 0 _ T (show (0 : Int) ≤ _ from V.2.2.1) (show _ ≤ (99 : Int) from V.2.2.2)) (fun j hj => by
        by_cases e : j = F
        · rw [e, sn_ie]; exact ev
        · rw [sn_ij (by omega)]; exact h46 j (by omega))
      obtain ⟨va, na⟩ := ix8q l1 m1 hf f7
      obtain ⟨vb, nb⟩ := ix8r l2 m2 hf f7
      rw [rX8_fill_6]
      simp only [ab_loc, ab_cat, ab_kil, ab_al, ab_ln, ab_lnp, ab_rf, sh_0, sh_1, sh_2, sh_3, sh_4, sh_5, sh_6, sh_7, sh_8, sh_9, sh_10, sh_11, sh_12, sh_13, sh_14, sh_20, sh_21, sh_22, sh_23, sh_24, sh_25, sh_30, sh_31, sh_32, sh_40, sh_41, sh_42, sh_43, sh_44, sh_45, sh_46, sh_47, sh_48, sh_49, sh_50, sh_51, sh_52, sh_53, sh_54, sh_55, sh_56, sh_57, sh_58, sh_59, sh_60, ct_0, ct_1, ct_2, ct_3, ct_4, ct_5, ct_6, ct_7, ct_8, ct_9, ct_10, ct_11, ct_12, ct_13, ct_14, ct_20, ct_21, ct_22, ct_23, ct_24, ct_25, ct_30, ct_31, ct_32, ct_40, ct_41, ct_42, ct_43, ct_44, ct_45, ct_46, ct_47, ct_48, ct_49, ct_50, ct_51, ct_52, ct_53, ct_54, ct_55, ct_56, ct_57, ct_58, ct_59, ct_60, ki_m1, ki_0, ki_1, ki_2, ki_3, ki_4, ki_5, kb_m2, kb_m3, kb_m4, kb_m8, kb_m9, kb_10, kb_100, kb_16, kb_36, kb_6, kb_63, kb_8, kb_9, kb_99, ks_216, ks_2520, ks_256, ks_800, kl_0, kl_1, ↓reduceIte, reduceCtorEq, Nat.reduceAdd, Nat.reduceLT, Nat.reduceLeDiff, Nat.reduceEqDiff, List.map_cons, List.map_nil, List.sum_cons, List.sum_nil, List.cons_append, List.nil_append, Option.toList_some, Option.toList_none, true_and, and_true, true_or, or_true, not_true_eq_false, not_false_eq_true, Nat.lt_add_one, Nat.zero_le, eq_self, or_false, false_or, implies_true, forall_const, false_implies, forall_false, true_implies, and_self, Nat.zero_lt_one, Nat.add_zero, Nat.zero_add, Int32.reduceLT, Int32.reduceLE, Int32.reduceAdd, Int32.reduceSub, Int32.reduceMul, e10, e01, ite_self, ab_mx, ab_mi, ab_mb, ab_ml2, rX8_fill_8, rX8_fill_9, rX8_fill_12, rX8_fill_13, rX8_fill_14, rX8_fill_17, rX8_fill_18, rX8_fill_21, rX8_fill_23, rX8_fill_24, rX8_fill_25, rX8_fill_27, rX8_fill_28, rX8_fill_29, rX8_fill_30, rX8_fill_33, rX8_fill_35, rX8_fill_36, rX8_fill_37, rX8_fill_39, rX8_fill_40, rX8_fill_41, rX8_fill_42, rX8_fill_43, rX8_fill_44, rX8_fill_46, rX8_fill_47, rX8_fill_50, rX8_fill_52, rX8_fill_53, rX8_fill_54, rX8_fill_56, rX8_fill_57, rX8_fill_58, rX8_fill_61, rX8_fill_63, rX8_fill_64, rX8_fill_65, rX8_fill_67, rX8_fill_68, rX8_fill_69, rX8_fill_71, rX8_fill_73, rX8_fill_74, rX8_fill_75, rX8_fill_76, rX8_fill_78, rX8_fill_80, rX8_fill_81, rX8_fill_83, rX8_fill_86, v2, va, vb, na, nb, em, c2, ha, hb, V.1]
      exact K
  have K := key n 0 0 x3 σ none (by omega) rfl rfl (fr.rf hR) (fun j hj => absurd hj (Nat.not_lt_zero j))
  simp only [ab_loc, ab_cat, ab_kil, ab_al, ab_ln, ab_lnp, ab_rf, sh_0, sh_1, sh_2, sh_3, sh_4, sh_5, sh_6, sh_7, sh_8, sh_9, sh_10, sh_11, sh_12, sh_13, sh_14, sh_20, sh_21, sh_22, sh_23, sh_24, sh_25, sh_30, sh_31, sh_32, sh_40, sh_41, sh_42, sh_43, sh_44, sh_45, sh_46, sh_47, sh_48, sh_49, sh_50, sh_51, sh_52, sh_53, sh_54, sh_55, sh_56, sh_57, sh_58, sh_59, sh_60, ct_0, ct_1, ct_2, ct_3, ct_4, ct_5, ct_6, ct_7, ct_8, ct_9, ct_10, ct_11, ct_12, ct_13, ct_14, ct_20, ct_21, ct_22, ct_23, ct_24, ct_25, ct_30, ct_31, ct_32, ct_40, ct_41, ct_42, ct_43, ct_44, ct_45, ct_46, ct_47, ct_48, ct_49, ct_50, ct_51, ct_52, ct_53, ct_54, ct_55, ct_56, ct_57, ct_58, ct_59, ct_60, ki_m1, ki_0, ki_1, ki_2, ki_3, ki_4, ki_5, kb_m2, kb_m3, kb_m4, kb_m8, kb_m9, kb_10, kb_100, kb_16, kb_36, kb_6, kb_63, kb_8, kb_9, kb_99, ks_216, ks_2520, ks_256, ks_800, kl_0, kl_1, ↓reduceIte, reduceCtorEq, Nat.reduceAdd, Nat.reduceLT, Nat.reduceLeDiff, Nat.reduceEqDiff, List.map_cons, List.map_nil, List.sum_cons, List.sum_nil, List.cons_append, List.nil_append, Option.toList_some, Option.toList_none, true_and, and_true, true_or, or_true, not_true_eq_false, not_false_eq_true, Nat.lt_add_one, Nat.zero_le, eq_self, or_false, false_or, implies_true, forall_const, false_implies, forall_false, true_implies, and_self, Nat.zero_lt_one, Nat.add_zero, Nat.zero_add, Int32.reduceLT, Int32.reduceLE, Int32.reduceAdd, Int32.reduceSub, Int32.reduceMul, e10, e01, ite_self, ab_mx, ab_mi, ab_mb, ab_ml2, uX8_fill, rX8_fill_0, rX8_fill_1, rX8_fill_3, rX8_fill_4]
  exact K
