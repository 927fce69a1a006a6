/-! curves: what the least have, the class -/
def fiS (t : Nat) (k i _ : Nat) : Bool := Nat.beq k 25 && Nat.beq i t
theorem fi_t {t j : Nat} : fiS t 25 t j = true := by
  have e : Nat.beq t t = true := Nat.beq_refl t
  unfold fiS
  rw [e]
  rfl
theorem fi_w {t : Nat} : ∀ k i j, fiS t k i j = true → ck_wr 0 k j = true := fun k i j h => by
  have h := ((Bool.and_eq_true _ _).mp h).1
  rw [Nat.eq_of_beq_eq_true h]; rfl
set_option maxRecDepth 100000 in
theorem sX5_startFillingsF {σ : ab_S} {P : ab_P} {t n : Nat} (ht : t < 4) (hR : rg_R σ) (hn : (σ.1 20 t 0).toInt = n) (n8 : n ≤ 8) (hP : ∀ σ', fr (fiS t) σ σ' → (∀ j, j < n → σ'.1 25 t j = σ.1 21 t j) → P none σ') : ab_sp mX5_startFillings cX5_startFillings [.inr (some (20, t))] σ P := by
  have key : ∀ (m : Nat) (f : Int32) (c : ab_S), (n : Int) - f.toInt = m → 0 ≤ f.toInt → fr (fiS t) σ c → (∀ j, j < f.toInt.toNat → c.1 25 t j = σ.1 21 t j) → ab_wp mX5_startFillings cX5_startFillings none P 2 [some (.inr (some (20, t))), some (.inl (.inl f))] [] c := by
    intro m
    induction m with
    | zero =>
      intro f c em f0 hc h25
      have e20 : c.1 20 t 0 = σ.1 20 t 0 := (hc.2 20 t 0 rfl).1
      have q : σ.1 20 t 0 ≤ f := Int32.le_iff_toInt_le.mpr (by omega)
      have F := hP c hc (fun j hj => h25 j (by omega))
      rw [rX5_startFillings_2]
      simp only [ab_loc, ab_cat, ab_kil, ab_al, ab_ln, ab_lnp, ab_rf, sh_0, sh_1, sh_2, sh_3, sh_4, sh_5, sh_6, sh_7, sh_8, sh_9, sh_10, sh_11, sh_12, sh_13, sh_14, sh_20, sh_21, sh_22, sh_23, sh_24, sh_25, sh_30, sh_31, sh_32, sh_40, sh_41, sh_42, sh_43, sh_44, sh_45, sh_46, sh_47, sh_48, sh_49, sh_50, sh_51, sh_52, sh_53, sh_54, sh_55, sh_56, sh_57, sh_58, sh_59, sh_60, ct_0, ct_1, ct_2, ct_3, ct_4, ct_5, ct_6, ct_7, ct_8, ct_9, ct_10, ct_11, ct_12, ct_13, ct_14, ct_20, ct_21, ct_22, ct_23, ct_24, ct_25, ct_30, ct_31, ct_32, ct_40, ct_41, ct_42, ct_43, ct_44, ct_45, ct_46, ct_47, ct_48, ct_49, ct_50, ct_51, ct_52, ct_53, ct_54, ct_55, ct_56, ct_57, ct_58, ct_59, ct_60, ki_m1, ki_0, ki_1, ki_2, ki_3, ki_4, ki_5, kb_m2, kb_m3, kb_m4, kb_m8, kb_m9, kb_10, kb_100, kb_16, kb_36, kb_6, kb_63, kb_8, kb_9, kb_99, ks_216, ks_2520, ks_256, ks_800, kl_0, kl_1, ↓reduceIte, reduceCtorEq, Nat.reduceAdd, Nat.reduceLT, Nat.reduceLeDiff, Nat.reduceEqDiff, List.map_cons, List.map_nil, List.sum_cons, List.sum_nil, List.cons_append, List.nil_append, Option.toList_some, Option.toList_none, true_and, and_true, true_or, or_true, not_true_eq_false, not_false_eq_true, Nat.lt_add_one, Nat.zero_le, eq_self, or_false, false_or, implies_true, forall_const, false_implies, forall_false, true_implies, and_self, Nat.zero_lt_one, Nat.add_zero, Nat.zero_add, Int32.reduceLT, Int32.reduceLE, Int32.reduceAdd, Int32.reduceSub, Int32.reduceMul, e10, e01, ite_self, ab_mx, ab_mi, ab_mb, ab_ml2, rX5_startFillings_3, rX5_startFillings_4, rX5_startFillings_7, rX5_startFillings_28, ht, e20, q]
      exact F
    | succ m ih =>
      intro f c em f0 hc h25
      have e20 : c.1 20 t 0 = σ.1 20 t 0 := (hc.2 20 t 0 rfl).1
      have e21 : ∀ j, c.1 21 t j = σ.1 21 t j := fun j => (hc.2 21 t j rfl).1
      have q : ¬ σ.1 20 t 0 ≤ f := fun q => by have q := le32 q; omega
      have vf : vp_in f 8 := vp_of f0 (by omega)
      have ef : (f + 1).toInt = f.toInt + 1 := i32_p1 (by omega)
      have F := ih (f + 1) (ab_si c 25 t f.toNatClampNeg (c.1 21 t f.toNatClampNeg)) (by omega) (by omega) (hc.si 25 t _ fi_t (i32_lo _) (i32_hi _)) (fun j hj => by
        by_cases e : j = f.toNatClampNeg
        · rw [e, sn_ie]; exact e21 _
        · rw [sn_ij e]
          have e : ¬ j = f.toInt.toNat := e
          exact h25 j (by omega))
      rw [rX5_startFillings_2]
      simp only [ab_loc, ab_cat, ab_kil, ab_al, ab_ln, ab_lnp, ab_rf, sh_0, sh_1, sh_2, sh_3, sh_4, sh_5, sh_6, sh_7, sh_8, sh_9, sh_10, sh_11, sh_12, sh_13, sh_14, sh_20, sh_21, sh_22, sh_23, sh_24, sh_25, sh_30, sh_31, sh_32, sh_40, sh_41, sh_42, sh_43, sh_44, sh_45, sh_46, sh_47, sh_48, sh_49, sh_50, sh_51, sh_52, sh_53, sh_54, sh_55, sh_56, sh_57, sh_58, sh_59, sh_60, ct_0, ct_1, ct_2, ct_3, ct_4, ct_5, ct_6, ct_7, ct_8, ct_9, ct_10, ct_11, ct_12, ct_13, ct_14, ct_20, ct_21, ct_22, ct_23, ct_24, ct_25, ct_30, ct_31, ct_32, ct_40, ct_41, ct_42, ct_43, ct_44, ct_45, ct_46, ct_47, ct_48, ct_49, ct_50, ct_51, ct_52, ct_53, ct_54, ct_55, ct_56, ct_57, ct_58, ct_59, ct_60, ki_m1, ki_0, ki_1, ki_2, ki_3, ki_4, ki_5, kb_m2, kb_m3, kb_m4, kb_m8, kb_m9, kb_10, kb_100, kb_16, kb_36, kb_6, kb_63, kb_8, kb_9, kb_99, ks_216, ks_2520, ks_256, ks_800, kl_0, kl_1, ↓reduceIte, reduceCtorEq, Nat.reduceAdd, Nat.reduceLT, Nat.reduceLeDiff, Nat.reduceEqDiff, List.map_cons, List.map_nil, List.sum_cons, List.sum_nil, List.cons_append, List.nil_append, Option.toList_some, Option.toList_none, true_and, and_true, true_or, or_true, not_true_eq_false, not_false_eq_true, Nat.lt_add_one, Nat.zero_le, eq_self, or_false, false_or, implies_true, forall_const, false_implies, forall_false, true_implies, and_self, Nat.zero_lt_one, Nat.add_zero, Nat.zero_add, Int32.reduceLT, Int32.reduceLE, Int32.reduceAdd, Int32.reduceSub, Int32.reduceMul, e10, e01, ite_self, ab_mx, ab_mi, ab_mb, ab_ml2, rX5_startFillings_3, rX5_startFillings_4, rX5_startFillings_7, rX5_startFillings_10, rX5_startFillings_11, rX5_startFillings_14, rX5_startFillings_15, rX5_startFillings_16, rX5_startFillings_19, rX5_startFillings_20, rX5_startFillings_21, rX5_startFillings_22, rX5_startFillings_25, ht, e20, q, vf]
      exact F
  have K := key n 0 σ (by rw [t0i]; omega) (by decide) (fr.rf hR) (fun j hj => by have hj : j < 0 := hj; omega)
  simp only [ab_loc, ab_cat, ab_kil, ab_al, ab_ln, ab_lnp, ab_rf, sh_0, sh_1, sh_2, sh_3, sh_4, sh_5, sh_6, sh_7, sh_8, sh_9, sh_10, sh_11, sh_12, sh_13, sh_14, sh_20, sh_21, sh_22, sh_23, sh_24, sh_25, sh_30, sh_31, sh_32, sh_40, sh_41, sh_42, sh_43, sh_44, sh_45, sh_46, sh_47, sh_48, sh_49, sh_50, sh_51, sh_52, sh_53, sh_54, sh_55, sh_56, sh_57, sh_58, sh_59, sh_60, ct_0, ct_1, ct_2, ct_3, ct_4, ct_5, ct_6, ct_7, ct_8, ct_9, ct_10, ct_11, ct_12, ct_13, ct_14, ct_20, ct_21, ct_22, ct_23, ct_24, ct_25, ct_30, ct_31, ct_32, ct_40, ct_41, ct_42, ct_43, ct_44, ct_45, ct_46, ct_47, ct_48, ct_49, ct_50, ct_51, ct_52, ct_53, ct_54, ct_55, ct_56, ct_57, ct_58, ct_59, ct_60, ki_m1, ki_0, ki_1, ki_2, ki_3, ki_4, ki_5, kb_m2, kb_m3, kb_m4, kb_m8, kb_m9, kb_10, kb_100, kb_16, kb_36, kb_6, kb_63, kb_8, kb_9, kb_99, ks_216, ks_2520, ks_256, ks_800, kl_0, kl_1, ↓reduceIte, reduceCtorEq, Nat.reduceAdd, Nat.reduceLT, Nat.reduceLeDiff, Nat.reduceEqDiff, List.map_cons, List.map_nil, List.sum_cons, List.sum_nil, List.cons_append, List.nil_append, Option.toList_some, Option.toList_none, true_and, and_true, true_or, or_true, not_true_eq_false, not_false_eq_true, Nat.lt_add_one, Nat.zero_le, eq_self, or_false, false_or, implies_true, forall_const, false_implies, forall_false, true_implies, and_self, Nat.zero_lt_one, Nat.add_zero, Nat.zero_add, Int32.reduceLT, Int32.reduceLE, Int32.reduceAdd, Int32.reduceSub, Int32.reduceMul, e10, e01, ite_self, ab_mx, ab_mi, ab_mb, ab_ml2, uX5_startFillings, rX5_startFillings_0, rX5_startFillings_1]
  exact K
/-- what is left of x, and what has been taken, behind the first k; a head is m wide -/
def hsL (W : Nat → Int) (m x : Int) (k : Nat) : Int := match k with
  | 0 => x
  | k + 1 => hsL W m x k - min (hsL W m x k) (W k * m)
def hsH (E W : Nat → Int) (m x : Int) (k : Nat) : Int := match k with
  | 0 => 0
  | k + 1 => hsH E W m x k + min (hsL W m x k) (W k * m) * E k
theorem hsL_s {W : Nat → Int} {m x : Int} {k : Nat} : hsL W m x (k + 1) = hsL W m x k - min (hsL W m x k) (W k * m) := rfl
theorem hsH_s {E W : Nat → Int} {m x : Int} {k : Nat} : hsH E W m x (k + 1) = hsH E W m x k + min (hsL W m x k) (W k * m) * E k := rfl
theorem hs_b {E W : Nat → Int} {m x C : Int} (hx : 0 ≤ x) (hm : 0 ≤ m) (hC : 0 ≤ C) : ∀ {k : Nat}, (∀ j, j < k → 0 ≤ W j) → (∀ j, j < k → 0 ≤ E j ∧ E j ≤ C) → 0 ≤ hsL W m x k ∧ hsL W m x k ≤ x ∧ 0 ≤ hsH E W m x k ∧ hsH E W m x k + C * hsL W m x k ≤ C * x
  | 0, _, _ => ⟨hx, Int.le_refl _, Int.le_refl _, by show 0 + C * x ≤ C * x; omega⟩
  | k + 1, hW, hE => by
    have ih := hs_b hx hm hC (E := E) (W := W) (k := k) (fun j hj => hW j (by omega)) (fun j hj => hE j (by omega))
    have w : 0 ≤ W k * m := Int.mul_nonneg (hW k (by omega)) hm
    have e := hE k (by omega)
    rw [hsL_s, hsH_s]
    generalize hsL W m x k = l at *
    generalize hsH E W m x k = h at *
    generalize W k * m = v at *
    have t0 : 0 ≤ min l v := by omega
    have t1 : min l v ≤ l := by omega
    generalize min l v = t at *
    have p1 : 0 ≤ t * E k := Int.mul_nonneg t0 e.1
    have p2 : t * E k ≤ t * C := Int.mul_le_mul_of_nonneg_left e.2 t0
    have p3 : C * (l - t) = C * l - t * C := by rw [Int.mul_sub, Int.mul_comm C t]
    refine ⟨by omega, by omega, by omega, ?_⟩
    rw [p3]
    omega
theorem hs_cg {E F W V : Nat → Int} {m x : Int} : ∀ {k : Nat}, (∀ j, j < k → E j = F j) → (∀ j, j < k → W j = V j) → hsL W m x k = hsL V m x k ∧ hsH E W m x k = hsH F V m x k
  | 0, _, _ => ⟨rfl, rfl⟩
  | k + 1, hE, hW => by
    have ih := hs_cg (m := m) (x := x) (k := k) (fun j hj => hE j (by omega)) (fun j hj => hW j (by omega))
    rw [hsL_s, hsL_s, hsH_s, hsH_s, ih.1, ih.2, hE k (by omega), hW k (by omega)]
    exact ⟨rfl, rfl⟩
theorem lcgt {x y : Int64} : (0 < lg_cmp x y) = (y.toInt < x.toInt) := propext (ck_cl (c := .gt))
theorem lclt {x y : Int64} : (lg_cmp x y < 0) = (x.toInt < y.toInt) := propext (ck_cl (c := .lt))
theorem mn64 {x y : Int64} : (if y < x then y else x).toInt = min x.toInt y.toInt := by
  by_cases q : y < x
  · rw [if_pos q]
    have := Int64.lt_iff_toInt_lt.mp q
    omega
  · rw [if_neg q]
    have hq : ¬ y.toInt < x.toInt := fun w => q (Int64.lt_iff_toInt_lt.mpr w)
    omega
set_option maxRecDepth 100000 in
theorem sX3_heldByShareF {σ : ab_S} {P : ab_P} {i n : Nat} {a m : Int32} {H : Int} {E W : Nat → Int} (hi : i < 2) (hn : (σ.1 30 i 0).toInt = n) (n8 : n ≤ 8) (hH : (σ.2 30 i 1).toInt = H) (h0 : 0 ≤ H) (h1 : H ≤ 72) (a0 : 0 ≤ a.toInt) (a1 : a.toInt ≤ 100) (m0 : 0 ≤ m.toInt) (m1 : m.toInt ≤ 100) (hE : ∀ j, j < n → (σ.2 32 i j).toInt = E j) (hW : ∀ j, j < n → (σ.2 31 i j).toInt = W j) (bE : ∀ j, j < n → 0 ≤ E j ∧ E j ≤ 249480) (bW : ∀ j, j < n → 0 ≤ W j ∧ W j ≤ 9) (hP : ∀ y : Int64, y.toInt = hsH E W m.toInt (a.toInt * H) n → P (some (.inl (.inr y))) σ) : ab_sp mX3_heldByShare cX3_heldByShare [.inr (some (30, i)), .inl (.inl a), .inl (.inl m)] σ P := by
  have x0 : 0 ≤ a.toInt * H := Int.mul_nonneg a0 h0
  have x1 : a.toInt * H ≤ 100 * 72 := Int.mul_le_mul a1 h1 h0 (by decide)
  have key : ∀ (r : Nat) (f : Int32) (l h : Int64) (l8 l9 : Option ab_V), (n : Int) - f.toInt = r → 0 ≤ f.toInt → l.toInt = hsL W m.toInt (a.toInt * H) f.toInt.toNat → h.toInt = hsH E W m.toInt (a.toInt * H) f.toInt.toNat → ab_wp mX3_heldByShare cX3_heldByShare none P 14 [some (.inr (some (30, i))), some (.inl (.inl a)), some (.inl (.inl m)), some (.inl (.inr l)), none, some (.inl (.inr h)), none, some (.inl (.inl f)), l8, l9] [] σ := by
    intro r
    induction r with
    | zero =>
      intro f l h l8 l9 em f0 hl hh
      have q : σ.1 30 i 0 ≤ f := Int32.le_iff_toInt_le.mpr (by omega)
      rw [show f.toInt.toNat = n by omega] at hh
      have F := hP h hh
      rw [rX3_heldByShare_14]
      simp only [ab_loc, ab_cat, ab_kil, ab_al, ab_ln, ab_lnp, ab_rf, sh_0, sh_1, sh_2, sh_3, sh_4, sh_5, sh_6, sh_7, sh_8, sh_9, sh_10, sh_11, sh_12, sh_13, sh_14, sh_20, sh_21, sh_22, sh_23, sh_24, sh_25, sh_30, sh_31, sh_32, sh_40, sh_41, sh_42, sh_43, sh_44, sh_45, sh_46, sh_47, sh_48, sh_49, sh_50, sh_51, sh_52, sh_53, sh_54, sh_55, sh_56, sh_57, sh_58, sh_59, sh_60, ct_0, ct_1, ct_2, ct_3, ct_4, ct_5, ct_6, ct_7, ct_8, ct_9, ct_10, ct_11, ct_12, ct_13, ct_14, ct_20, ct_21, ct_22, ct_23, ct_24, ct_25, ct_30, ct_31, ct_32, ct_40, ct_41, ct_42, ct_43, ct_44, ct_45, ct_46, ct_47, ct_48, ct_49, ct_50, ct_51, ct_52, ct_53, ct_54, ct_55, ct_56, ct_57, ct_58, ct_59, ct_60, ki_m1, ki_0, ki_1, ki_2, ki_3, ki_4, ki_5, kb_m2, kb_m3, kb_m4, kb_m8, kb_m9, kb_10, kb_100, kb_16, kb_36, kb_6, kb_63, kb_8, kb_9, kb_99, ks_216, ks_2520, ks_256, ks_800, kl_0, kl_1, ↓reduceIte, reduceCtorEq, Nat.reduceAdd, Nat.reduceLT, Nat.reduceLeDiff, Nat.reduceEqDiff, List.map_cons, List.map_nil, List.sum_cons, List.sum_nil, List.cons_append, List.nil_append, Option.toList_some, Option.toList_none, true_and, and_true, true_or, or_true, not_true_eq_false, not_false_eq_true, Nat.lt_add_one, Nat.zero_le, eq_self, or_false, false_or, implies_true, forall_const, false_implies, forall_false, true_implies, and_self, Nat.zero_lt_one, Nat.add_zero, Nat.zero_add, Int32.reduceLT, Int32.reduceLE, Int32.reduceAdd, Int32.reduceSub, Int32.reduceMul, e10, e01, ite_self, ab_mx, ab_mi, ab_mb, ab_ml2, rX3_heldByShare_16, rX3_heldByShare_17, rX3_heldByShare_20, rX3_heldByShare_65, rX3_heldByShare_67, hi, q]
      exact F
    | succ r ih =>
      intro f l h l8 l9 em f0 hl hh
      have q : ¬ σ.1 30 i 0 ≤ f := fun q => by have q := le32 q; omega
      have vf : vp_in f 8 := vp_of f0 (by omega)
      have ef : (f + 1).toInt = f.toInt + 1 := i32_p1 (by omega)
      have en : (f + 1).toInt.toNat = f.toInt.toNat + 1 := by omega
      have fn : f.toNatClampNeg = f.toInt.toNat := rfl
      have B := hs_b (E := E) (W := W) (m := m.toInt) (x := a.toInt * H) (C := 249480) x0 m0 (by decide) (k := f.toInt.toNat) (fun j hj => (bW j (by omega)).1) (fun j hj => bE j (by omega))
      have B2 := hs_b (E := E) (W := W) (m := m.toInt) (x := a.toInt * H) (C := 249480) x0 m0 (by decide) (k := f.toInt.toNat + 1) (fun j hj => (bW j (by omega)).1) (fun j hj => bE j (by omega))
      have bw := bW f.toInt.toNat (by omega)
      have be := bE f.toInt.toNat (by omega)
      have ew := hW f.toInt.toNat (by omega)
      have ee := hE f.toInt.toNat (by omega)
      have w0 : 0 ≤ W f.toInt.toNat * m.toInt := Int.mul_nonneg bw.1 m0
      have w1 : W f.toInt.toNat * m.toInt ≤ 9 * 100 := Int.mul_le_mul bw.2 m1 m0 (by decide)
      have em1 : (σ.2 31 i f.toNatClampNeg * m.toInt64).toInt = W f.toInt.toNat * m.toInt := by rw [fn, i64_mul (by rw [ew, l64]; omega) (by rw [ew, l64]; omega), ew, l64]
      rw [hsL_s, hsH_s] at B2
      rw [rX3_heldByShare_14]
      simp only [ab_loc, ab_cat, ab_kil, ab_al, ab_ln, ab_lnp, ab_rf, sh_0, sh_1, sh_2, sh_3, sh_4, sh_5, sh_6, sh_7, sh_8, sh_9, sh_10, sh_11, sh_12, sh_13, sh_14, sh_20, sh_21, sh_22, sh_23, sh_24, sh_25, sh_30, sh_31, sh_32, sh_40, sh_41, sh_42, sh_43, sh_44, sh_45, sh_46, sh_47, sh_48, sh_49, sh_50, sh_51, sh_52, sh_53, sh_54, sh_55, sh_56, sh_57, sh_58, sh_59, sh_60, ct_0, ct_1, ct_2, ct_3, ct_4, ct_5, ct_6, ct_7, ct_8, ct_9, ct_10, ct_11, ct_12, ct_13, ct_14, ct_20, ct_21, ct_22, ct_23, ct_24, ct_25, ct_30, ct_31, ct_32, ct_40, ct_41, ct_42, ct_43, ct_44, ct_45, ct_46, ct_47, ct_48, ct_49, ct_50, ct_51, ct_52, ct_53, ct_54, ct_55, ct_56, ct_57, ct_58, ct_59, ct_60, ki_m1, ki_0, ki_1, ki_2, ki_3, ki_4, ki_5, kb_m2, kb_m3, kb_m4, kb_m8, kb_m9, kb_10, kb_100, kb_16, kb_36, kb_6, kb_63, kb_8, kb_9, kb_99, ks_216, ks_2520, ks_256, ks_800, kl_0, kl_1, ↓reduceIte, reduceCtorEq, Nat.reduceAdd, Nat.reduceLT, Nat.reduceLeDiff, Nat.reduceEqDiff, List.map_cons, List.map_nil, List.sum_cons, List.sum_nil, List.cons_append, List.nil_append, Option.toList_some, Option.toList_none, true_and, and_true, true_or, or_true, not_true_eq_false, not_false_eq_true, Nat.lt_add_one, Nat.zero_le, eq_self, or_false, false_or, implies_true, forall_const, false_implies, forall_false, true_implies, and_self, Nat.zero_lt_one, Nat.add_zero, Nat.zero_add, Int32.reduceLT, Int32.reduceLE, Int32.reduceAdd, Int32.reduceSub, Int32.reduceMul, e10, e01, ite_self, ab_mx, ab_mi, ab_mb, ab_ml2, rX3_heldByShare_16, rX3_heldByShare_17, rX3_heldByShare_20, rX3_heldByShare_23, rX3_heldByShare_24, rX3_heldByShare_25, rX3_heldByShare_28, rX3_heldByShare_30, rX3_heldByShare_31, rX3_heldByShare_32, rX3_heldByShare_33, rX3_heldByShare_34, hi, q, vf]
      have ht := mn64 (x := l) (y := σ.2 31 i f.toNatClampNeg * m.toInt64)
      generalize (if σ.2 31 i f.toNatClampNeg * m.toInt64 < l then σ.2 31 i f.toNatClampNeg * m.toInt64 else l) = t at ht ⊢
      rw [hl, em1] at ht
      have t0 : 0 ≤ t.toInt := by omega
      have t1 : t.toInt ≤ 7200 := by omega
      have te0 : 0 ≤ t.toInt * E f.toInt.toNat := Int.mul_nonneg t0 be.1
      have te1 : t.toInt * E f.toInt.toNat ≤ 7200 * 249480 := Int.mul_le_mul t1 be.2 be.1 (by decide)
      have e1 : (t * σ.2 32 i f.toNatClampNeg).toInt = t.toInt * E f.toInt.toNat := by rw [fn, i64_mul (by rw [ee]; omega) (by rw [ee]; omega), ee]
      rw [← ht] at B2
      have F := ih (f + 1) (l - t) (h + t * σ.2 32 i f.toNatClampNeg) (some (.inl (.inr t))) none (by omega) (by omega) (by
        rw [i64_sub (by rw [hl]; omega) (by rw [hl]; omega), hl, ht, en, hsL_s]) (by
        rw [i64_add (by rw [hh, e1]; omega) (by rw [hh, e1]; omega), hh, e1, ht, en, hsH_s])
      simp only [ab_loc, ab_cat, ab_kil, ab_al, ab_ln, ab_lnp, ab_rf, sh_0, sh_1, sh_2, sh_3, sh_4, sh_5, sh_6, sh_7, sh_8, sh_9, sh_10, sh_11, sh_12, sh_13, sh_14, sh_20, sh_21, sh_22, sh_23, sh_24, sh_25, sh_30, sh_31, sh_32, sh_40, sh_41, sh_42, sh_43, sh_44, sh_45, sh_46, sh_47, sh_48, sh_49, sh_50, sh_51, sh_52, sh_53, sh_54, sh_55, sh_56, sh_57, sh_58, sh_59, sh_60, ct_0, ct_1, ct_2, ct_3, ct_4, ct_5, ct_6, ct_7, ct_8, ct_9, ct_10, ct_11, ct_12, ct_13, ct_14, ct_20, ct_21, ct_22, ct_23, ct_24, ct_25, ct_30, ct_31, ct_32, ct_40, ct_41, ct_42, ct_43, ct_44, ct_45, ct_46, ct_47, ct_48, ct_49, ct_50, ct_51, ct_52, ct_53, ct_54, ct_55, ct_56, ct_57, ct_58, ct_59, ct_60, ki_m1, ki_0, ki_1, ki_2, ki_3, ki_4, ki_5, kb_m2, kb_m3, kb_m4, kb_m8, kb_m9, kb_10, kb_100, kb_16, kb_36, kb_6, kb_63, kb_8, kb_9, kb_99, ks_216, ks_2520, ks_256, ks_800, kl_0, kl_1, ↓reduceIte, reduceCtorEq, Nat.reduceAdd, Nat.reduceLT, Nat.reduceLeDiff, Nat.reduceEqDiff, List.map_cons, List.map_nil, List.sum_cons, List.sum_nil, List.cons_append, List.nil_append, Option.toList_some, Option.toList_none, true_and, and_true, true_or, or_true, not_true_eq_false, not_false_eq_true, Nat.lt_add_one, Nat.zero_le, eq_self, or_false, false_or, implies_true, forall_const, false_implies, forall_false, true_implies, and_self, Nat.zero_lt_one, Nat.add_zero, Nat.zero_add, Int32.reduceLT, Int32.reduceLE, Int32.reduceAdd, Int32.reduceSub, Int32.reduceMul, e10, e01, ite_self, ab_mx, ab_mi, ab_mb, ab_ml2, rX3_heldByShare_37, rX3_heldByShare_39, rX3_heldByShare_41, rX3_heldByShare_43, rX3_heldByShare_44, rX3_heldByShare_47, rX3_heldByShare_49, rX3_heldByShare_50, rX3_heldByShare_51, rX3_heldByShare_52, rX3_heldByShare_54, rX3_heldByShare_55, rX3_heldByShare_57, rX3_heldByShare_58, rX3_heldByShare_59, rX3_heldByShare_62, hi, vf]
      exact F
  have em : (a.toInt64 * σ.2 30 i 1).toInt = a.toInt * H := by rw [i64_mul (by rw [l64, hH]; omega) (by rw [l64, hH]; omega), l64, hH]
  have K := key n 0 (a.toInt64 * σ.2 30 i 1) 0 none none (by rw [t0i]; omega) (by decide) (by rw [em]; rfl) rfl
  simp only [ab_loc, ab_cat, ab_kil, ab_al, ab_ln, ab_lnp, ab_rf, sh_0, sh_1, sh_2, sh_3, sh_4, sh_5, sh_6, sh_7, sh_8, sh_9, sh_10, sh_11, sh_12, sh_13, sh_14, sh_20, sh_21, sh_22, sh_23, sh_24, sh_25, sh_30, sh_31, sh_32, sh_40, sh_41, sh_42, sh_43, sh_44, sh_45, sh_46, sh_47, sh_48, sh_49, sh_50, sh_51, sh_52, sh_53, sh_54, sh_55, sh_56, sh_57, sh_58, sh_59, sh_60, ct_0, ct_1, ct_2, ct_3, ct_4, ct_5, ct_6, ct_7, ct_8, ct_9, ct_10, ct_11, ct_12, ct_13, ct_14, ct_20, ct_21, ct_22, ct_23, ct_24, ct_25, ct_30, ct_31, ct_32, ct_40, ct_41, ct_42, ct_43, ct_44, ct_45, ct_46, ct_47, ct_48, ct_49, ct_50, ct_51, ct_52, ct_53, ct_54, ct_55, ct_56, ct_57, ct_58, ct_59, ct_60, ki_m1, ki_0, ki_1, ki_2, ki_3, ki_4, ki_5, kb_m2, kb_m3, kb_m4, kb_m8, kb_m9, kb_10, kb_100, kb_16, kb_36, kb_6, kb_63, kb_8, kb_9, kb_99, ks_216, ks_2520, ks_256, ks_800, kl_0, kl_1, ↓reduceIte, reduceCtorEq, Nat.reduceAdd, Nat.reduceLT, Nat.reduceLeDiff, Nat.reduceEqDiff, List.map_cons, List.map_nil, List.sum_cons, List.sum_nil, List.cons_append, List.nil_append, Option.toList_some, Option.toList_none, true_and, and_true, true_or, or_true, not_true_eq_false, not_false_eq_true, Nat.lt_add_one, Nat.zero_le, eq_self, or_false, false_or, implies_true, forall_const, false_implies, forall_false, true_implies, and_self, Nat.zero_lt_one, Nat.add_zero, Nat.zero_add, Int32.reduceLT, Int32.reduceLE, Int32.reduceAdd, Int32.reduceSub, Int32.reduceMul, e10, e01, ite_self, ab_mx, ab_mi, ab_mb, ab_ml2, uX3_heldByShare, rX3_heldByShare_0, rX3_heldByShare_1, rX3_heldByShare_2, rX3_heldByShare_3, rX3_heldByShare_6, rX3_heldByShare_7, rX3_heldByShare_8, rX3_heldByShare_9, rX3_heldByShare_11, rX3_heldByShare_12, hi]
  exact K
