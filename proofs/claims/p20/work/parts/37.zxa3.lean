/-! all fillings of both towns: counts and bits, pure -/
def cnS (ot : Nat → Nat → Int32) (v : Int32) (i J : Nat) : Int32 := fsum (fun j => if ot i j = v then 1 else 0) J
def sbV (v : Int32) : Int32 := (1 : Int32) <<< (v &&& 31)
def orS (ot : Nat → Nat → Int32) (i J : Nat) : Int32 := match J with
  | 0 => 0
  | J + 1 => orS ot i J ||| sbV (ot i J)
def btS (ot : Nat → Nat → Int32) (dg : Nat → Nat → Int) (N : Nat) (i f x : Nat) : Int32 := match i with
  | 0 => 0
  | i + 1 => if dg i f = x then btS ot dg N i f x ||| orS ot i N else btS ot dg N i f x
theorem cnS_s {ot : Nat → Nat → Int32} {v : Int32} {i J : Nat} : cnS ot v i (J + 1) = cnS ot v i J + (if ot i J = v then 1 else 0) := rfl
theorem bt_ne {u v : Int32} (a : bt u 0 3 = true) (b : bt v 0 3 = true) (h : ¬ u = v) : ¬ u.toNatClampNeg = v.toNatClampNeg := fun e => by
  have k1 := tn4 a
  have k2 := tn4 b
  have e : u.toInt.toNat = v.toInt.toNat := e
  exact h (Int32.toInt_inj.mp (by omega))
/-- the frames of the reference -/
def lbS (k _ _ : Nat) : Bool := Nat.beq k 57
def liS (k i j : Nat) : Bool := (haS 1 k i j || laS 1 k i j) || (brS k i j || (Nat.beq k 57 || Nat.beq k 58))
theorem li_h : ∀ k i j, haS 1 k i j = true → liS k i j = true := fun k i j h => by unfold liS; rw [h]; rfl
theorem li_l : ∀ k i j, laS 1 k i j = true → liS k i j = true := fun k i j h => by unfold liS; rw [h, Bool.or_true]; rfl
theorem li_r : ∀ k i j, brS k i j = true → liS k i j = true := fun k i j h => by unfold liS; rw [h, Bool.true_or, Bool.or_true]
theorem li_b : ∀ k i j, lbS k i j = true → liS k i j = true := fun k i j h => by
  have h : Nat.beq k 57 = true := h
  unfold liS
  rw [h, Bool.true_or, Bool.or_true, Bool.or_true]
def loS (k _ j : Nat) : Bool := (Nat.ble 46 k && Nat.ble k 53) || ((Nat.beq k 57 || Nat.beq k 58) || (Nat.beq k 40 && Nat.beq j 11))
theorem lo_k {k i j : Nat} (h : k = 46 ∨ k = 47 ∨ k = 48 ∨ k = 49 ∨ k = 50 ∨ k = 51 ∨ k = 52 ∨ k = 53 ∨ k = 57 ∨ k = 58 ∨ (k = 40 ∧ j = 11)) : loS k i j = true := by
  rcases h with h | h | h | h | h | h | h | h | h | h | ⟨h, e⟩
  all_goals subst h
  all_goals first | rfl | (subst e; rfl)
theorem lo_c {k i j : Nat} (h : loS k i j = true) : k = 46 ∨ k = 47 ∨ k = 48 ∨ k = 49 ∨ k = 50 ∨ k = 51 ∨ k = 52 ∨ k = 53 ∨ k = 57 ∨ k = 58 ∨ (k = 40 ∧ j = 11) := by
  unfold loS at h
  rcases (Bool.or_eq_true _ _).mp h with h | h
  · have h := (Bool.and_eq_true _ _).mp h
    have h1 := Nat.le_of_ble_eq_true h.1
    have h2 := Nat.le_of_ble_eq_true h.2
    omega
  · rcases (Bool.or_eq_true _ _).mp h with h | h
    · rcases (Bool.or_eq_true _ _).mp h with h | h
      · have := Nat.eq_of_beq_eq_true h; omega
      · have := Nat.eq_of_beq_eq_true h; omega
    · have h := (Bool.and_eq_true _ _).mp h
      have h1 := Nat.eq_of_beq_eq_true h.1
      have h2 := Nat.eq_of_beq_eq_true h.2
      omega
theorem lo_w : ∀ k i j, loS k i j = true → ck_wr 0 k j = true := fun k i j h => by
  rcases lo_c h with h | h | h | h | h | h | h | h | h | h | ⟨h, e⟩
  all_goals subst h
  all_goals first | rfl | (subst e; rfl)
theorem lo_ha {s : Nat} : ∀ k i j, haS s k i j = true → loS k i j = true := fun k i j h => by
  have h := Nat.eq_of_beq_eq_true ((Bool.and_eq_true _ _).mp h).1
  exact lo_k (by omega)
theorem lo_la {s : Nat} : ∀ k i j, laS s k i j = true → loS k i j = true := fun k i j h => by
  rcases (Bool.or_eq_true _ _).mp h with h | h
  · have h := ((Bool.and_eq_true _ _).mp h).1
    rcases (Bool.or_eq_true _ _).mp h with h | h
    · have := Nat.eq_of_beq_eq_true h; exact lo_k (by omega)
    · have := Nat.eq_of_beq_eq_true h; exact lo_k (by omega)
  · have h := ((Bool.and_eq_true _ _).mp h).1
    rcases (Bool.or_eq_true _ _).mp h with h | h
    · rcases (Bool.or_eq_true _ _).mp h with h | h
      · have := Nat.eq_of_beq_eq_true h; exact lo_k (by omega)
      · have := Nat.eq_of_beq_eq_true h; exact lo_k (by omega)
    · have := Nat.eq_of_beq_eq_true h; exact lo_k (by omega)
theorem lo_br : ∀ k i j, brS k i j = true → loS k i j = true := fun k i j h => by
  rcases (Bool.or_eq_true _ _).mp h with h | h
  · rcases (Bool.or_eq_true _ _).mp h with h | h
    · have := Nat.eq_of_beq_eq_true h; exact lo_k (by omega)
    · have := Nat.eq_of_beq_eq_true h; exact lo_k (by omega)
  · have h := (Bool.and_eq_true _ _).mp h
    have h1 := Nat.eq_of_beq_eq_true h.1
    have h2 := Nat.eq_of_beq_eq_true h.2
    exact lo_k (by omega)
theorem lo_li : ∀ k i j, liS k i j = true → loS k i j = true := fun k i j h => by
  rcases (Bool.or_eq_true _ _).mp h with h | h
  · rcases (Bool.or_eq_true _ _).mp h with h | h
    · exact lo_ha k i j h
    · exact lo_la k i j h
  · rcases (Bool.or_eq_true _ _).mp h with h | h
    · exact lo_br k i j h
    · rcases (Bool.or_eq_true _ _).mp h with h | h
      · have := Nat.eq_of_beq_eq_true h; exact lo_k (by omega)
      · have := Nat.eq_of_beq_eq_true h; exact lo_k (by omega)
theorem li_n {i j : Nat} (h : j < 8) : liS 46 i (8 * 0 + j) = false ∧ liS 47 i (8 * 0 + j) = false ∧ liS 48 i (8 * 0 + j) = false := by
  have a := ha_n (i := i) h
  have b := la_n (i := i) h
  unfold liS
  rw [a, b.1, b.2]
  exact ⟨rfl, rfl, rfl⟩
theorem rvv.l {σ σ' : ab_S} {sc : Int} {g z : Nat → Int} {n : Nat} (n8 : n ≤ 8) (h : rvv σ 0 sc g z n) (f : fr liS σ σ') : rvv σ' 0 sc g z n := ⟨by rw [(f.2 49 0 0 rfl).1]; exact h.1, by rw [(f.2 50 0 0 rfl).1]; exact h.2.1, by rw [(f.2 51 0 0 rfl).2]; exact h.2.2.1, fun j hj => by
  rw [(f.2 48 0 _ (li_n (by omega)).2.2).2, (f.2 47 0 _ (li_n (by omega)).2.1).1]; exact h.2.2.2 j hj⟩
/-- a town of the reference, as numbers -/
def tnR (σ : ab_S) (t n : Nat) (lo w z : Nat → Int) : Prop := (σ.1 41 0 t).toInt = n ∧ ∀ j, j < n → (σ.1 42 0 (8 * t + j)).toInt = lo j ∧ (σ.1 43 0 (8 * t + j)).toInt = lo j + w j - 1 ∧ (σ.1 44 0 (8 * t + j)).toInt = z j
theorem tnR.k {σ σ' : ab_S} {t n : Nat} {lo w z : Nat → Int} (h : tnR σ t n lo w z) (f : fr loS σ σ') : tnR σ' t n lo w z := ⟨by rw [(f.2 41 0 t rfl).1]; exact h.1, fun j hj => by rw [(f.2 42 0 _ rfl).1, (f.2 43 0 _ rfl).1, (f.2 44 0 _ rfl).1]; exact h.2 j hj⟩
theorem k100i : (100 : Int32).toInt = 100 := rfl
theorem ix100 {f h : Int32} {F : Nat} {g : Int} (hf : f.toInt = F) (F8 : F < 8) (hh : h.toInt = g) (g0 : 0 ≤ g) (g1 : g ≤ 99) : vp_in (100 * f + h) 800 ∧ (100 * f + h).toNatClampNeg = 100 * F + g.toNat := by
  have e1 : (100 * f).toInt = 100 * F := by rw [i32_mul (by rw [k100i]; omega) (by rw [k100i]; omega), k100i, hf]
  have e2 : (100 * f + h).toInt = 100 * F + g := by rw [i32_add (by omega) (by omega), e1, hh]
  exact ⟨vp_of (by omega) (by omega), by show (100 * f + h).toInt.toNat = _; omega⟩
set_option maxRecDepth 100000 in
set_option maxHeartbeats 1000000 in
theorem lh_by {e : ab_S} {P : ab_P} {x1 x2 x3 x4 o u i j v : Int32} {n : Nat} {g : Nat → Int} (he : rg_R e) (l1 : 0 ≤ x1.toInt) (m1 : x1.toInt ≤ 3) (hn : (e.1 41 0 x1.toNatClampNeg).toInt = n) (n8 : n ≤ 8) (hg : ∀ f, f < n → (e.1 46 0 f).toInt = g f) (bg : ∀ f, f < n → 0 ≤ g f ∧ g f ≤ 99) (nxt : ∀ (d : ab_S) (f : Int32), fr lbS e d → (∀ f' x, f' < n → x < 100 → d.1 57 0 (100 * f' + x) = if g f' = x then e.1 57 0 (100 * f' + x) ||| sbV v else e.1 57 0 (100 * f' + x)) → ab_wp mX8_layHidden cX8_layHidden none P 178 [some (.inr (some (40, 0))), some (.inl (.inl x1)), some (.inl (.inl x2)), some (.inl (.inl x3)), some (.inl (.inl x4)), some (.inl (.inl o)), some (.inl (.inl u)), some (.inl (.inl i)), some (.inl (.inl j)), some (.inl (.inl v)), some (.inl (.inl f))] [] d) : ∀ (r F : Nat) (f : Int32) (d : ab_S), F + r = n → f.toInt = F → fr lbS e d → (∀ f' x, f' < n → x < 100 → d.1 57 0 (100 * f' + x) = if f' < F ∧ g f' = x then e.1 57 0 (100 * f' + x) ||| sbV v else e.1 57 0 (100 * f' + x)) → ab_wp mX8_layHidden cX8_layHidden none P 136 [some (.inr (some (40, 0))), some (.inl (.inl x1)), some (.inl (.inl x2)), some (.inl (.inl x3)), some (.inl (.inl x4)), some (.inl (.inl o)), some (.inl (.inl u)), some (.inl (.inl i)), some (.inl (.inl j)), some (.inl (.inl v)), some (.inl (.inl f))] [] d := by
  have v1 : vp_in x1 4 := vp_of l1 (by omega)
  intro r
  induction r with
  | zero =>
    intro F f d er hf fd h57
    have em : (d.1 41 0 x1.toNatClampNeg) = e.1 41 0 x1.toNatClampNeg := (fd.2 41 0 _ rfl).1
    have q : e.1 41 0 x1.toNatClampNeg ≤ f := Int32.le_iff_toInt_le.mpr (by omega)
    have K := nxt d f fd (fun f' x h1 h2 => by
      rw [h57 f' x h1 h2]
      by_cases a : g f' = x
      · rw [if_pos a, if_pos ⟨by omega, a⟩]
      · rw [if_neg a, if_neg (fun w => a w.2)])
    rw [rX8_layHidden_136]
    simp only [ab_loc, ab_cat, ab_kil, ab_al, ab_ln, ab_lnp, ab_rf, sh_0, sh_1, sh_2, sh_3, sh_4, sh_5, sh_6, sh_7, sh_8, sh_9, sh_10, sh_11, sh_12, sh_13, sh_14, sh_20, sh_21, sh_22, sh_23, sh_24, sh_25, sh_30, sh_31, sh_32, sh_40, sh_41, sh_42, sh_43, sh_44, sh_45, sh_46, sh_47, sh_48, sh_49, sh_50, sh_51, sh_52, sh_53, sh_54, sh_55, sh_56, sh_57, sh_58, sh_59, sh_60, ct_0, ct_1, ct_2, ct_3, ct_4, ct_5, ct_6, ct_7, ct_8, ct_9, ct_10, ct_11, ct_12, ct_13, ct_14, ct_20, ct_21, ct_22, ct_23, ct_24, ct_25, ct_30, ct_31, ct_32, ct_40, ct_41, ct_42, ct_43, ct_44, ct_45, ct_46, ct_47, ct_48, ct_49, ct_50, ct_51, ct_52, ct_53, ct_54, ct_55, ct_56, ct_57, ct_58, ct_59, ct_60, ki_m1, ki_0, ki_1, ki_2, ki_3, ki_4, ki_5, kb_m2, kb_m3, kb_m4, kb_m8, kb_m9, kb_10, kb_100, kb_16, kb_36, kb_6, kb_63, kb_8, kb_9, kb_99, ks_216, ks_2520, ks_256, ks_800, kl_0, kl_1, ↓reduceIte, reduceCtorEq, Nat.reduceAdd, Nat.reduceLT, Nat.reduceLeDiff, Nat.reduceEqDiff, List.map_cons, List.map_nil, List.sum_cons, List.sum_nil, List.cons_append, List.nil_append, Option.toList_some, Option.toList_none, true_and, and_true, true_or, or_true, not_true_eq_false, not_false_eq_true, Nat.lt_add_one, Nat.zero_le, eq_self, or_false, false_or, implies_true, forall_const, false_implies, forall_false, true_implies, and_self, Nat.zero_lt_one, Nat.add_zero, Nat.zero_add, Int32.reduceLT, Int32.reduceLE, Int32.reduceAdd, Int32.reduceSub, Int32.reduceMul, e10, e01, ite_self, ab_mx, ab_mi, ab_mb, ab_ml2, rX8_layHidden_138, rX8_layHidden_139, rX8_layHidden_142, rX8_layHidden_143, rX8_layHidden_144, v1, em, q]
    exact K
  | succ r ih =>
    intro F f d er hf fd h57
    have em : (d.1 41 0 x1.toNatClampNeg) = e.1 41 0 x1.toNatClampNeg := (fd.2 41 0 _ rfl).1
    have q : ¬ e.1 41 0 x1.toNatClampNeg ≤ f := fun w => by have w := le32 w; omega
    have ef : (f + 1).toInt = (F + 1 : Nat) := by rw [i32_p1 (by omega)]; omega
    have vf : vp_in f 16 := vp_of (by omega) (by omega)
    have nf : f.toNatClampNeg = F := by show f.toInt.toNat = F; omega
    have b := bg F (by omega)
    have h46 : (d.1 46 0 F).toInt = g F := by rw [(fd.2 46 0 F rfl).1]; exact hg F (by omega)
    obtain ⟨h, hh⟩ : ∃ h, d.1 46 0 F = h := ⟨_, rfl⟩
    rw [hh] at h46
    obtain ⟨vi, ni⟩ := ix100 hf (by omega) h46 b.1 b.2
    have K := ih (F + 1) (f + 1) (ab_si d 57 0 (100 * F + (g F).toNat) (d.1 57 0 (100 * F + (g F).toNat) ||| sbV v)) (by omega) ef (fd.si 57 0 _ rfl (i32_lo _) (i32_hi _)) (fun f' x h1 h2 => by
      by_cases a : f' = F ∧ x = (g F).toNat
      · rw [a.1, a.2, sn_ie, h57 F _ (by omega) (by omega), if_neg (fun w => Nat.lt_irrefl _ w.1), if_pos ⟨by omega, by omega⟩]
      · rw [sn_ij (by omega), h57 f' x h1 h2]
        by_cases c : f' < F ∧ g f' = x
        · rw [if_pos c, if_pos ⟨by omega, c.2⟩]
        · rw [if_neg c, if_neg (fun w => by
            by_cases z : f' < F
            · exact c ⟨z, w.2⟩
            · have z : f' = F := by omega
              exact a ⟨z, by rw [← z]; omega⟩)])
    unfold sbV at K
    rw [rX8_layHidden_136]
    simp only [ab_loc, ab_cat, ab_kil, ab_al, ab_ln, ab_lnp, ab_rf, sh_0, sh_1, sh_2, sh_3, sh_4, sh_5, sh_6, sh_7, sh_8, sh_9, sh_10, sh_11, sh_12, sh_13, sh_14, sh_20, sh_21, sh_22, sh_23, sh_24, sh_25, sh_30, sh_31, sh_32, sh_40, sh_41, sh_42, sh_43, sh_44, sh_45, sh_46, sh_47, sh_48, sh_49, sh_50, sh_51, sh_52, sh_53, sh_54, sh_55, sh_56, sh_57, sh_58, sh_59, sh_60, ct_0, ct_1, ct_2, ct_3, ct_4, ct_5, ct_6, ct_7, ct_8, ct_9, ct_10, ct_11, ct_12, ct_13, ct_14, ct_20, ct_21, ct_22, ct_23, ct_24, ct_25, ct_30, ct_31, ct_32, ct_40, ct_41, ct_42, ct_43, ct_44, ct_45, ct_46, ct_47, ct_48, ct_49, ct_50, ct_51, ct_52, ct_53, ct_54, ct_55, ct_56, ct_57, ct_58, ct_59, ct_60, ki_m1, ki_0, ki_1, ki_2, ki_3, ki_4, ki_5, kb_m2, kb_m3, kb_m4, kb_m8, kb_m9, kb_10, kb_100, kb_16, kb_36, kb_6, kb_63, kb_8, kb_9, kb_99, ks_216, ks_2520, ks_256, ks_800, kl_0, kl_1, ↓reduceIte, reduceCtorEq, Nat.reduceAdd, Nat.reduceLT, Nat.reduceLeDiff, Nat.reduceEqDiff, List.map_cons, List.map_nil, List.sum_cons, List.sum_nil, List.cons_append, List.nil_append, Option.toList_some, Option.toList_none, true_and, and_true, true_or, or_true, not_true_eq_false, not_false_eq_true, Nat.lt_add_one, Nat.zero_le, eq_self, or_false, false_or, implies_true, forall_const, false_implies, forall_false, true_implies, and_self, Nat.zero_lt_one, Nat.add_zero, Nat.zero_add, Int32.reduceLT, Int32.reduceLE, Int32.reduceAdd, Int32.reduceSub, Int32.reduceMul, e10, e01, ite_self, ab_mx, ab_mi, ab_mb, ab_ml2, rX8_layHidden_138, rX8_layHidden_139, rX8_layHidden_142, rX8_layHidden_143, rX8_layHidden_144, rX8_layHidden_147, rX8_layHidden_148, rX8_layHidden_151, rX8_layHidden_153, rX8_layHidden_155, rX8_layHidden_156, rX8_layHidden_157, rX8_layHidden_160, rX8_layHidden_162, rX8_layHidden_163, rX8_layHidden_164a, rX8_layHidden_164l, rX8_layHidden_165, rX8_layHidden_166, rX8_layHidden_167, rX8_layHidden_169, rX8_layHidden_170, rX8_layHidden_171, rX8_layHidden_172, rX8_layHidden_175, v1, em, q, vf, nf, hh, vi, ni]
    exact K
