/-! coins: both come to the same, pure -/
theorem is_m {a : Nat → Int} {c : Int} : ∀ {n : Nat}, isum (fun j => c * a j) n = c * isum a n
  | 0 => (Int.mul_zero c).symm
  | n + 1 => by
    show isum (fun j => c * a j) n + c * a n = c * (isum a n + a n)
    rw [is_m, Int.mul_add]
theorem al_is {g z : Nat → Int} {n : Nat} : alI 0 g z n = 2520 * isum g n := by
  rw [← is_m]
  exact isum_cg (fun j hj => by
    show hvI 0 g z j * wvI 0 z j = 2520 * g j
    rw [hv_00, show wvI 0 z j = 1 from rfl, Int.mul_one])
theorem fs_isJ {c : Nat → Int32} : ∀ {n : Nat}, n ≤ 8 → (∀ j, j < n → 0 ≤ tI c j ∧ tI c j ≤ 99) → (fsum c n).toInt = isum (tI c) n
  | 0, _, _ => rfl
  | n + 1, h8, h => by
    have ih := fs_isJ (c := c) (n := n) (by omega) (fun j hj => h j (by omega))
    have b := isum_b (g := tI c) (c := 99) (n := n) (fun j hj => h j (by omega))
    have d : 0 ≤ (c n).toInt ∧ (c n).toInt ≤ 99 := h n (by omega)
    show (fsum c n + c n).toInt = isum (tI c) n + (c n).toInt
    rw [i32_add (by omega) (by omega), ih]
theorem du_is {g h : Nat → Int} {n : Nat} : isum (duI g h n) n = isum h n - isum g n := by
  have one : ∀ g : Nat → Int, isum (fun k => isum (fun f => if rkN g n f = k then g f else 0) n) n = isum g n := fun g => by
    have a := pm_srt (g := g) (z := g) (φ := fun x => x) (n := n)
    have a : isum (fun j => (srt 0 g g n).1 j) n = isum (fun f => 2520 * g f) n := a
    have b : isum (fun k => 2520 * isum (fun f => if rkN g n f = k then g f else 0) n) n = isum (fun j => (srt 0 g g n).1 j) n := isum_cg (fun k hk => (rk_at (g := g) (z := g) (n := n)).2 k hk)
    rw [is_m] at a b
    omega
  have c := isum_d (f := fun k => isum (fun f => if rkN h n f = k then h f else 0) n) (g := duI g h n) (d := fun k => isum (fun f => if rkN g n f = k then g f else 0) n) (n := n) (fun k _ => by unfold duI; omega)
  rw [one h, one g] at c
  omega
theorem sm_fu {D : Nat → Int} {n : Nat} : ∀ {k : Nat}, k ≤ n → smF D k (2 ^ n - 1) = isum D k
  | 0, _ => rfl
  | k + 1, h => by
    rw [smF_s, sm_fu (by omega), Nat.testBit_two_pow_sub_one, decide_eq_true (show k < n by omega), if_pos rfl]
    rfl
theorem sm_sp {D : Nat → Int} {g s : Nat} (h : g &&& s = g) : ∀ {k : Nat}, smF D k s = smF D k g + smF D k (s ^^^ g)
  | 0 => rfl
  | k + 1 => by
    rw [smF_s, smF_s, smF_s, sm_sp h, xr_tb h]
    cases e : Nat.testBit g k with
    | true =>
      rw [sm_tb h e]
      show smF D k g + smF D k (s ^^^ g) + D k = smF D k g + D k + (smF D k (s ^^^ g) + 0)
      omega
    | false =>
      cases f : Nat.testBit s k with
      | true =>
        show smF D k g + smF D k (s ^^^ g) + D k = smF D k g + 0 + (smF D k (s ^^^ g) + D k)
        omega
      | false =>
        show smF D k g + smF D k (s ^^^ g) + 0 = smF D k g + 0 + (smF D k (s ^^^ g) + 0)
        omega
theorem gd_sp {D : Nat → Int} {g s : Nat} (h : g &&& s = g) : ∀ {k : Nat}, gdF D k g = true → gdF D k (s ^^^ g) = true → gdF D k s = true
  | 0, _, _ => rfl
  | k + 1, h1, h2 => by
    rw [gdF_s] at h1 h2 ⊢
    obtain ⟨a1, a2⟩ := (Bool.and_eq_true _ _).mp h1
    obtain ⟨b1, b2⟩ := (Bool.and_eq_true _ _).mp h2
    have a2 := of_decide_eq_true a2
    have b2 := of_decide_eq_true b2
    rw [gd_sp h a1 b1, sm_sp h, decide_eq_true (by omega)]
    rfl
theorem rg_gd {D : Nat → Int} {n N : Nat} {R : Nat → Int} (hN : N ≤ 256) (h : rgP (evF D n) N R) : ∀ (b s : Nat), s < b → s < N → 0 ≤ R s → gdF D n s = true
  | 0, s, hb, _, _ => absurd hb (Nat.not_lt_zero s)
  | b + 1, s, hb, hs, hr => by
    by_cases z : s = 0
    · rw [z]; exact sm_z.2
    · rcases h.2.2 s (by omega) hs with e | ⟨g, g1, g2, g3, g4, g5, e⟩
      · omega
      · obtain ⟨q1, q2, q3⟩ := xr_sb s (by omega) g g1 g2
        obtain ⟨q4, q5⟩ := q3 g3
        exact gd_sp g2 ((Bool.and_eq_true _ _).mp g4).1 (rg_gd hN h b (s ^^^ g) (by omega) (by omega) g5)
/-- what the class and what the reference answer is one number -/
theorem co_eq {g h : Nat → Int} {n : Nat} {C R : Nat → Int} (n8 : n ≤ 8) (hs : isum g n = isum h n) (hr : rgP (evF (duI g h n) n) (2 ^ n) R) : (gdF (duI g h n) n (2 ^ n - 1) = false → R (2 ^ n - 1) < 0) ∧ (gdF (duI g h n) n (2 ^ n - 1) = true → cgP (evF (duI g h n) n) (2 ^ n) C → 0 ≤ R (2 ^ n - 1) ∧ C (2 ^ n - 1) = R (2 ^ n - 1)) := by
  have p8 := p2_8 n8
  refine ⟨fun a => ?_, fun a hc => ?_⟩
  · by_cases r : R (2 ^ n - 1) < 0
    · exact r
    · have := rg_gd p8.2 hr (2 ^ n) (2 ^ n - 1) (by omega) (by omega) (by omega)
      rw [a] at this
      cases this
  · have r0 : 0 ≤ R (2 ^ n - 1) := by
      by_cases z : 2 ^ n - 1 = 0
      · rw [z, hr.1]; exact Int.le_refl 0
      · have ev : evF (duI g h n) n (2 ^ n - 1) = true := by
          unfold evF
          rw [a, sm_fu (Nat.le_refl n), du_is, decide_eq_true (by omega)]
          rfl
        have := hr.2.1 (2 ^ n - 1) (by omega) (by omega) (2 ^ n - 1) (by omega) (Nat.and_self _) z ev (by rw [Nat.xor_self, hr.1]; exact Int.le_refl 0)
        rw [Nat.xor_self, hr.1] at this
        omega
    exact ⟨r0, (cr_eq p8.2 hc hr (2 ^ n) (2 ^ n - 1) (by omega) (by omega)).1 r0⟩
theorem er_d {g h z1 z2 : Nat → Int} {n : Nat} (bg : ∀ j, j < n → 0 ≤ g j ∧ g j ≤ 99) (bh : ∀ j, j < n → 0 ≤ h j ∧ h j ≤ 99) (b1 : ∀ j, j < n → 1 ≤ z1 j ∧ z1 j ≤ 9) (b2 : ∀ j, j < n → 1 ≤ z2 j ∧ z2 j ≤ 9) (e : alI 0 g z1 n = alI 0 h z2 n) : ∀ k, k < n → erI 0 h z2 n k - erI 0 g z1 n k = 2520 * duI g h n k := fun k hk => by
  have a := (rk_at (g := g) (z := z1) (n := n)).2 k hk
  have b := (rk_at (g := h) (z := z2) (n := n)).2 k hk
  unfold erI duI
  by_cases A : alI 0 g z1 n = 0
  · rw [if_pos A, if_pos (by rw [← e]; exact A)]
    rw [al_0 bg b1 A k hk] at a
    rw [al_0 bh b2 (by rw [← e]; exact A) k hk] at b
    omega
  · rw [if_neg A, if_neg (by rw [← e]; exact A)]
    omega
theorem i64_dx {x : Int64} {c : Int} (hx : x.toInt = 2520 * c) (c0 : -99 ≤ c) (c1 : c ≤ 99) : (x / 2520).toInt32.toInt = c := by
  have e : (x / 2520).toInt = c := by
    rw [Int64.toInt_div, hx, show (2520 : Int64).toInt = 2520 from rfl, Int.mul_tdiv_cancel_left c (by decide)]
    exact bm64 (by omega) (by omega)
  rw [i64_32 (by omega) (by omega), e]
/-! coins: the reference, from what is due on -/
def dfS (k _ _ : Nat) : Bool := Nat.beq k 54
def rcS (k _ _ : Nat) : Bool := Nat.beq k 54 || Nat.beq k 55
theorem rc_d : ∀ k i j, dfS k i j = true → rcS k i j = true := fun k i j h => by
  have h : Nat.beq k 54 = true := h
  unfold rcS
  rw [h]; rfl
theorem rc_g : ∀ k i j, grS k i j = true → rcS k i j = true := fun k i j h => by
  have h : Nat.beq k 55 = true := h
  unfold rcS
  rw [h, Bool.or_true]
theorem rc_w : ∀ k i j, rcS k i j = true → ck_wr 0 k j = true := fun k i j h => by
  rcases (Bool.or_eq_true _ _).mp h with h | h
  · rw [Nat.eq_of_beq_eq_true h]; rfl
  · rw [Nat.eq_of_beq_eq_true h]; rfl
set_option maxRecDepth 100000 in
set_option maxHeartbeats 1000000 in
theorem rc_gr {σ : ab_S} {P : ab_P} {x1 x2 x3 k4 : Int32} {n : Nat} {D : Nat → Int} (hr : rg_R σ) (n8 : n ≤ 8) (hn : x3.toInt = n) (hD : ∀ k, k < n → (σ.1 54 0 k).toInt = D k) (bD : ∀ k, k < n → -99 ≤ D k ∧ D k ≤ 99) (hP : ∀ (σ' : ab_S) (R : Nat → Int) (y : Int32), fr grS σ σ' → rgP (evF D n) (2 ^ n) R → y.toInt = (if R (2 ^ n - 1) < 0 then -9 else n - R (2 ^ n - 1)) → P (some (.inl (.inl y))) σ') : ab_wp mX8_coins cX8_coins none P 147 [some (.inr (some (40, 0))), some (.inl (.inl x1)), some (.inl (.inl x2)), some (.inl (.inl x3)), some (.inl (.inl k4)), none, none] [] σ := by
  have p8 := p2_8 n8
  have es := shl_N hn n8
  obtain ⟨st, hst⟩ : ∃ st, (1 : Int32) <<< (x3 &&& 31) = st := ⟨_, rfl⟩
  rw [hst] at es
  have e1 : (st - 1).toInt = (2 ^ n - 1 : Nat) := by rw [i32_m1 (by omega)]; omega
  have v1 : vp_in (st - 1) 256 := vp_of (by omega) (by omega)
  have n1 : (st - 1).toNatClampNeg = 2 ^ n - 1 := by show (st - 1).toInt.toNat = _; omega
  have v0 : vp_in (0 : Int32) 256 := vp_of (by decide) (by decide)
  have n0 : (0 : Int32).toNatClampNeg = 0 := rfl
  have loop : ∀ (r S : Nat) (se : Int32) (d : ab_S) (l5 l6 : Option ab_V), S + r = 2 ^ n → 0 < S → se.toInt = S → fr grS σ d → grH d (fun s => (d.1 55 0 s).toInt) S → rgP (evF D n) S (fun s => (d.1 55 0 s).toInt) → ab_wp mX8_coins cX8_coins none P 157 [some (.inr (some (40, 0))), some (.inl (.inl x1)), some (.inl (.inl x2)), some (.inl (.inl x3)), some (.inl (.inl se)), l5, l6] [] d := by
    intro r
    induction r with
    | zero =>
      intro S se d l5 l6 er S0 hse fd hg hc
      have q : st ≤ se := Int32.le_iff_toInt_le.mpr (by omega)
      rw [show S = 2 ^ n by omega] at hg hc
      have G := hg (2 ^ n - 1) (by omega)
      have G2 : -9 ≤ (d.1 55 0 (2 ^ n - 1)).toInt := G.2.1
      have G3 : (d.1 55 0 (2 ^ n - 1)).toInt ≤ (2 ^ n - 1 : Nat) := G.2.2
      obtain ⟨w, hw⟩ : ∃ w, d.1 55 0 (2 ^ n - 1) = w := ⟨_, rfl⟩
      rw [hw] at G2 G3
      have Z := fun y hy => hP d (fun s => (d.1 55 0 s).toInt) y fd hc hy
      have Z : ∀ y : Int32, y.toInt = (if (d.1 55 0 (2 ^ n - 1)).toInt < 0 then -9 else n - (d.1 55 0 (2 ^ n - 1)).toInt) → P (some (.inl (.inl y))) d := Z
      rw [hw] at Z
      rw [rX8_coins_157]
      by_cases a : w.toInt < 0
      · have qa : ¬ (0 : Int32) ≤ w := fun u => by have u := le32 u; rw [t0i] at u; omega
        have Y := Z (-9) (by rw [if_pos a]; rfl)
        simp only [ab_loc, ab_cat, ab_kil, ab_al, ab_ln, ab_lnp, ab_rf, sh_0, sh_1, sh_2, sh_3, sh_4, sh_5, sh_6, sh_7, sh_8, sh_9, sh_10, sh_11, sh_12, sh_13, sh_14, sh_20, sh_21, sh_22, sh_23, sh_24, sh_25, sh_30, sh_31, sh_32, sh_40, sh_41, sh_42, sh_43, sh_44, sh_45, sh_46, sh_47, sh_48, sh_49, sh_50, sh_51, sh_52, sh_53, sh_54, sh_55, sh_56, sh_57, sh_58, sh_59, sh_60, ct_0, ct_1, ct_2, ct_3, ct_4, ct_5, ct_6, ct_7, ct_8, ct_9, ct_10, ct_11, ct_12, ct_13, ct_14, ct_20, ct_21, ct_22, ct_23, ct_24, ct_25, ct_30, ct_31, ct_32, ct_40, ct_41, ct_42, ct_43, ct_44, ct_45, ct_46, ct_47, ct_48, ct_49, ct_50, ct_51, ct_52, ct_53, ct_54, ct_55, ct_56, ct_57, ct_58, ct_59, ct_60, ki_m1, ki_0, ki_1, ki_2, ki_3, ki_4, ki_5, kb_m2, kb_m3, kb_m4, kb_m8, kb_m9, kb_10, kb_100, kb_16, kb_36, kb_6, kb_63, kb_8, kb_9, kb_99, ks_216, ks_2520, ks_256, ks_800, kl_0, kl_1, ↓reduceIte, reduceCtorEq, Nat.reduceAdd, Nat.reduceLT, Nat.reduceLeDiff, Nat.reduceEqDiff, List.map_cons, List.map_nil, List.sum_cons, List.sum_nil, List.cons_append, List.nil_append, Option.toList_some, Option.toList_none, true_and, and_true, true_or, or_true, not_true_eq_false, not_false_eq_true, Nat.lt_add_one, Nat.zero_le, eq_self, or_false, false_or, implies_true, forall_const, false_implies, forall_false, true_implies, and_self, Nat.zero_lt_one, Nat.add_zero, Nat.zero_add, Int32.reduceLT, Int32.reduceLE, Int32.reduceAdd, Int32.reduceSub, Int32.reduceMul, e10, e01, ite_self, ab_mx, ab_mi, ab_mb, ab_ml2, rX8_coins_159, rX8_coins_160, rX8_coins_161, rX8_coins_162, rX8_coins_273, rX8_coins_274, rX8_coins_277, rX8_coins_278, rX8_coins_279, rX8_coins_280, rX8_coins_281, rX8_coins_282, rX8_coins_283, rX8_coins_285, rX8_coins_287, rX8_coins_290, rX8_coins_292, rX8_coins_295, rX8_coins_296, rX8_coins_298, rX8_coins_299, hst, q, v1, n1, hw, qa]
        exact Y
      · have qa : (0 : Int32) ≤ w := Int32.le_iff_toInt_le.mpr (by rw [t0i]; omega)
        have Y := Z (x3 - w) (by rw [if_neg a, i32_sub (by omega) (by omega), hn])
        simp only [ab_loc, ab_cat, ab_kil, ab_al, ab_ln, ab_lnp, ab_rf, sh_0, sh_1, sh_2, sh_3, sh_4, sh_5, sh_6, sh_7, sh_8, sh_9, sh_10, sh_11, sh_12, sh_13, sh_14, sh_20, sh_21, sh_22, sh_23, sh_24, sh_25, sh_30, sh_31, sh_32, sh_40, sh_41, sh_42, sh_43, sh_44, sh_45, sh_46, sh_47, sh_48, sh_49, sh_50, sh_51, sh_52, sh_53, sh_54, sh_55, sh_56, sh_57, sh_58, sh_59, sh_60, ct_0, ct_1, ct_2, ct_3, ct_4, ct_5, ct_6, ct_7, ct_8, ct_9, ct_10, ct_11, ct_12, ct_13, ct_14, ct_20, ct_21, ct_22, ct_23, ct_24, ct_25, ct_30, ct_31, ct_32, ct_40, ct_41, ct_42, ct_43, ct_44, ct_45, ct_46, ct_47, ct_48, ct_49, ct_50, ct_51, ct_52, ct_53, ct_54, ct_55, ct_56, ct_57, ct_58, ct_59, ct_60, ki_m1, ki_0, ki_1, ki_2, ki_3, ki_4, ki_5, kb_m2, kb_m3, kb_m4, kb_m8, kb_m9, kb_10, kb_100, kb_16, kb_36, kb_6, kb_63, kb_8, kb_9, kb_99, ks_216, ks_2520, ks_256, ks_800, kl_0, kl_1, ↓reduceIte, reduceCtorEq, Nat.reduceAdd, Nat.reduceLT, Nat.reduceLeDiff, Nat.reduceEqDiff, List.map_cons, List.map_nil, List.sum_cons, List.sum_nil, List.cons_append, List.nil_append, Option.toList_some, Option.toList_none, true_and, and_true, true_or, or_true, not_true_eq_false, not_false_eq_true, Nat.lt_add_one, Nat.zero_le, eq_self, or_false, false_or, implies_true, forall_const, false_implies, forall_false, true_implies, and_self, Nat.zero_lt_one, Nat.add_zero, Nat.zero_add, Int32.reduceLT, Int32.reduceLE, Int32.reduceAdd, Int32.reduceSub, Int32.reduceMul, e10, e01, ite_self, ab_mx, ab_mi, ab_mb, ab_ml2, rX8_coins_159, rX8_coins_160, rX8_coins_161, rX8_coins_162, rX8_coins_273, rX8_coins_274, rX8_coins_277, rX8_coins_278, rX8_coins_279, rX8_coins_280, rX8_coins_281, rX8_coins_282, rX8_coins_283, rX8_coins_285, rX8_coins_287, rX8_coins_290, rX8_coins_292, rX8_coins_295, rX8_coins_296, rX8_coins_298, rX8_coins_299, hst, q, v1, n1, hw, qa]
        exact Y
    | succ r ih =>
      intro S se d l5 l6 er S0 hse fd hg hc
      have q : ¬ st ≤ se := fun w => by have w := le32 w; omega
      have e2 : (se + 1).toInt = (S + 1 : Nat) := by rw [i32_p1 (by omega)]; omega
      have vS : vp_in se 256 := vp_of (by omega) (by omega)
      have nS : se.toNatClampNeg = S := by show se.toInt.toNat = S; omega
      have S256 : S < 256 := by omega
      have fe : fr grS σ (ab_si d 55 0 S (-9)) := fd.si 55 0 _ rfl (i32_lo _) (i32_hi _)
      have k1 : ∀ s, s < S → (ab_si d 55 0 S (-9)).1 55 0 s = d.1 55 0 s := fun s h => sn_ij (by omega)
      have kS : (ab_si d 55 0 S (-9)).1 55 0 S = -9 := sn_ie
      rw [rX8_coins_157]
      simp only [ab_loc, ab_cat, ab_kil, ab_al, ab_ln, ab_lnp, ab_rf, sh_0, sh_1, sh_2, sh_3, sh_4, sh_5, sh_6, sh_7, sh_8, sh_9, sh_10, sh_11, sh_12, sh_13, sh_14, sh_20, sh_21, sh_22, sh_23, sh_24, sh_25, sh_30, sh_31, sh_32, sh_40, sh_41, sh_42, sh_43, sh_44, sh_45, sh_46, sh_47, sh_48, sh_49, sh_50, sh_51, sh_52, sh_53, sh_54, sh_55, sh_56, sh_57, sh_58, sh_59, sh_60, ct_0, ct_1, ct_2, ct_3, ct_4, ct_5, ct_6, ct_7, ct_8, ct_9, ct_10, ct_11, ct_12, ct_13, ct_14, ct_20, ct_21, ct_22, ct_23, ct_24, ct_25, ct_30, ct_31, ct_32, ct_40, ct_41, ct_42, ct_43, ct_44, ct_45, ct_46, ct_47, ct_48, ct_49, ct_50, ct_51, ct_52, ct_53, ct_54, ct_55, ct_56, ct_57, ct_58, ct_59, ct_60, ki_m1, ki_0, ki_1, ki_2, ki_3, ki_4, ki_5, kb_m2, kb_m3, kb_m4, kb_m8, kb_m9, kb_10, kb_100, kb_16, kb_36, kb_6, kb_63, kb_8, kb_9, kb_99, ks_216, ks_2520, ks_256, ks_800, kl_0, kl_1, ↓reduceIte, reduceCtorEq, Nat.reduceAdd, Nat.reduceLT, Nat.reduceLeDiff, Nat.reduceEqDiff, List.map_cons, List.map_nil, List.sum_cons, List.sum_nil, List.cons_append, List.nil_append, Option.toList_some, Option.toList_none, true_and, and_true, true_or, or_true, not_true_eq_false, not_false_eq_true, Nat.lt_add_one, Nat.zero_le, eq_self, or_false, false_or, implies_true, forall_const, false_implies, forall_false, true_implies, and_self, Nat.zero_lt_one, Nat.add_zero, Nat.zero_add, Int32.reduceLT, Int32.reduceLE, Int32.reduceAdd, Int32.reduceSub, Int32.reduceMul, e10, e01, ite_self, ab_mx, ab_mi, ab_mb, ab_ml2, rX8_coins_159, rX8_coins_160, rX8_coins_161, rX8_coins_162, rX8_coins_165, rX8_coins_166, rX8_coins_169, rX8_coins_171, rX8_coins_173, rX8_coins_174, rX8_coins_176, hst, q, vS, nS]
      generalize ab_si d 55 0 S (-9) = e at fe k1 kS ⊢
      refine rc_in (R := fun s => (d.1 55 0 s).toInt) (D := D) fe.1 n8 hn (fun k hk => by rw [(fe.2 54 0 k rfl).1]; exact hD k hk) bD hse S256 (fun s h => ⟨by rw [k1 s h], (hg s h).2⟩) (fun f so l6 ff h1 h2 => ?_) 256 S se e (-9) l6 (by omega) hse S256 (Nat.and_self _) (fr.rf fe.1) (fun s h => rfl) (by rw [kS]; rfl) (by decide) (by decide) rfl
      have mp := rg_p (ev := evF D n) (R := fun s => (d.1 55 0 s).toInt) (s := S) (l := slF S 256 S) (m := -9)
      have up : (f.1 55 0 S).toInt ≤ S := by
        rw [h2]
        rcases mp.2.2 with w | ⟨x, w1, w2, w3, w4, w5⟩
        · omega
        · obtain ⟨k1', k2⟩ := (sl_mem S256).mp w1
          have lt := ((xr_sb S S256 x k1' k2).2.2 w2).1
          have G : (d.1 55 0 (S ^^^ x)).toInt ≤ (S ^^^ x : Nat) := (hg _ lt).2.2
          rw [w5]
          show (d.1 55 0 (S ^^^ x)).toInt + 1 ≤ (S : Int)
          omega
      have lo : -9 ≤ (f.1 55 0 S).toInt := by rw [h2]; exact mp.1
      have sm : ∀ s, s < S → f.1 55 0 s = d.1 55 0 s := fun s h => (h1 s h).trans (k1 s h)
      have Z := ih (S + 1) (se + 1) f (some (.inl (.inl so))) l6 (by omega) (by omega) e2 (fe.tr ff) (fun s h => by
        refine ⟨rfl, ?_⟩
        show -9 ≤ (f.1 55 0 s).toInt ∧ (f.1 55 0 s).toInt ≤ (s : Int)
        by_cases z : s = S
        · rw [z]; exact ⟨lo, up⟩
        · rw [sm s (by omega)]; exact (hg s (by omega)).2) (rg_e S0 S256 hc (fun s h => by
        show (f.1 55 0 s).toInt = (d.1 55 0 s).toInt
        rw [sm s h]) h2)
      simp only [ab_loc, ab_cat, ab_kil, ab_al, ab_ln, ab_lnp, ab_rf, sh_0, sh_1, sh_2, sh_3, sh_4, sh_5, sh_6, sh_7, sh_8, sh_9, sh_10, sh_11, sh_12, sh_13, sh_14, sh_20, sh_21, sh_22, sh_23, sh_24, sh_25, sh_30, sh_31, sh_32, sh_40, sh_41, sh_42, sh_43, sh_44, sh_45, sh_46, sh_47, sh_48, sh_49, sh_50, sh_51, sh_52, sh_53, sh_54, sh_55, sh_56, sh_57, sh_58, sh_59, sh_60, ct_0, ct_1, ct_2, ct_3, ct_4, ct_5, ct_6, ct_7, ct_8, ct_9, ct_10, ct_11, ct_12, ct_13, ct_14, ct_20, ct_21, ct_22, ct_23, ct_24, ct_25, ct_30, ct_31, ct_32, ct_40, ct_41, ct_42, ct_43, ct_44, ct_45, ct_46, ct_47, ct_48, ct_49, ct_50, ct_51, ct_52, ct_53, ct_54, ct_55, ct_56, ct_57, ct_58, ct_59, ct_60, ki_m1, ki_0, ki_1, ki_2, ki_3, ki_4, ki_5, kb_m2, kb_m3, kb_m4, kb_m8, kb_m9, kb_10, kb_100, kb_16, kb_36, kb_6, kb_63, kb_8, kb_9, kb_99, ks_216, ks_2520, ks_256, ks_800, kl_0, kl_1, ↓reduceIte, reduceCtorEq, Nat.reduceAdd, Nat.reduceLT, Nat.reduceLeDiff, Nat.reduceEqDiff, List.map_cons, List.map_nil, List.sum_cons, List.sum_nil, List.cons_append, List.nil_append, Option.toList_some, Option.toList_none, true_and, and_true, true_or, or_true, not_true_eq_false, not_false_eq_true, Nat.lt_add_one, Nat.zero_le, eq_self, or_false, false_or, implies_true, forall_const, false_implies, forall_false, true_implies, and_self, Nat.zero_lt_one, Nat.add_zero, Nat.zero_add, Int32.reduceLT, Int32.reduceLE, Int32.reduceAdd, Int32.reduceSub, Int32.reduceMul, e10, e01, ite_self, ab_mx, ab_mi, ab_mb, ab_ml2, rX8_coins_267, rX8_coins_270]
      exact Z
  have w : (ab_si σ 55 0 0 0).1 55 0 0 = 0 := sn_ie
  have Z := loop (2 ^ n - 1) 1 1 (ab_si σ 55 0 0 0) none none (by omega) (by decide) rfl ((fr.rf hr).si 55 0 0 rfl (i32_lo _) (i32_hi _)) (fun s h => by
    have z : s = 0 := by omega
    subst z
    show ((ab_si σ 55 0 0 0).1 55 0 0).toInt = ((ab_si σ 55 0 0 0).1 55 0 0).toInt ∧ -9 ≤ ((ab_si σ 55 0 0 0).1 55 0 0).toInt ∧ ((ab_si σ 55 0 0 0).1 55 0 0).toInt ≤ ((0 : Nat) : Int)
    rw [w]
    exact ⟨rfl, by decide, by decide⟩) ⟨by
    show ((ab_si σ 55 0 0 0).1 55 0 0).toInt = 0
    rw [w]
    rfl, fun s a b => by omega, fun s a b => by omega⟩
  simp only [ab_loc, ab_cat, ab_kil, ab_al, ab_ln, ab_lnp, ab_rf, sh_0, sh_1, sh_2, sh_3, sh_4, sh_5, sh_6, sh_7, sh_8, sh_9, sh_10, sh_11, sh_12, sh_13, sh_14, sh_20, sh_21, sh_22, sh_23, sh_24, sh_25, sh_30, sh_31, sh_32, sh_40, sh_41, sh_42, sh_43, sh_44, sh_45, sh_46, sh_47, sh_48, sh_49, sh_50, sh_51, sh_52, sh_53, sh_54, sh_55, sh_56, sh_57, sh_58, sh_59, sh_60, ct_0, ct_1, ct_2, ct_3, ct_4, ct_5, ct_6, ct_7, ct_8, ct_9, ct_10, ct_11, ct_12, ct_13, ct_14, ct_20, ct_21, ct_22, ct_23, ct_24, ct_25, ct_30, ct_31, ct_32, ct_40, ct_41, ct_42, ct_43, ct_44, ct_45, ct_46, ct_47, ct_48, ct_49, ct_50, ct_51, ct_52, ct_53, ct_54, ct_55, ct_56, ct_57, ct_58, ct_59, ct_60, ki_m1, ki_0, ki_1, ki_2, ki_3, ki_4, ki_5, kb_m2, kb_m3, kb_m4, kb_m8, kb_m9, kb_10, kb_100, kb_16, kb_36, kb_6, kb_63, kb_8, kb_9, kb_99, ks_216, ks_2520, ks_256, ks_800, kl_0, kl_1, ↓reduceIte, reduceCtorEq, Nat.reduceAdd, Nat.reduceLT, Nat.reduceLeDiff, Nat.reduceEqDiff, List.map_cons, List.map_nil, List.sum_cons, List.sum_nil, List.cons_append, List.nil_append, Option.toList_some, Option.toList_none, true_and, and_true, true_or, or_true, not_true_eq_false, not_false_eq_true, Nat.lt_add_one, Nat.zero_le, eq_self, or_false, false_or, implies_true, forall_const, false_implies, forall_false, true_implies, and_self, Nat.zero_lt_one, Nat.add_zero, Nat.zero_add, Int32.reduceLT, Int32.reduceLE, Int32.reduceAdd, Int32.reduceSub, Int32.reduceMul, e10, e01, ite_self, ab_mx, ab_mi, ab_mb, ab_ml2, rX8_coins_147, rX8_coins_148, rX8_coins_151, rX8_coins_152, rX8_coins_153, rX8_coins_154, rX8_coins_155, v0, n0]
  exact Z
