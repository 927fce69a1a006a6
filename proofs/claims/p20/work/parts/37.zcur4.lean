/-! curves: the reference lays a town -/
def laS (s k _ j : Nat) : Bool := ((Nat.beq k 47 || Nat.beq k 48) && (Nat.ble (8 * s) j && Nat.ble (j + 1) (8 * s + 8))) || ((Nat.beq k 49 || Nat.beq k 50 || Nat.beq k 51) && Nat.beq j s)
theorem la_4 {s i j : Nat} (h : j < 8) : laS s 47 i (8 * s + j) = true ∧ laS s 48 i (8 * s + j) = true := by
  have a : Nat.ble (8 * s) (8 * s + j) = true := Nat.ble_eq_true_of_le (by omega)
  have b : Nat.ble (8 * s + j + 1) (8 * s + 8) = true := Nat.ble_eq_true_of_le (by omega)
  unfold laS
  rw [a, b]
  exact ⟨rfl, rfl⟩
theorem la_5 {s i : Nat} : laS s 49 i s = true ∧ laS s 50 i s = true ∧ laS s 51 i s = true := by
  have a : Nat.beq s s = true := Nat.beq_refl s
  unfold laS
  rw [a]
  exact ⟨rfl, rfl, rfl⟩
theorem la_w {s : Nat} : ∀ k i j, laS s k i j = true → ck_wr 0 k j = true := fun k i j h => by
  rcases (Bool.or_eq_true _ _).mp h with h | h
  · have h := ((Bool.and_eq_true _ _).mp h).1
    rcases (Bool.or_eq_true _ _).mp h with h | h
    · rw [Nat.eq_of_beq_eq_true h]; rfl
    · rw [Nat.eq_of_beq_eq_true h]; rfl
  · have h := ((Bool.and_eq_true _ _).mp h).1
    rcases (Bool.or_eq_true _ _).mp h with h | h
    · rcases (Bool.or_eq_true _ _).mp h with h | h
      · rw [Nat.eq_of_beq_eq_true h]; rfl
      · rw [Nat.eq_of_beq_eq_true h]; rfl
    · rw [Nat.eq_of_beq_eq_true h]; rfl
theorem ix8q {x k : Int32} {m : Nat} (h0 : 0 ≤ x.toInt) (h1 : x.toInt ≤ 1) (hk : k.toInt = m) (h8 : m < 8) : vp_in (8 * x + k) 16 ∧ (8 * x + k).toNatClampNeg = 8 * x.toNatClampNeg + m := by
  have a := ix8n (x := x) (k := k) h0 (by omega) (by omega) (by omega)
  exact ⟨ix8 h0 (by omega) (by omega) (by omega) (by omega), by rw [a, hk]; rfl⟩
theorem ix8p {x k : Int32} {m : Nat} (h0 : 0 ≤ x.toInt) (h1 : x.toInt ≤ 1) (hk : k.toInt = (m + 1 : Nat)) (h8 : m < 7) : vp_in (8 * x + k - 1) 16 ∧ (8 * x + k - 1).toNatClampNeg = 8 * x.toNatClampNeg + m := by
  have e8 : (8 : Int32).toInt = 8 := rfl
  have ea : (8 * x).toInt = 8 * x.toInt := by rw [i32_mul (by rw [e8]; omega) (by rw [e8]; omega), e8]
  have es : (8 * x + k).toInt = 8 * x.toInt + k.toInt := by rw [i32_add (by omega) (by omega), ea]
  have es1 : (8 * x + k - 1).toInt = 8 * x.toInt + m := by rw [i32_m1 (by omega), es, hk]; omega
  have n2 : x.toNatClampNeg = x.toInt.toNat := rfl
  exact ⟨vp_of (by omega) (by omega), by show (8 * x + k - 1).toInt.toNat = _; omega⟩
def lyJ (σ c : ab_S) (s t : Nat) (sc : Int) (g z : Nat → Int) (f : Nat) : Prop := fr (laS s) σ c ∧ c.1 49 0 s = σ.1 41 0 t ∧ (c.1 50 0 s).toInt = hdI sc z f ∧ (c.2 51 0 s).toInt = alI sc g z f
def lyR (c : ab_S) (s : Nat) (E W : Nat → Int) (m n : Nat) : Prop := (∀ j, j < m → (c.2 48 0 (8 * s + j)).toInt = E j ∧ (c.1 47 0 (8 * s + j)).toInt = W j) ∧ ∀ j, m < j → j < n → (c.2 48 0 (8 * s + j)).toInt = E (j - 1) ∧ (c.1 47 0 (8 * s + j)).toInt = W (j - 1)
set_option maxRecDepth 100000 in
set_option maxHeartbeats 1000000 in
theorem ly_in {σ : ab_S} {P : ab_P} {x1 x2 x3 f s5 : Int32} {v : Int64} {sc : Int} {g z : Nat → Int} {t F : Nat} (l1 : 0 ≤ x1.toInt) (m1 : x1.toInt ≤ 1) (eF : f.toInt = F) (F8 : F < 8) (hv : v.toInt = hvI sc g z F) (hs : s5.toInt = wvI sc z F) (bv : 0 ≤ hvI sc g z F ∧ hvI sc g z F ≤ 249480) (bs : 1 ≤ wvI sc z F ∧ wvI sc z F ≤ 9) (bh : 0 ≤ hdI sc z F ∧ hdI sc z F ≤ 9 * F) (ba : 0 ≤ alI sc g z F ∧ alI sc g z F ≤ 2245320 * F) (nxt : ∀ (c : ab_S) (l5 l6 l7 l8 : Option ab_V), lyJ σ c x1.toNatClampNeg t sc g z (F + 1) → (∀ j, j < F + 1 → (c.2 48 0 (8 * x1.toNatClampNeg + j)).toInt = (srt sc g z (F + 1)).1 j ∧ (c.1 47 0 (8 * x1.toNatClampNeg + j)).toInt = (srt sc g z (F + 1)).2 j) → ab_wp mX8_lay cX8_lay none P 29 [some (.inr (some (40, 0))), some (.inl (.inl x1)), some (.inl (.inl x2)), some (.inl (.inl x3)), some (.inl (.inl (f + 1))), l5, l6, l7, l8] [] c) : ∀ (m : Nat) (k : Int32) (c : ab_S), k.toInt = m → m ≤ F → plc (srt sc g z F).1 (hvI sc g z F) F = plc (srt sc g z F).1 (hvI sc g z F) m → lyJ σ c x1.toNatClampNeg t sc g z F → lyR c x1.toNatClampNeg (srt sc g z F).1 (srt sc g z F).2 m (F + 1) → ab_wp mX8_lay cX8_lay none P 123 [some (.inr (some (40, 0))), some (.inl (.inl x1)), some (.inl (.inl x2)), some (.inl (.inl x3)), some (.inl (.inl f)), some (.inl (.inl s5)), some (.inl (.inr v)), none, some (.inl (.inl k))] [] c := by
  have v1 : vp_in x1 2 := vp_of l1 (by omega)
  have p0 : 0 ≤ hvI sc g z F * wvI sc z F := Int.mul_nonneg bv.1 (by omega)
  have p1 : hvI sc g z F * wvI sc z F ≤ 249480 * 9 := Int.mul_le_mul bv.2 bs.2 (by omega) (by decide)
  have ep : (s5.toInt64 * v).toInt = hvI sc g z F * wvI sc z F := by
    have e : s5.toInt64.toInt * v.toInt = hvI sc g z F * wvI sc z F := by rw [l64, hs, hv, Int.mul_comm]
    rw [i64_mul (by rw [e]; omega) (by rw [e]; omega), e]
  have sE : ∀ j, (srt sc g z (F + 1)).1 j = ins (srt sc g z F).1 (plc (srt sc g z F).1 (hvI sc g z F) F) (hvI sc g z F) j := fun _ => rfl
  have sW : ∀ j, (srt sc g z (F + 1)).2 j = ins (srt sc g z F).2 (plc (srt sc g z F).1 (hvI sc g z F) F) (wvI sc z F) j := fun _ => rfl
  have h1 : hdI sc z (F + 1) = hdI sc z F + wvI sc z F := rfl
  have h2 : alI sc g z (F + 1) = alI sc g z F + hvI sc g z F * wvI sc z F := rfl
  obtain ⟨E, eE⟩ : ∃ E, (srt sc g z F).1 = E := ⟨_, rfl⟩
  obtain ⟨W, eW⟩ : ∃ W, (srt sc g z F).2 = W := ⟨_, rfl⟩
  rw [eE, eW]
  rw [eE] at sE sW
  rw [eW] at sW
  have tail : ∀ (m : Nat) (k : Int32) (c : ab_S), k.toInt = m → m ≤ F → plc E (hvI sc g z F) F = m → lyJ σ c x1.toNatClampNeg t sc g z F → lyR c x1.toNatClampNeg E W m (F + 1) → ab_wp mX8_lay cX8_lay none P 206 [some (.inr (some (40, 0))), some (.inl (.inl x1)), some (.inl (.inl x2)), some (.inl (.inl x3)), some (.inl (.inl f)), some (.inl (.inl s5)), some (.inl (.inr v)), none, some (.inl (.inl k))] [] c := by
    intro m k c ek km hp hc hr
    obtain ⟨vk, nk⟩ := ix8q l1 m1 ek (show m < 8 by omega)
    have T := la_4 (s := x1.toNatClampNeg) (i := 0) (show m < 8 by omega)
    have U := la_5 (s := x1.toNatClampNeg) (i := 0)
    have eh : (c.1 50 0 x1.toNatClampNeg + s5).toInt = hdI sc z (F + 1) := by rw [i32_add (by rw [hc.2.2.1, hs]; omega) (by rw [hc.2.2.1, hs]; omega), hc.2.2.1, hs, h1]
    have ea : (c.2 51 0 x1.toNatClampNeg + s5.toInt64 * v).toInt = alI sc g z (F + 1) := by rw [i64_add (by rw [hc.2.2.2, ep]; omega) (by rw [hc.2.2.2, ep]; omega), hc.2.2.2, ep, h2]
    have K := nxt (ab_sl (ab_si (ab_si (ab_sl c 48 0 (8 * x1.toNatClampNeg + m) v) 47 0 (8 * x1.toNatClampNeg + m) s5) 50 0 x1.toNatClampNeg (c.1 50 0 x1.toNatClampNeg + s5)) 51 0 x1.toNatClampNeg (c.2 51 0 x1.toNatClampNeg + s5.toInt64 * v)) (some (.inl (.inl s5))) (some (.inl (.inr v))) none (some (.inl (.inl k))) ⟨((((hc.1.sl 48 0 _ T.2).si 47 0 _ T.1 (i32_lo _) (i32_hi _)).si 50 0 _ U.2.1 (i32_lo _) (i32_hi _)).sl 51 0 _ U.2.2), by
        rw [sn_li, sn_ii (by decide), sn_ii (by decide), sn_li]; exact hc.2.1, by
        rw [sn_li, sn_ie]; exact eh, by
        rw [sn_le]; exact ea⟩ (fun j hj => by
        rw [sn_ll (by decide), sn_il, sn_il, sn_li, sn_ii (by decide), sE, sW, hp]
        unfold ins
        by_cases a : j < m
        · rw [if_pos a, if_pos a, sn_lj (by omega), sn_ij (by omega), sn_li]; exact hr.1 j a
        · rw [if_neg a, if_neg a]
          by_cases b : j = m
          · rw [if_pos b, if_pos b, b, sn_le, sn_ie]; exact ⟨hv, hs⟩
          · rw [if_neg b, if_neg b, sn_lj (by omega), sn_ij (by omega), sn_li]; exact hr.2 j (by omega) hj)
    simp only [ab_loc, ab_cat, ab_kil, ab_al, ab_ln, ab_lnp, ab_rf, sh_0, sh_1, sh_2, sh_3, sh_4, sh_5, sh_6, sh_7, sh_8, sh_9, sh_10, sh_11, sh_12, sh_13, sh_14, sh_20, sh_21, sh_22, sh_23, sh_24, sh_25, sh_30, sh_31, sh_32, sh_40, sh_41, sh_42, sh_43, sh_44, sh_45, sh_46, sh_47, sh_48, sh_49, sh_50, sh_51, sh_52, sh_53, sh_54, sh_55, sh_56, sh_57, sh_58, sh_59, sh_60, ct_0, ct_1, ct_2, ct_3, ct_4, ct_5, ct_6, ct_7, ct_8, ct_9, ct_10, ct_11, ct_12, ct_13, ct_14, ct_20, ct_21, ct_22, ct_23, ct_24, ct_25, ct_30, ct_31, ct_32, ct_40, ct_41, ct_42, ct_43, ct_44, ct_45, ct_46, ct_47, ct_48, ct_49, ct_50, ct_51, ct_52, ct_53, ct_54, ct_55, ct_56, ct_57, ct_58, ct_59, ct_60, ki_m1, ki_0, ki_1, ki_2, ki_3, ki_4, ki_5, kb_m2, kb_m3, kb_m4, kb_m8, kb_m9, kb_10, kb_100, kb_16, kb_36, kb_6, kb_63, kb_8, kb_9, kb_99, ks_216, ks_2520, ks_256, ks_800, kl_0, kl_1, ↓reduceIte, reduceCtorEq, Nat.reduceAdd, Nat.reduceLT, Nat.reduceLeDiff, Nat.reduceEqDiff, List.map_cons, List.map_nil, List.sum_cons, List.sum_nil, List.cons_append, List.nil_append, Option.toList_some, Option.toList_none, true_and, and_true, true_or, or_true, not_true_eq_false, not_false_eq_true, Nat.lt_add_one, Nat.zero_le, eq_self, or_false, false_or, implies_true, forall_const, false_implies, forall_false, true_implies, and_self, Nat.zero_lt_one, Nat.add_zero, Nat.zero_add, Int32.reduceLT, Int32.reduceLE, Int32.reduceAdd, Int32.reduceSub, Int32.reduceMul, e10, e01, ite_self, ab_mx, ab_mi, ab_mb, ab_ml2, rX8_lay_206, rX8_lay_207, rX8_lay_210, rX8_lay_212, rX8_lay_213, rX8_lay_214, rX8_lay_216, rX8_lay_217, rX8_lay_219, rX8_lay_220, rX8_lay_221, rX8_lay_224, rX8_lay_226, rX8_lay_227, rX8_lay_228, rX8_lay_230, rX8_lay_231, rX8_lay_233, rX8_lay_234, rX8_lay_235, rX8_lay_238, rX8_lay_239a, rX8_lay_239l, rX8_lay_240, rX8_lay_241, rX8_lay_243, rX8_lay_244, rX8_lay_245, rX8_lay_246, rX8_lay_249, rX8_lay_250a, rX8_lay_250l, rX8_lay_251, rX8_lay_252, rX8_lay_254, rX8_lay_255, rX8_lay_257, rX8_lay_258, rX8_lay_259, rX8_lay_260, rX8_lay_263, v1, vk, nk, sn_ii, sn_il, sn_li, sn_ll]
    exact K
  intro m
  induction m with
  | zero =>
    intro k c ek km hp hc hr
    have c2 : k ≤ 0 := Int32.le_iff_toInt_le.mpr (by rw [t0i]; omega)
    rw [rX8_lay_123, rX8_lay_125, if_pos c2]
    exact tail 0 k c ek km hp hc hr
  | succ m ih =>
    intro k c ek km hp hc hr
    have c2 : ¬ k ≤ 0 := fun q => by have q := le32 q; rw [t0i] at q; omega
    obtain ⟨vk, nk⟩ := ix8q l1 m1 ek (show m + 1 < 8 by omega)
    obtain ⟨vk1, nk1⟩ := ix8p l1 m1 ek (by omega)
    have T := la_4 (s := x1.toNatClampNeg) (i := 0) (show m + 1 < 8 by omega)
    have lom := hr.1 m (by omega)
    have hp' : plc E (hvI sc g z F) (m + 1) = if hvI sc g z F < E m then plc E (hvI sc g z F) m else m + 1 := rfl
    by_cases a : hvI sc g z F < E m
    · have b : (lg_cmp (c.2 48 0 (8 * x1.toNatClampNeg + m)) v ≤ 0) = False := by rw [lcle, lom.1, hv]; exact eq_false (by omega)
      rw [if_pos a] at hp'
      have K := ih (k + -1) (ab_si (ab_sl c 48 0 (8 * x1.toNatClampNeg + (m + 1)) (c.2 48 0 (8 * x1.toNatClampNeg + m))) 47 0 (8 * x1.toNatClampNeg + (m + 1)) (c.1 47 0 (8 * x1.toNatClampNeg + m))) (dc_of ek) (by omega) (hp.trans hp') ⟨(hc.1.sl 48 0 _ T.2).si 47 0 _ T.1 (i32_lo _) (i32_hi _), by rw [sn_ii (by decide), sn_li]; exact hc.2.1, by rw [sn_ii (by decide), sn_li]; exact hc.2.2.1, by rw [sn_il, sn_ll (by decide)]; exact hc.2.2.2⟩ ⟨fun j hj => by
        rw [sn_il, sn_lj (by omega), sn_ij (by omega), sn_li]
        exact hr.1 j (by omega), fun j hj hj' => by
        rw [sn_il]
        by_cases e : j = m + 1
        · rw [e, sn_le, sn_ie]; exact lom
        · rw [sn_lj (by omega), sn_ij (by omega), sn_li]; exact hr.2 j (by omega) hj'⟩
      rw [rX8_lay_123]
      simp only [ab_loc, ab_cat, ab_kil, ab_al, ab_ln, ab_lnp, ab_rf, sh_0, sh_1, sh_2, sh_3, sh_4, sh_5, sh_6, sh_7, sh_8, sh_9, sh_10, sh_11, sh_12, sh_13, sh_14, sh_20, sh_21, sh_22, sh_23, sh_24, sh_25, sh_30, sh_31, sh_32, sh_40, sh_41, sh_42, sh_43, sh_44, sh_45, sh_46, sh_47, sh_48, sh_49, sh_50, sh_51, sh_52, sh_53, sh_54, sh_55, sh_56, sh_57, sh_58, sh_59, sh_60, ct_0, ct_1, ct_2, ct_3, ct_4, ct_5, ct_6, ct_7, ct_8, ct_9, ct_10, ct_11, ct_12, ct_13, ct_14, ct_20, ct_21, ct_22, ct_23, ct_24, ct_25, ct_30, ct_31, ct_32, ct_40, ct_41, ct_42, ct_43, ct_44, ct_45, ct_46, ct_47, ct_48, ct_49, ct_50, ct_51, ct_52, ct_53, ct_54, ct_55, ct_56, ct_57, ct_58, ct_59, ct_60, ki_m1, ki_0, ki_1, ki_2, ki_3, ki_4, ki_5, kb_m2, kb_m3, kb_m4, kb_m8, kb_m9, kb_10, kb_100, kb_16, kb_36, kb_6, kb_63, kb_8, kb_9, kb_99, ks_216, ks_2520, ks_256, ks_800, kl_0, kl_1, ↓reduceIte, reduceCtorEq, Nat.reduceAdd, Nat.reduceLT, Nat.reduceLeDiff, Nat.reduceEqDiff, List.map_cons, List.map_nil, List.sum_cons, List.sum_nil, List.cons_append, List.nil_append, Option.toList_some, Option.toList_none, true_and, and_true, true_or, or_true, not_true_eq_false, not_false_eq_true, Nat.lt_add_one, Nat.zero_le, eq_self, or_false, false_or, implies_true, forall_const, false_implies, forall_false, true_implies, and_self, Nat.zero_lt_one, Nat.add_zero, Nat.zero_add, Int32.reduceLT, Int32.reduceLE, Int32.reduceAdd, Int32.reduceSub, Int32.reduceMul, e10, e01, ite_self, ab_mx, ab_mi, ab_mb, ab_ml2, rX8_lay_125, rX8_lay_128, rX8_lay_129, rX8_lay_132, rX8_lay_134, rX8_lay_135, rX8_lay_136, rX8_lay_138, rX8_lay_139, rX8_lay_140, rX8_lay_141, rX8_lay_142, rX8_lay_144, rX8_lay_145, rX8_lay_148, rX8_lay_149, rX8_lay_152, rX8_lay_154, rX8_lay_155, rX8_lay_156, rX8_lay_158, rX8_lay_159, rX8_lay_160, rX8_lay_163, rX8_lay_165, rX8_lay_166, rX8_lay_167, rX8_lay_169, rX8_lay_170, rX8_lay_171, rX8_lay_172, rX8_lay_173, rX8_lay_174, rX8_lay_175, rX8_lay_178, rX8_lay_180, rX8_lay_181, rX8_lay_182, rX8_lay_184, rX8_lay_185, rX8_lay_186, rX8_lay_189, rX8_lay_191, rX8_lay_192, rX8_lay_193, rX8_lay_195, rX8_lay_196, rX8_lay_197, rX8_lay_198, rX8_lay_199, rX8_lay_200, rX8_lay_203, vk, vk1, nk, nk1, c2, b, sn_li]
      exact K
    · have b : (lg_cmp (c.2 48 0 (8 * x1.toNatClampNeg + m)) v ≤ 0) = True := by rw [lcle, lom.1, hv]; exact eq_true (by omega)
      rw [if_neg a] at hp'
      have K := tail (m + 1) k c ek km (hp.trans hp') hc hr
      rw [rX8_lay_123]
      simp only [ab_loc, ab_cat, ab_kil, ab_al, ab_ln, ab_lnp, ab_rf, sh_0, sh_1, sh_2, sh_3, sh_4, sh_5, sh_6, sh_7, sh_8, sh_9, sh_10, sh_11, sh_12, sh_13, sh_14, sh_20, sh_21, sh_22, sh_23, sh_24, sh_25, sh_30, sh_31, sh_32, sh_40, sh_41, sh_42, sh_43, sh_44, sh_45, sh_46, sh_47, sh_48, sh_49, sh_50, sh_51, sh_52, sh_53, sh_54, sh_55, sh_56, sh_57, sh_58, sh_59, sh_60, ct_0, ct_1, ct_2, ct_3, ct_4, ct_5, ct_6, ct_7, ct_8, ct_9, ct_10, ct_11, ct_12, ct_13, ct_14, ct_20, ct_21, ct_22, ct_23, ct_24, ct_25, ct_30, ct_31, ct_32, ct_40, ct_41, ct_42, ct_43, ct_44, ct_45, ct_46, ct_47, ct_48, ct_49, ct_50, ct_51, ct_52, ct_53, ct_54, ct_55, ct_56, ct_57, ct_58, ct_59, ct_60, ki_m1, ki_0, ki_1, ki_2, ki_3, ki_4, ki_5, kb_m2, kb_m3, kb_m4, kb_m8, kb_m9, kb_10, kb_100, kb_16, kb_36, kb_6, kb_63, kb_8, kb_9, kb_99, ks_216, ks_2520, ks_256, ks_800, kl_0, kl_1, ↓reduceIte, reduceCtorEq, Nat.reduceAdd, Nat.reduceLT, Nat.reduceLeDiff, Nat.reduceEqDiff, List.map_cons, List.map_nil, List.sum_cons, List.sum_nil, List.cons_append, List.nil_append, Option.toList_some, Option.toList_none, true_and, and_true, true_or, or_true, not_true_eq_false, not_false_eq_true, Nat.lt_add_one, Nat.zero_le, eq_self, or_false, false_or, implies_true, forall_const, false_implies, forall_false, true_implies, and_self, Nat.zero_lt_one, Nat.add_zero, Nat.zero_add, Int32.reduceLT, Int32.reduceLE, Int32.reduceAdd, Int32.reduceSub, Int32.reduceMul, e10, e01, ite_self, ab_mx, ab_mi, ab_mb, ab_ml2, rX8_lay_125, rX8_lay_128, rX8_lay_129, rX8_lay_132, rX8_lay_134, rX8_lay_135, rX8_lay_136, rX8_lay_138, rX8_lay_139, rX8_lay_140, rX8_lay_141, rX8_lay_142, rX8_lay_144, rX8_lay_145, vk, vk1, nk, nk1, c2, b]
      exact K
/-- a side of the reference holds a town's filling -/
def erI (sc : Int) (g z : Nat → Int) (n j : Nat) : Int := if alI sc g z n = 0 then 2520 else (srt sc g z n).1 j
def rvv (σ : ab_S) (s : Nat) (sc : Int) (g z : Nat → Int) (n : Nat) : Prop := (σ.1 49 0 s).toInt = n ∧ (σ.1 50 0 s).toInt = hdI sc z n ∧ (σ.2 51 0 s).toInt = alI sc g z n ∧ ∀ j, j < n → (σ.2 48 0 (8 * s + j)).toInt = erI sc g z n j ∧ (σ.1 47 0 (8 * s + j)).toInt = (srt sc g z n).2 j
