/-! order: both tell the same -/
theorem isum_ins {A : Nat → Int} {v : Int} : ∀ {n p : Nat}, p ≤ n → isum (ins A p v) (n + 1) = isum A n + v
  | 0, p, h => by
    show isum (ins A p v) 0 + ins A p v 0 = isum A 0 + v
    have e : p = 0 := by omega
    unfold ins
    rw [if_neg (by omega), if_pos e.symm]
    rfl
  | n + 1, p, h => by
    show isum (ins A p v) (n + 1) + ins A p v (n + 1) = isum A n + A n + v
    by_cases e : p = n + 1
    · have e1 : isum (ins A p v) (n + 1) = isum A (n + 1) := isum_cg (fun j hj => by unfold ins; rw [if_pos (by omega)])
      have e2 : ins A p v (n + 1) = v := by unfold ins; rw [if_neg (by omega), if_pos e.symm]
      rw [e1, e2]
      rfl
    · have e2 : ins A p v (n + 1) = A n := by unfold ins; rw [if_neg (by omega), if_neg (by omega)]; rfl
      rw [isum_ins (show p ≤ n by omega), e2]
      omega
theorem cu_hd {sc : Int} {g z : Nat → Int} : ∀ {n : Nat}, cuI (srt sc g z n).2 n = hdI sc z n
  | 0 => rfl
  | n + 1 => by
    show isum (ins (srt sc g z n).2 (plc (srt sc g z n).1 (hvI sc g z n) n) (wvI sc z n)) (n + 1) = hdI sc z n + wvI sc z n
    rw [isum_ins plc_le]
    exact congrArg (· + wvI sc z n) (cu_hd (n := n))
theorem cvb_ea {b : Bool} {sc : Int} {g z : Nat → Int} {n : Nat} (n1 : 1 ≤ n) (n8 : n ≤ 8) (hg : ∀ j, j < n → 0 ≤ g j ∧ g j ≤ 99) (hz : ∀ j, j < n → 1 ≤ z j ∧ z j ≤ 9) : cvb (eaI b sc g z n) (srt sc g z n).2 n (hdI sc z n) := by
  have a := hd_1 (sc := sc) hz
  have c := hd_b (sc := sc) hz
  exact ⟨n8, fun j hj => ⟨ea_b hg hz j hj, (srt_b (sc := sc) hg hz j hj).2⟩, cu_hd, by omega, by omega⟩
theorem cvb_er {sc : Int} {g z : Nat → Int} {n : Nat} (n1 : 1 ≤ n) (n8 : n ≤ 8) (hg : ∀ j, j < n → 0 ≤ g j ∧ g j ≤ 99) (hz : ∀ j, j < n → 1 ≤ z j ∧ z j ≤ 9) : cvb (erI sc g z n) (srt sc g z n).2 n (hdI sc z n) := by
  have a := hd_1 (sc := sc) hz
  have c := hd_b (sc := sc) hz
  exact ⟨n8, fun j hj => ⟨er_b hg hz j hj, (srt_b (sc := sc) hg hz j hj).2⟩, cu_hd, by omega, by omega⟩
theorem sg3_sc {a b a' b' c d : Int} (hc : 0 < c) (hd : 0 < d) (h1 : c * a = d * a') (h2 : c * b = d * b') : sg3 a b = sg3 a' b' := by
  unfold sg3
  have k1 : (a < b) = (a' < b') := propext ⟨fun h => Int.lt_of_mul_lt_mul_left (a := d) (by rw [← h1, ← h2]; exact Int.mul_lt_mul_of_pos_left h hc) (by omega), fun h => Int.lt_of_mul_lt_mul_left (a := c) (by rw [h1, h2]; exact Int.mul_lt_mul_of_pos_left h hd) (by omega)⟩
  have k2 : (a = b) = (a' = b') := propext ⟨fun h => Int.eq_of_mul_eq_mul_left (a := d) (by omega) (by rw [← h1, ← h2, h]), fun h => Int.eq_of_mul_eq_mul_left (a := c) (by omega) (by rw [h1, h2, h])⟩
  simp only [k1, k2]
theorem al_0 {sc : Int} {g z : Nat → Int} : ∀ {n : Nat}, (∀ j, j < n → 0 ≤ g j ∧ g j ≤ 99) → (∀ j, j < n → 1 ≤ z j ∧ z j ≤ 9) → alI sc g z n = 0 → ∀ j, j < n → (srt sc g z n).1 j = 0
  | 0, _, _, _ => fun j hj => absurd hj (Nat.not_lt_zero j)
  | n + 1, hg, hz, h => by
    have h : alI sc g z n + hvI sc g z n * wvI sc z n = 0 := h
    have a := al_b (sc := sc) (g := g) (z := z) (n := n) (fun j hj => hg j (by omega)) (fun j hj => hz j (by omega))
    have v := hv_b (sc := sc) (g := g) (z := z) (f := n) (hg n (by omega)) (hz n (by omega))
    have w := wv_b (sc := sc) (z := z) (f := n) (hz n (by omega))
    have p : 0 ≤ hvI sc g z n * wvI sc z n := Int.mul_nonneg v.1 (by omega)
    have e : hvI sc g z n * wvI sc z n = 0 := by omega
    have e2 : hvI sc g z n = 0 := by
      rcases Int.mul_eq_zero.mp e with e | e
      · exact e
      · omega
    have ih := al_0 (sc := sc) (n := n) (fun j hj => hg j (by omega)) (fun j hj => hz j (by omega)) (by omega)
    exact ins_all (Q := fun x => x = 0) ih e2 plc_le
theorem hs_E0 {E W : Nat → Int} {m x : Int} : ∀ {k : Nat}, (∀ j, j < k → E j = 0) → hsH E W m x k = 0
  | 0, _ => rfl
  | k + 1, h => by
    rw [hsH_s, hs_E0 (fun j hj => h j (by omega)), h k (by omega), Int.mul_zero]
    rfl
/-- a place, as the class and as the reference tell it -/
theorem hs_pl {E W : Nat → Int} {n : Nat} {H1 H2 u w x : Int} (h2 : 0 ≤ H2) (hw : 0 ≤ w) (hx : x * w = u * (H1 * H2)) : w * hsH E W H2 x n = H2 * hsH E W w (H1 * u) n := by
  have a := (hs_h (E := E) (W := W) (m := H2) (x := x) hw (k := n)).2
  have b := (hs_h (E := E) (W := W) (m := w) (x := H1 * u) h2 (k := n)).2
  rw [← a, ← b, Int.mul_comm w H2, show w * x = H2 * (H1 * u) by rw [Int.mul_comm w x, hx]; ac_rfl]
def kiI (sc : Int) (g z : Nat → Int) (n : Nat) : Int := if alI sc g z n = 0 then 2520 else 1
theorem ki_p {sc : Int} {g z : Nat → Int} {n : Nat} : 0 < kiI sc g z n := by unfold kiI; split <;> decide
theorem er_k {sc m x : Int} {g z : Nat → Int} {n : Nat} : hsH (erI sc g z n) (srt sc g z n).2 m x n = kiI sc g z n * hsH (eaI true sc g z n) (srt sc g z n).2 m x n := by
  rw [Int.mul_comm, ← hs_k]
  refine (hs_cg (fun j hj => ?_) (fun j hj => rfl)).2
  unfold erI eaI kiI nthB
  by_cases A : alI sc g z n = 0
  · rw [if_pos A, if_pos A, if_pos (by rw [A]; rfl)]
    rfl
  · rw [if_neg A, if_neg A, if_neg (fun t => A (of_decide_eq_true ((Bool.and_eq_true _ _).mp t).2)), Int.mul_one]
theorem by_k {sc : Int} {g z : Nat → Int} {n : Nat} {kd : Int32} (h : kd = 0) : byR kd (hdI sc z n) (alI sc g z n) = kiI sc g z n * whI true sc g z n := by
  unfold byR whI kiI nthB
  by_cases A : alI sc g z n = 0
  · rw [if_pos (Or.inr A), if_pos A, if_pos (by rw [A]; rfl)]
  · rw [if_neg (fun w => w.elim (fun w => by rw [h] at w; cases w) A), if_neg A, if_neg (fun t => A (of_decide_eq_true ((Bool.and_eq_true _ _).mp t).2)), Int.one_mul]
/-- both signs are the same -/
theorem sg_eq {sc : Int} {kd : Int32} {g1 z1 g2 z2 : Nat → Int} {n1 n2 : Nat} {u w x : Int} (k01 : kd = 0 ∨ kd = 1) (m1 : 1 ≤ n1) (m2 : 1 ≤ n2) (n18 : n1 ≤ 8) (n28 : n2 ≤ 8) (hg1 : ∀ j, j < n1 → 0 ≤ g1 j ∧ g1 j ≤ 99) (hz1 : ∀ j, j < n1 → 1 ≤ z1 j ∧ z1 j ≤ 9) (hg2 : ∀ j, j < n2 → 0 ≤ g2 j ∧ g2 j ≤ 99) (hz2 : ∀ j, j < n2 → 1 ≤ z2 j ∧ z2 j ≤ 9) (hw : 1 ≤ w) (hx : x * w = u * (hdI sc z1 n1 * hdI sc z2 n2)) : sgX (eaI (decide (kd = 0)) sc g1 z1 n1) (srt sc g1 z1 n1).2 (eaI (decide (kd = 0)) sc g2 z2 n2) (srt sc g2 z2 n2).2 n1 n2 (hdI sc z1 n1) (hdI sc z2 n2) (if kd = 0 then hdI sc z1 n1 * whI (decide (kd = 0)) sc g2 z2 n2 else 1) (if kd = 0 then hdI sc z2 n2 * whI (decide (kd = 0)) sc g1 z1 n1 else 1) x = sgR kd (erI sc g1 z1 n1) (srt sc g1 z1 n1).2 (erI sc g2 z2 n2) (srt sc g2 z2 n2).2 n1 n2 (hdI sc z1 n1) (alI sc g1 z1 n1) (hdI sc z2 n2) (alI sc g2 z2 n2) u w := by
  have a1 := hd_1 (sc := sc) hz1
  have a2 := hd_1 (sc := sc) hz2
  have hx2 : x * w = u * (hdI sc z2 n2 * hdI sc z1 n1) := by rw [hx, Int.mul_comm (hdI sc z1 n1)]
  unfold sgX sgR onR
  rcases k01 with k | k
  · have k1 : ¬ kd = 1 := fun e => by rw [k] at e; cases e
    have P1 := hs_pl (E := eaI true sc g1 z1 n1) (W := (srt sc g1 z1 n1).2) (n := n1) (show 0 ≤ hdI sc z2 n2 by omega) (show 0 ≤ w by omega) hx
    have P2 := hs_pl (E := eaI true sc g2 z2 n2) (W := (srt sc g2 z2 n2).2) (n := n2) (show 0 ≤ hdI sc z1 n1 by omega) (show 0 ≤ w by omega) hx2
    rw [if_neg (show ¬ (kd = 1 ∧ alI sc g1 z1 n1 = 0) from fun e => k1 e.1), if_neg (show ¬ (kd = 1 ∧ alI sc g2 z2 n2 = 0) from fun e => k1 e.1), if_pos k, if_pos k, decide_eq_true k, er_k, er_k, by_k k, by_k k]
    have q1 := ki_p (sc := sc) (g := g1) (z := z1) (n := n1)
    have q2 := ki_p (sc := sc) (g := g2) (z := z2) (n := n2)
    generalize hsH (eaI true sc g1 z1 n1) (srt sc g1 z1 n1).2 (hdI sc z2 n2) x n1 = x1 at P1 ⊢
    generalize hsH (eaI true sc g2 z2 n2) (srt sc g2 z2 n2).2 (hdI sc z1 n1) x n2 = x2 at P2 ⊢
    generalize hsH (eaI true sc g1 z1 n1) (srt sc g1 z1 n1).2 w (hdI sc z1 n1 * u) n1 = y1 at P1 ⊢
    generalize hsH (eaI true sc g2 z2 n2) (srt sc g2 z2 n2).2 w (hdI sc z2 n2 * u) n2 = y2 at P2 ⊢
    generalize kiI sc g1 z1 n1 = c1 at q1 ⊢
    generalize kiI sc g2 z2 n2 = c2 at q2 ⊢
    generalize whI true sc g1 z1 n1 = v1
    generalize whI true sc g2 z2 n2 = v2
    generalize hdI sc z1 n1 = d1 at a1 P1 P2 ⊢
    generalize hdI sc z2 n2 = d2 at a2 P1 P2 ⊢
    refine sg3_sc (c := c1 * c2 * w) (d := d1 * d2) (Int.mul_pos (Int.mul_pos q1 q2) (by omega)) (Int.mul_pos (by omega) (by omega)) ?_ ?_
    · calc c1 * c2 * w * (x1 * (d1 * v2)) = (w * x1) * (c1 * c2 * d1 * v2) := by ac_rfl
        _ = d2 * y1 * (c1 * c2 * d1 * v2) := by rw [P1]
        _ = _ := by ac_rfl
    · calc c1 * c2 * w * (x2 * (d2 * v1)) = (w * x2) * (c1 * c2 * d2 * v1) := by ac_rfl
        _ = d1 * y2 * (c1 * c2 * d2 * v1) := by rw [P2]
        _ = _ := by ac_rfl
  · have k1 : ¬ kd = 0 := fun e => by rw [k] at e; cases e
    have P1 := hs_pl (E := eaI false sc g1 z1 n1) (W := (srt sc g1 z1 n1).2) (n := n1) (show 0 ≤ hdI sc z2 n2 by omega) (show 0 ≤ w by omega) hx
    have P2 := hs_pl (E := eaI false sc g2 z2 n2) (W := (srt sc g2 z2 n2).2) (n := n2) (show 0 ≤ hdI sc z1 n1 by omega) (show 0 ≤ w by omega) hx2
    have one : ∀ {g z : Nat → Int} {n : Nat} {D : Int} {y : Int}, (∀ j, j < n → 0 ≤ g j ∧ g j ≤ 99) → (∀ j, j < n → 1 ≤ z j ∧ z j ≤ 9) → w * hsH (eaI false sc g z n) (srt sc g z n).2 D x n = D * hsH (eaI false sc g z n) (srt sc g z n).2 w y n → 2520 * w * (hsH (eaI false sc g z n) (srt sc g z n).2 D x n * 1) = 1 * (if kd = 1 ∧ alI sc g z n = 0 then 0 else hsH (erI sc g z n) (srt sc g z n).2 w y n * (2520 * D)) := by
      intro g z n D y hg hz P
      by_cases A : alI sc g z n = 0
      · rw [if_pos ⟨k, A⟩, hs_E0 (E := eaI false sc g z n) (fun j hj => al_0 hg hz A j hj), Int.zero_mul, Int.mul_zero, Int.mul_zero]
      · rw [if_neg (fun e => A e.2), (hs_cg (E := erI sc g z n) (F := eaI false sc g z n) (W := (srt sc g z n).2) (V := (srt sc g z n).2) (m := w) (x := y) (k := n) (fun j hj => by unfold erI eaI; rw [if_neg A]; rfl) (fun _ _ => rfl)).2]
        calc 2520 * w * (hsH (eaI false sc g z n) (srt sc g z n).2 D x n * 1) = 2520 * (w * hsH (eaI false sc g z n) (srt sc g z n).2 D x n) := by rw [Int.mul_one, Int.mul_assoc]
          _ = 2520 * (D * hsH (eaI false sc g z n) (srt sc g z n).2 w y n) := by rw [P]
          _ = _ := by rw [Int.one_mul]; ac_rfl
    have b1 : byR kd (hdI sc z1 n1) (alI sc g1 z1 n1) = 2520 * hdI sc z1 n1 := if_pos (Or.inl k)
    have b2 : byR kd (hdI sc z2 n2) (alI sc g2 z2 n2) = 2520 * hdI sc z2 n2 := if_pos (Or.inl k)
    rw [if_neg k1, if_neg k1, decide_eq_false k1, b1, b2]
    exact sg3_sc (c := 2520 * w) (d := 1) (by omega) (by decide) (one hg1 hz1 P1) (one hg2 hz2 P2)
