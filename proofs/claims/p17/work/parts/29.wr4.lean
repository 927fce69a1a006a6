/-! ===== taxed ===== -/
def tv (σ : ab_S) (l : Int32) : Int32 := Int32.ofInt (tx (tI (σ.1 59 0)) (tI (σ.1 60 0)) (σ.1 40 0 22).toInt.toNat l.toInt.toNat / 10)
theorem tv_b {σ : ab_S} {l : Int32} (hr : rg_R σ) (l0 : 0 ≤ l.toInt) (l1 : l.toInt ≤ 99) : (tv σ l).toInt = tx (tI (σ.1 59 0)) (tI (σ.1 60 0)) (σ.1 40 0 22).toInt.toNat l.toInt.toNat / 10 ∧ 0 ≤ (l - tv σ l).toInt ∧ (l - tv σ l).toInt ≤ 99 := by
  have b := tx_b (F := tI (σ.1 59 0)) (R := tI (σ.1 60 0)) (n := (σ.1 40 0 22).toInt.toNat) (h := l.toInt.toNat) (fun i _ => hr 60 0 i)
  have e : (tv σ l).toInt = tx (tI (σ.1 59 0)) (tI (σ.1 60 0)) (σ.1 40 0 22).toInt.toNat l.toInt.toNat / 10 := by
    unfold tv
    rw [Int32.toInt_ofInt]
    exact bm32 (by omega) (by omega)
  refine ⟨e, ?_⟩
  rw [i32_sub (by omega) (by omega), e]
  omega
theorem bs_cg {F G : Nat → Int} {h : Int} (e : ∀ j, F j = G j) (n : Nat) : bs F h n = bs G h n := by rw [show F = G from funext e]
/-- the class's tax is the reference's -/
theorem sX1_takenV {σ : ab_S} {P : ab_P} (hr : rg_R σ) (hB : rl_B σ) {x1 : Int32} (l1 : 0 ≤ x1.toInt) (m1 : x1.toInt ≤ 99) (hP : P (some (.inl (.inl (tv σ x1)))) σ) : ab_sp mX1_taken cX1_taken [.inr (some (2, 0)), .inl (.inl x1)] σ P := by
  refine sX1_taken hr l1 m1 (fun x hx => ?_)
  have e1 : tI (σ.1 3 0) = tI (σ.1 59 0) := funext (fun j => congrArg Int32.toInt (hB.2.1 j))
  have e2 : tI (σ.1 4 0) = tI (σ.1 60 0) := funext (fun j => congrArg Int32.toInt (hB.2.2 j))
  have e3 := tk_eq (F := tI (σ.1 59 0)) (R := tI (σ.1 60 0)) (n := (σ.1 40 0 22).toInt.toNat) (fun i _ => hr 59 0 i) x1.toInt.toNat (by omega)
  rw [show ((x1.toInt.toNat : Nat) : Int) = x1.toInt by omega] at e3
  rw [e1, e2, hB.1, e3] at hx
  have : x = tv σ x1 := Int32.toInt_inj.mp (hx.trans (tv_b hr l1 m1).1.symm)
  rw [this]
  exact hP
theorem sX8_taxOfV {σ : ab_S} {P : ab_P} (hr : rg_R σ) {x1 : Int32} (l1 : 0 ≤ x1.toInt) (m1 : x1.toInt ≤ 99) (hP : P (some (.inl (.inl (tv σ x1)))) σ) : ab_sp mX8_taxOf cX8_taxOf [.inr (some (40, 0)), .inl (.inl x1)] σ P := by
  refine sX8_taxOf hr l1 m1 (fun x hx => ?_)
  have : x = tv σ x1 := Int32.toInt_inj.mp (hx.trans (tv_b hr l1 m1).1.symm)
  rw [this]
  exact hP
theorem tv_cg {σ c : ab_S} (e1 : ∀ j, c.1 59 0 j = σ.1 59 0 j) (e2 : ∀ j, c.1 60 0 j = σ.1 60 0 j) (e3 : c.1 40 0 22 = σ.1 40 0 22) (l : Int32) : tv c l = tv σ l := by
  unfold tv
  rw [show c.1 59 0 = σ.1 59 0 from funext e1, show c.1 60 0 = σ.1 60 0 from funext e2, e3]
def uv (σ : ab_S) (i g : Nat) : Int32 := σ.1 21 i g - tv σ (σ.1 21 i g)
def tq (σ c : ab_S) (i j k : Nat) : Prop := rg_R c ∧ (∀ K I J, ¬ (I = j ∧ ((K = 20 ∧ J = 0) ∨ (21 ≤ K ∧ K ≤ 24 ∧ J < k))) → c.1 K I J = σ.1 K I J) ∧ (c.1 20 j 0).toInt = k ∧ ∀ g, g < k → c.1 21 j g = uv σ i g ∧ c.1 22 j g = uv σ i g ∧ c.1 23 j g = σ.1 23 i g ∧ c.1 24 j g = σ.1 24 i g
theorem tq_s {σ c : ab_S} {i j k : Nat} {m : Int32} (hr : rg_R σ) (h : tq σ c i j k) (hk : k < 8) (hm : m.toInt = k + 1) (u : 0 ≤ (uv σ i k).toInt ∧ (uv σ i k).toInt ≤ 99) : tq σ (ab_si (ab_si (ab_si (ab_si (ab_si c 21 j k (uv σ i k)) 22 j k (uv σ i k)) 23 j k (σ.1 23 i k)) 24 j k (σ.1 24 i k)) 20 j 0 m) i j (k + 1) := by
  obtain ⟨h1, h2, h3, h4⟩ := h
  have s23 : 0 ≤ (σ.1 23 i k).toInt ∧ (σ.1 23 i k).toInt ≤ 9 := hr 23 i k
  have s24 : 0 ≤ (σ.1 24 i k).toInt ∧ (σ.1 24 i k).toInt ≤ 2 := hr 24 i k
  have z0 : (0 : Int) ≤ m.toInt := by omega
  have z1 : m.toInt ≤ (8 : Int) := by omega
  refine ⟨rg_si (rg_si (rg_si (rg_si (rg_si h1 (k := 21) (j := k) j u.1 u.2) (k := 22) (j := k) j u.1 u.2) (k := 23) (j := k) j s23.1 s23.2) (k := 24) (j := k) j s24.1 s24.2) (k := 20) (j := 0) j z0 z1, fun K I J hn => ?_, ?_, fun g hg => ?_⟩
  · simp only [ab_si_at]
    rw [if_neg (fun q => hn ⟨q.2.1, Or.inl ⟨q.1, q.2.2⟩⟩), if_neg (fun q => hn ⟨q.2.1, Or.inr (by omega)⟩), if_neg (fun q => hn ⟨q.2.1, Or.inr (by omega)⟩), if_neg (fun q => hn ⟨q.2.1, Or.inr (by omega)⟩), if_neg (fun q => hn ⟨q.2.1, Or.inr (by omega)⟩)]
    exact h2 K I J (fun q => hn ⟨q.1, q.2.imp id (fun w => by omega)⟩)
  · rw [sn_ie, hm]; rfl
  · simp only [ab_si_at, Nat.reduceEqDiff, false_and, true_and, ↓reduceIte]
    by_cases e : g = k
    · rw [if_pos e, if_pos e, if_pos e, if_pos e, e]; exact ⟨rfl, rfl, rfl, rfl⟩
    · rw [if_neg e, if_neg e, if_neg e, if_neg e]; exact h4 g (by omega)
def tm (σ d : ab_S) (i j k : Nat) : Prop := rg_R d ∧ (∀ K I J, ¬ (I = 0 ∧ ((K = 41 ∧ J = j) ∨ (42 ≤ K ∧ K ≤ 45 ∧ 8 * j ≤ J ∧ J < 8 * j + k))) → d.1 K I J = σ.1 K I J) ∧ d.1 41 0 j = σ.1 41 0 i ∧ ∀ g, g < k → d.1 42 0 (8 * j + g) = σ.1 42 0 (8 * i + g) - tv σ (σ.1 42 0 (8 * i + g)) ∧ d.1 43 0 (8 * j + g) = σ.1 42 0 (8 * i + g) - tv σ (σ.1 42 0 (8 * i + g)) ∧ d.1 44 0 (8 * j + g) = σ.1 44 0 (8 * i + g) ∧ d.1 45 0 (8 * j + g) = σ.1 45 0 (8 * i + g)
theorem tm_s {σ d : ab_S} {i j k : Nat} {w s p : Int32} (h : tm σ d i j k) (hw : w = σ.1 42 0 (8 * i + k) - tv σ (σ.1 42 0 (8 * i + k))) (hs : s = σ.1 44 0 (8 * i + k)) (hp : p = σ.1 45 0 (8 * i + k)) (u : 0 ≤ w.toInt ∧ w.toInt ≤ 99) (us : 0 ≤ s.toInt ∧ s.toInt ≤ 9) (up : 0 ≤ p.toInt ∧ p.toInt ≤ 2) : tm σ (ab_si (ab_si (ab_si (ab_si d 42 0 (8 * j + k) w) 43 0 (8 * j + k) w) 44 0 (8 * j + k) s) 45 0 (8 * j + k) p) i j (k + 1) := by
  obtain ⟨h1, h2, h3, h4⟩ := h
  refine ⟨rg_si (rg_si (rg_si (rg_si h1 (k := 42) (j := 8 * j + k) 0 u.1 u.2) (k := 43) (j := 8 * j + k) 0 u.1 u.2) (k := 44) (j := 8 * j + k) 0 us.1 us.2) (k := 45) (j := 8 * j + k) 0 up.1 up.2, fun K I J hn => ?_, h3, fun g hg => ?_⟩
  · simp only [ab_si_at]
    rw [if_neg (fun q => hn ⟨q.2.1, Or.inr (by omega)⟩), if_neg (fun q => hn ⟨q.2.1, Or.inr (by omega)⟩), if_neg (fun q => hn ⟨q.2.1, Or.inr (by omega)⟩), if_neg (fun q => hn ⟨q.2.1, Or.inr (by omega)⟩)]
    exact h2 K I J (fun q => hn ⟨q.1, q.2.imp id (fun w => by omega)⟩)
  · simp only [ab_si_at, Nat.reduceEqDiff, false_and, true_and, ↓reduceIte, ix_s]
    by_cases e : g = k
    · rw [if_pos e, if_pos e, if_pos e, if_pos e, e]; exact ⟨hw, hw, hs, hp⟩
    · rw [if_neg e, if_neg e, if_neg e, if_neg e]; exact h4 g (by omega)
/-- both done: in step again -/
theorem tx_I {σ c d : ab_S} {i j : Nat} (hI : rl_I σ) (hi : i < 4) (hj : j < 4) (ij : ¬ i = j) (hc : tq σ c i j (σ.1 20 i 0).toInt.toNat) (hd : tm c d i j (σ.1 20 i 0).toInt.toNat) : rl_I d := by
  have hn : 0 ≤ (σ.1 20 i 0).toInt ∧ (σ.1 20 i 0).toInt ≤ 8 := hI.1 20 i 0
  obtain ⟨_, c2, c3, c4⟩ := hc
  obtain ⟨d1, d2, d3, d4⟩ := hd
  have hTi := hI.2.2.1 i hi
  have c42 : ∀ K J, 25 ≤ K → c.1 K 0 J = σ.1 K 0 J := fun K J hK => c2 K 0 J (fun q => by omega)
  have e22 : c.1 40 0 22 = σ.1 40 0 22 := c42 40 22 (by omega)
  have tv1 : ∀ l, tv c l = tv σ l := tv_cg (fun j => c42 59 j (by omega)) (fun j => c42 60 j (by omega)) e22
  have dlow : ∀ K I J, K < 40 → d.1 K I J = c.1 K I J := fun K I J hK => d2 K I J (fun q => by omega)
  have m41 : d.1 41 0 j = σ.1 20 i 0 := by rw [d3, c42 41 i (by omega)]; exact hTi.1.symm
  have U : ∀ g, g < 8 → σ.1 42 0 (8 * i + g) - tv σ (σ.1 42 0 (8 * i + g)) = uv σ i g := fun g hg => by rw [← (hTi.2 g hg).1]; rfl
  refine ⟨d1, fun t f ht hf => ?_, fun t ht => ?_, ?_, fun q => ?_, fun q => ?_⟩
  · by_cases e : t = j
    · subst e
      rw [m41] at hf
      have q := d4 f (by omega)
      rw [q.1, q.2.1, q.2.2.1, c42 44 _ (by omega)]
      refine ⟨(hI.2.1 i f hi ?_).1, Int.le_refl _⟩
      rw [← hTi.1]
      exact hf
    · have e1 : d.1 41 0 t = σ.1 41 0 t := (d2 41 0 t (fun q => by omega)).trans (c42 41 t (by omega))
      have f8 : f < 8 := by
        have := (d1 41 0 t).2
        have : (d.1 41 0 t).toInt ≤ 8 := this
        omega
      rw [e1] at hf
      have o := hI.2.1 t f ht hf
      have r : ∀ K, 42 ≤ K → K ≤ 45 → d.1 K 0 (8 * t + f) = σ.1 K 0 (8 * t + f) := fun K k1 k2 => (d2 K 0 (8 * t + f) (fun q => by omega)).trans (c42 K _ (by omega))
      rw [r 42 (by omega) (by omega), r 43 (by omega) (by omega), r 44 (by omega) (by omega)]
      exact o
  · have o := hI.2.2.1 t ht
    by_cases e : t = j
    · subst e
      refine ⟨?_, fun f hf => ?_⟩
      · rw [dlow 20 _ _ (by omega), m41]
        exact Int32.toInt_inj.mp (by rw [c3]; omega)
      · rw [dlow 21 _ _ (by omega), dlow 22 _ _ (by omega), dlow 23 _ _ (by omega), dlow 24 _ _ (by omega)]
        by_cases g : f < (σ.1 20 i 0).toInt.toNat
        · have q := d4 f g
          have p := c4 f g
          have z := hTi.2 f hf
          rw [q.1, q.2.1, q.2.2.1, q.2.2.2, p.1, p.2.1, p.2.2.1, p.2.2.2, c42 42 _ (by omega), c42 44 _ (by omega), c42 45 _ (by omega), tv1, U f hf]
          exact ⟨rfl, rfl, z.2.2.1, z.2.2.2⟩
        · have r : ∀ K, 42 ≤ K → K ≤ 45 → d.1 K 0 (8 * t + f) = σ.1 K 0 (8 * t + f) := fun K k1 k2 => (d2 K 0 (8 * t + f) (fun q => by omega)).trans (c42 K _ (by omega))
          have s : ∀ K, 21 ≤ K → K ≤ 24 → c.1 K t f = σ.1 K t f := fun K k1 k2 => c2 K t f (fun q => by omega)
          rw [r 42 (by omega) (by omega), r 43 (by omega) (by omega), r 44 (by omega) (by omega), r 45 (by omega) (by omega), s 21 (by omega) (by omega), s 22 (by omega) (by omega), s 23 (by omega) (by omega), s 24 (by omega) (by omega)]
          exact o.2 f hf
    · refine ⟨?_, fun f hf => ?_⟩
      · rw [dlow 20 _ _ (by omega), c2 20 t 0 (fun q => e q.1), d2 41 0 t (fun q => by omega), c42 41 t (by omega)]
        exact o.1
      · have r : ∀ K, 42 ≤ K → K ≤ 45 → d.1 K 0 (8 * t + f) = σ.1 K 0 (8 * t + f) := fun K k1 k2 => (d2 K 0 (8 * t + f) (fun q => by omega)).trans (c42 K _ (by omega))
        have s : ∀ K, 21 ≤ K → K ≤ 24 → d.1 K t f = σ.1 K t f := fun K k1 k2 => (dlow K t f (by omega)).trans (c2 K t f (fun q => e q.1))
        rw [r 42 (by omega) (by omega), r 43 (by omega) (by omega), r 44 (by omega) (by omega), r 45 (by omega) (by omega), s 21 (by omega) (by omega), s 22 (by omega) (by omega), s 23 (by omega) (by omega), s 24 (by omega) (by omega)]
        exact o.2 f hf
  · rw [dlow 2 0 0 (by omega), c2 2 0 0 (fun q => by omega), d2 40 0 22 (fun q => by omega), e22]; exact hI.2.2.2.1
  · rw [dlow 3 0 q (by omega), c2 3 0 q (fun q => by omega), d2 59 0 q (fun q => by omega), c42 59 q (by omega)]; exact hI.2.2.2.2.1 q
  · rw [dlow 4 0 q (by omega), c2 4 0 q (fun q => by omega), d2 60 0 q (fun q => by omega), c42 60 q (by omega)]; exact hI.2.2.2.2.2 q
