/-! curves: towns in order of what a head has -/
def fr (S : Nat → Nat → Nat → Bool) (σ σ' : ab_S) : Prop := rg_R σ' ∧ ∀ k i j, S k i j = false → σ'.1 k i j = σ.1 k i j ∧ σ'.2 k i j = σ.2 k i j
theorem fr.rf {S : Nat → Nat → Nat → Bool} {σ : ab_S} (h : rg_R σ) : fr S σ σ := ⟨h, fun _ _ _ _ => ⟨rfl, rfl⟩⟩
theorem fr.tr {S : Nat → Nat → Nat → Bool} {σ σ' σ'' : ab_S} (h : fr S σ σ') (k : fr S σ' σ'') : fr S σ σ'' := ⟨k.1, fun a b c e => ⟨(k.2 a b c e).1.trans (h.2 a b c e).1, (k.2 a b c e).2.trans (h.2 a b c e).2⟩⟩
theorem fr.si {S : Nat → Nat → Nat → Bool} {σ σ' : ab_S} (h : fr S σ σ') (k i j : Nat) {v : Int32} (hw : S k i j = true) (h1 : (ck_rn k j).1 ≤ v.toInt) (h2 : v.toInt ≤ (ck_rn k j).2) : fr S σ (ab_si σ' k i j v) := ⟨rg_si h.1 i h1 h2, fun a b c e => by
  rw [ab_si_at, if_neg (fun q => by rw [q.1, q.2.1, q.2.2, hw] at e; cases e)]
  exact h.2 a b c e⟩
theorem fr.sl {S : Nat → Nat → Nat → Bool} {σ σ' : ab_S} (h : fr S σ σ') (k i j : Nat) {v : Int64} (hw : S k i j = true) : fr S σ (ab_sl σ' k i j v) := ⟨h.1, fun a b c e => by
  rw [ab_sl_at, if_neg (fun q => by rw [q.1, q.2.1, q.2.2, hw] at e; cases e)]
  exact h.2 a b c e⟩
theorem fr.J {S : Nat → Nat → Nat → Bool} {σ0 σ σ' : ab_S} (h : fr S σ σ') (hS : ∀ k i j, S k i j = true → ck_wr 0 k j = true) (J : ck_J 0 σ0 σ) : ck_J 0 σ0 σ' := ⟨h.1, fun k j e i => by
  have q : S k i j = false := by
    cases w : S k i j with
    | false => rfl
    | true => rw [hS k i j w] at e; cases e
  exact ⟨(h.2 k i j q).1.trans (J.2.1 k j e i).1, (h.2 k i j q).2.trans (J.2.1 k j e i).2⟩, J.2.2⟩
theorem fr.w {S T : Nat → Nat → Nat → Bool} {σ σ' : ab_S} (h : fr S σ σ') (hT : ∀ k i j, S k i j = true → T k i j = true) : fr T σ σ' := ⟨h.1, fun k i j e => h.2 k i j (by
  cases w : S k i j with
  | false => rfl
  | true => rw [hT k i j w] at e; cases e)⟩
/-- where v comes to stand among the first n -/
def plc (E : Nat → Int) (v : Int) (n : Nat) : Nat := match n with
  | 0 => 0
  | n + 1 => if v < E n then plc E v n else n + 1
theorem plc_le {E : Nat → Int} {v : Int} : ∀ {n : Nat}, plc E v n ≤ n
  | 0 => Nat.le_refl 0
  | n + 1 => by
    unfold plc
    split
    · exact Nat.le_succ_of_le plc_le
    · exact Nat.le_refl _
def ins (A : Nat → Int) (p : Nat) (v : Int) (j : Nat) : Int := if j < p then A j else if j = p then v else A (j - 1)
theorem plc_cg {E F : Nat → Int} {v : Int} : ∀ {n : Nat}, (∀ j, j < n → E j = F j) → plc E v n = plc F v n
  | 0, _ => rfl
  | n + 1, h => by
    unfold plc
    rw [h n (by omega), plc_cg (fun j hj => h j (by omega))]
theorem ins_cg {A B : Nat → Int} {p n : Nat} {v : Int} (h : ∀ j, j < n → A j = B j) (hp : p ≤ n) {j : Nat} (hj : j < n + 1) : ins A p v j = ins B p v j := by
  unfold ins
  by_cases a : j < p
  · rw [if_pos a, if_pos a, h j (by omega)]
  · rw [if_neg a, if_neg a]
    by_cases b : j = p
    · rw [if_pos b, if_pos b]
    · rw [if_neg b, if_neg b, h (j - 1) (by omega)]
/-- what a head of a family has, how many heads it is -/
def hvI (sc : Int) (g z : Nat → Int) (f : Nat) : Int := if sc = 1 then 2520 * g f / z f else if sc = 2 then 2 * (2520 * g f) / (z f + 1) else 2520 * g f
def wvI (sc : Int) (z : Nat → Int) (f : Nat) : Int := if sc = 0 then 1 else z f
def srt (sc : Int) (g z : Nat → Int) (n : Nat) : (Nat → Int) × (Nat → Int) := match n with
  | 0 => (fun _ => 0, fun _ => 0)
  | n + 1 => (ins (srt sc g z n).1 (plc (srt sc g z n).1 (hvI sc g z n) n) (hvI sc g z n), ins (srt sc g z n).2 (plc (srt sc g z n).1 (hvI sc g z n) n) (wvI sc z n))
def hdI (sc : Int) (z : Nat → Int) (n : Nat) : Int := isum (wvI sc z) n
def alI (sc : Int) (g z : Nat → Int) (n : Nat) : Int := isum (fun f => hvI sc g z f * wvI sc z f) n
theorem hv_b {sc : Int} {g z : Nat → Int} {f : Nat} (hg : 0 ≤ g f ∧ g f ≤ 99) (hz : 1 ≤ z f ∧ z f ≤ 9) : 0 ≤ hvI sc g z f ∧ hvI sc g z f ≤ 249480 := by
  unfold hvI
  split
  · exact ⟨Int.ediv_nonneg (by omega) (by omega), Int.le_trans (Int.ediv_le_self _ (by omega)) (by omega)⟩
  · split
    · refine ⟨Int.ediv_nonneg (by omega) (by omega), ?_⟩
      exact Int.le_trans (Int.ediv_le_ediv (by omega) (show 2 * (2520 * g f) ≤ 249480 * (z f + 1) by omega)) (by rw [Int.mul_ediv_cancel _ (by omega)]; exact Int.le_refl _)
    · omega
theorem wv_b {sc : Int} {z : Nat → Int} {f : Nat} (hz : 1 ≤ z f ∧ z f ≤ 9) : 1 ≤ wvI sc z f ∧ wvI sc z f ≤ 9 := by
  unfold wvI
  split <;> omega
theorem ins_all {Q : Int → Prop} {A : Nat → Int} {p n : Nat} {v : Int} (h : ∀ j, j < n → Q (A j)) (hv : Q v) (hp : p ≤ n) : ∀ j, j < n + 1 → Q (ins A p v j) := fun j hj => by
  unfold ins
  by_cases a : j < p
  · rw [if_pos a]; exact h j (by omega)
  · rw [if_neg a]
    by_cases b : j = p
    · rw [if_pos b]; exact hv
    · rw [if_neg b]; exact h (j - 1) (by omega)
theorem srt_b {sc : Int} {g z : Nat → Int} : ∀ {n : Nat}, (∀ j, j < n → 0 ≤ g j ∧ g j ≤ 99) → (∀ j, j < n → 1 ≤ z j ∧ z j ≤ 9) → ∀ j, j < n → (0 ≤ (srt sc g z n).1 j ∧ (srt sc g z n).1 j ≤ 249480) ∧ 1 ≤ (srt sc g z n).2 j ∧ (srt sc g z n).2 j ≤ 9
  | 0, _, _ => fun j hj => absurd hj (Nat.not_lt_zero j)
  | n + 1, hg, hz => fun j hj => by
    have ih := srt_b (sc := sc) (n := n) (fun j hj => hg j (by omega)) (fun j hj => hz j (by omega))
    have p := plc_le (E := (srt sc g z n).1) (v := hvI sc g z n) (n := n)
    exact ⟨ins_all (Q := fun x => 0 ≤ x ∧ x ≤ 249480) (fun j hj => (ih j hj).1) (hv_b (hg n (by omega)) (hz n (by omega))) p j hj, ins_all (Q := fun x => 1 ≤ x ∧ x ≤ 9) (fun j hj => (ih j hj).2) (wv_b (hz n (by omega))) p j hj⟩
theorem srt_cg {sc : Int} {g h z y : Nat → Int} : ∀ {n : Nat}, (∀ j, j < n → g j = h j) → (∀ j, j < n → z j = y j) → srt sc g z n = srt sc h y n ∧ hdI sc z n = hdI sc y n ∧ alI sc g z n = alI sc h y n
  | 0, _, _ => ⟨rfl, rfl, rfl⟩
  | n + 1, hg, hz => by
    have ih := srt_cg (sc := sc) (n := n) (fun j hj => hg j (by omega)) (fun j hj => hz j (by omega))
    have e1 : hvI sc g z n = hvI sc h y n := by unfold hvI; rw [hg n (by omega), hz n (by omega)]
    have e2 : wvI sc z n = wvI sc y n := by unfold wvI; rw [hz n (by omega)]
    refine ⟨?_, ?_, ?_⟩
    · show (ins (srt sc g z n).1 (plc (srt sc g z n).1 (hvI sc g z n) n) (hvI sc g z n), ins (srt sc g z n).2 (plc (srt sc g z n).1 (hvI sc g z n) n) (wvI sc z n)) = _
      rw [ih.1, e1, e2]; rfl
    · show hdI sc z n + wvI sc z n = hdI sc y n + wvI sc y n
      rw [ih.2.1, e2]
    · show alI sc g z n + hvI sc g z n * wvI sc z n = alI sc h y n + hvI sc h y n * wvI sc y n
      rw [ih.2.2, e1, e2]
theorem hd_b {sc : Int} {z : Nat → Int} {n : Nat} (hz : ∀ j, j < n → 1 ≤ z j ∧ z j ≤ 9) : 0 ≤ hdI sc z n ∧ hdI sc z n ≤ 9 * n := by
  have b := isum_b (g := wvI sc z) (c := 9) (n := n) (fun j hj => by have := wv_b (sc := sc) (hz j hj); omega)
  unfold hdI
  omega
theorem hd_1 {sc : Int} {z : Nat → Int} : ∀ {n : Nat}, (∀ j, j < n → 1 ≤ z j ∧ z j ≤ 9) → (n : Int) ≤ hdI sc z n
  | 0, _ => Int.le_refl 0
  | n + 1, hz => by
    have ih := hd_1 (sc := sc) (n := n) (fun j hj => hz j (by omega))
    have := wv_b (sc := sc) (hz n (by omega))
    show ((n + 1 : Nat) : Int) ≤ hdI sc z n + wvI sc z n
    omega
theorem al_b {sc : Int} {g z : Nat → Int} {n : Nat} (hg : ∀ j, j < n → 0 ≤ g j ∧ g j ≤ 99) (hz : ∀ j, j < n → 1 ≤ z j ∧ z j ≤ 9) : 0 ≤ alI sc g z n ∧ alI sc g z n ≤ 2245320 * n := by
  have b := isum_b (g := fun f => hvI sc g z f * wvI sc z f) (c := 2245320) (n := n) (fun j hj => by
    have a := hv_b (sc := sc) (hg j hj) (hz j hj)
    have w := wv_b (sc := sc) (hz j hj)
    exact ⟨Int.mul_nonneg a.1 (by omega), Int.le_trans (Int.mul_le_mul a.2 w.2 (by omega) (by decide)) (by decide)⟩)
  unfold alI
  omega
