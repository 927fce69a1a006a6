/-! coins: who stands where -/
def soE (E : Nat → Int) (n : Nat) : Prop := ∀ i j, i < j → j < n → E i ≤ E j
theorem plc_lo {E : Nat → Int} {v : Int} : ∀ {n : Nat}, soE E n → ∀ j, j < plc E v n → E j ≤ v
  | 0, _ => fun j hj => absurd hj (Nat.not_lt_zero j)
  | n + 1, hs => fun j hj => by
    unfold plc at hj
    by_cases a : v < E n
    · rw [if_pos a] at hj
      exact plc_lo (fun i k h1 h2 => hs i k h1 (by omega)) j hj
    · rw [if_neg a] at hj
      by_cases e : j = n
      · rw [e]; omega
      · have := hs j n (by omega) (by omega)
        omega
theorem plc_hi {E : Nat → Int} {v : Int} : ∀ {n : Nat} (j : Nat), plc E v n ≤ j → j < n → v < E j
  | 0, j, _, hj => absurd hj (Nat.not_lt_zero j)
  | n + 1, j, hp, hj => by
    unfold plc at hp
    by_cases a : v < E n
    · rw [if_pos a] at hp
      by_cases e : j = n
      · rw [e]; exact a
      · exact plc_hi j hp (by omega)
    · rw [if_neg a] at hp
      omega
theorem so_ins {E : Nat → Int} {v : Int} {n : Nat} (hs : soE E n) : soE (ins E (plc E v n) v) (n + 1) := fun i j hij hj => by
  have lo := plc_lo (v := v) hs
  have hi := plc_hi (E := E) (v := v) (n := n)
  have pl := plc_le (E := E) (v := v) (n := n)
  generalize plc E v n = p at lo hi pl ⊢
  unfold ins
  by_cases a : i < p
  · rw [if_pos a]
    by_cases b : j < p
    · rw [if_pos b]; exact hs i j hij (by omega)
    · rw [if_neg b]
      by_cases c : j = p
      · rw [if_pos c]; exact lo i a
      · rw [if_neg c]; exact hs i (j - 1) (by omega) (by omega)
  · rw [if_neg a, if_neg (show ¬ j < p by omega), if_neg (show ¬ j = p by omega)]
    by_cases c : i = p
    · rw [if_pos c]
      have := hi (j - 1) (by omega) (by omega)
      omega
    · rw [if_neg c]; exact hs (i - 1) (j - 1) (by omega) (by omega)
theorem hv_00 {g z : Nat → Int} {f : Nat} : hvI 0 g z f = 2520 * g f := rfl
theorem srt_s1 {g z : Nat → Int} {n : Nat} : (srt 0 g z (n + 1)).1 = ins (srt 0 g z n).1 (plc (srt 0 g z n).1 (2520 * g n) n) (2520 * g n) := rfl
theorem so_srt {g z : Nat → Int} : ∀ {n : Nat}, soE (srt 0 g z n).1 n
  | 0 => fun i j _ hj => absurd hj (Nat.not_lt_zero j)
  | n + 1 => by rw [srt_s1]; exact so_ins so_srt
theorem ins_f {A : Nat → Int} {φ : Int → Int} {p : Nat} {v : Int} : (fun j => φ (ins A p v j)) = ins (fun j => φ (A j)) p (φ v) := funext (fun j => by
  unfold ins
  by_cases a : j < p
  · rw [if_pos a, if_pos a]
  · rw [if_neg a, if_neg a]
    by_cases b : j = p
    · rw [if_pos b, if_pos b]
    · rw [if_neg b, if_neg b])
theorem pm_srt {g z : Nat → Int} {φ : Int → Int} : ∀ {n : Nat}, isum (fun j => φ ((srt 0 g z n).1 j)) n = isum (fun f => φ (2520 * g f)) n
  | 0 => rfl
  | n + 1 => by
    rw [srt_s1, ins_f, isum_ins plc_le, pm_srt]
    rfl
theorem pl_cn {E : Nat → Int} {v : Int} : ∀ {n : Nat}, soE E n → isum (fun j => if E j ≤ v then 1 else 0) n = plc E v n
  | 0, _ => rfl
  | n + 1, hs => by
    have ih := pl_cn (E := E) (v := v) (n := n) (fun i k h1 h2 => hs i k h1 (by omega))
    show isum (fun j => if E j ≤ v then 1 else 0) n + (if E n ≤ v then 1 else 0) = (if v < E n then plc E v n else n + 1 : Nat)
    by_cases a : v < E n
    · rw [if_pos a, if_neg (by omega), ih]
      omega
    · rw [if_neg a, if_pos (by omega), ih]
      have q : plc E v n = n := by
        by_cases q : plc E v n = n
        · exact q
        · have l := plc_le (E := E) (v := v) (n := n)
          have h := plc_hi (E := E) (v := v) (n := n) (plc E v n) (Nat.le_refl _) (by omega)
          have := hs (plc E v n) n (by omega) (by omega)
          omega
      rw [q]
      omega
def rkN (g : Nat → Int) (n f : Nat) : Nat := match n with
  | 0 => 0
  | n + 1 => rkN g n f + (if g n < g f ∨ (g n = g f ∧ n < f) then 1 else 0)
theorem rk_s {g : Nat → Int} {n f : Nat} : rkN g (n + 1) f = rkN g n f + (if g n < g f ∨ (g n = g f ∧ n < f) then 1 else 0) := rfl
theorem rk_le {g : Nat → Int} {f : Nat} : ∀ {n : Nat}, rkN g n f ≤ n
  | 0 => Nat.le_refl 0
  | n + 1 => by
    rw [rk_s]
    have := rk_le (g := g) (f := f) (n := n)
    split <;> omega
theorem rk_c {g : Nat → Int} {n : Nat} : ∀ {m : Nat}, m ≤ n → (rkN g m n : Int) = isum (fun f => if 2520 * g f ≤ 2520 * g n then 1 else 0) m
  | 0, _ => rfl
  | m + 1, h => by
    have ih := rk_c (g := g) (n := n) (m := m) (by omega)
    show ((rkN g m n + (if g m < g n ∨ (g m = g n ∧ m < n) then 1 else 0) : Nat) : Int) = isum (fun f => if 2520 * g f ≤ 2520 * g n then 1 else 0) m + (if 2520 * g m ≤ 2520 * g n then 1 else 0)
    rw [← ih]
    by_cases a : g m ≤ g n
    · rw [if_pos (show g m < g n ∨ (g m = g n ∧ m < n) by omega), if_pos (by omega)]
      omega
    · rw [if_neg (show ¬ (g m < g n ∨ (g m = g n ∧ m < n)) by omega), if_neg (by omega)]
      omega
theorem rk_p {g z : Nat → Int} {n : Nat} : rkN g n n = plc (srt 0 g z n).1 (2520 * g n) n := by
  have a := rk_c (g := g) (n := n) (Nat.le_refl n)
  have b := pl_cn (v := 2520 * g n) (so_srt (g := g) (z := z) (n := n))
  have c := pm_srt (g := g) (z := z) (φ := fun x => if x ≤ 2520 * g n then 1 else 0) (n := n)
  have c : isum (fun j => if (srt 0 g z n).1 j ≤ 2520 * g n then 1 else 0) n = isum (fun f => if 2520 * g f ≤ 2520 * g n then 1 else 0) n := c
  omega
theorem isum_0 : ∀ {n : Nat} {g : Nat → Int}, (∀ j, j < n → g j = 0) → isum g n = 0 := fun h => isum_z h
/-- the rank of each, and what stands at each place -/
theorem rk_at {g z : Nat → Int} : ∀ {n : Nat}, (∀ f, f < n → rkN g n f < n ∧ (srt 0 g z n).1 (rkN g n f) = 2520 * g f) ∧ ∀ k, k < n → 2520 * isum (fun f => if rkN g n f = k then g f else 0) n = (srt 0 g z n).1 k
  | 0 => ⟨fun f hf => absurd hf (Nat.not_lt_zero f), fun k hk => absurd hk (Nat.not_lt_zero k)⟩
  | n + 1 => by
    obtain ⟨ih1, ih2⟩ := rk_at (g := g) (z := z) (n := n)
    have so := so_srt (g := g) (z := z) (n := n)
    have rp := rk_p (g := g) (z := z) (n := n)
    have lo := plc_lo (v := 2520 * g n) so
    have hi := plc_hi (E := (srt 0 g z n).1) (v := 2520 * g n) (n := n)
    have pl := plc_le (E := (srt 0 g z n).1) (v := 2520 * g n) (n := n)
    rw [srt_s1]
    generalize (srt 0 g z n).1 = E at ih1 ih2 so rp lo hi pl ⊢
    generalize plc E (2520 * g n) n = p at rp lo hi pl ⊢
    have rn : rkN g (n + 1) n = p := by
      rw [rk_s, rp, if_neg (by omega), Nat.add_zero]
    have rf : ∀ f, f < n → rkN g (n + 1) f = if rkN g n f < p then rkN g n f else rkN g n f + 1 := fun f hf => by
      obtain ⟨q1, q2⟩ := ih1 f hf
      rw [rk_s]
      by_cases a : rkN g n f < p
      · have := lo _ a
        rw [if_pos a, if_neg (by omega), Nat.add_zero]
      · have := hi _ (by omega) q1
        rw [if_neg a, if_pos (by omega)]
    refine ⟨fun f hf => ?_, fun k hk => ?_⟩
    · by_cases e : f = n
      · rw [e, rn]
        exact ⟨by omega, by unfold ins; rw [if_neg (Nat.lt_irrefl p), if_pos rfl]⟩
      · obtain ⟨q1, q2⟩ := ih1 f (by omega)
        rw [rf f (by omega)]
        by_cases a : rkN g n f < p
        · rw [if_pos a]
          exact ⟨by omega, by unfold ins; rw [if_pos a]; exact q2⟩
        · rw [if_neg a]
          exact ⟨by omega, by unfold ins; rw [if_neg (by omega), if_neg (by omega)]; exact q2⟩
    · show 2520 * (isum (fun f => if rkN g (n + 1) f = k then g f else 0) n + (if rkN g (n + 1) n = k then g n else 0)) = ins E p (2520 * g n) k
      rw [rn]
      unfold ins
      by_cases a : k < p
      · have e : isum (fun f => if rkN g (n + 1) f = k then g f else 0) n = isum (fun f => if rkN g n f = k then g f else 0) n := isum_cg (fun f hf => by
          rw [rf f hf]
          by_cases b : rkN g n f < p
          · rw [if_pos b]
          · rw [if_neg b, if_neg (by omega), if_neg (by omega)])
        rw [e, if_neg (show ¬ p = k by omega), if_pos a, Int.add_zero]
        exact ih2 k (by omega)
      · rw [if_neg a]
        by_cases b : k = p
        · have e : isum (fun f => if rkN g (n + 1) f = k then g f else 0) n = 0 := isum_z (fun f hf => by
            rw [rf f hf]
            by_cases c : rkN g n f < p
            · rw [if_pos c, if_neg (by omega)]
            · rw [if_neg c, if_neg (by omega)])
          rw [e, if_pos b.symm, if_pos b, Int.zero_add]
        · have e : isum (fun f => if rkN g (n + 1) f = k then g f else 0) n = isum (fun f => if rkN g n f = k - 1 then g f else 0) n := isum_cg (fun f hf => by
            rw [rf f hf]
            by_cases c : rkN g n f < p
            · rw [if_pos c, if_neg (by omega), if_neg (by omega)]
            · rw [if_neg c]
              by_cases d : rkN g n f = k - 1
              · rw [if_pos d, if_pos (by omega)]
              · rw [if_neg d, if_neg (by omega)])
          rw [e, if_neg (show ¬ p = k by omega), if_neg b, Int.add_zero]
          exact ih2 (k - 1) (by omega)
def duI (g h : Nat → Int) (n k : Nat) : Int := isum (fun f => if rkN h n f = k then h f else 0) n - isum (fun f => if rkN g n f = k then g f else 0) n
/-! coins: what comes even -/
def smF (D : Nat → Int) (k s : Nat) : Int := match k with
  | 0 => 0
  | k + 1 => smF D k s + (if Nat.testBit s k = true then D k else 0)
def gdF (D : Nat → Int) (k s : Nat) : Bool := match k with
  | 0 => true
  | k + 1 => gdF D k s && decide (0 ≤ smF D (k + 1) s)
def evF (D : Nat → Int) (n s : Nat) : Bool := gdF D n s && decide (smF D n s = 0)
theorem smF_s {D : Nat → Int} {k s : Nat} : smF D (k + 1) s = smF D k s + (if Nat.testBit s k = true then D k else 0) := rfl
theorem gdF_s {D : Nat → Int} {k s : Nat} : gdF D (k + 1) s = (gdF D k s && decide (0 ≤ smF D (k + 1) s)) := rfl
theorem gd_n {D : Nat → Int} {s : Nat} : ∀ {k : Nat}, gdF D k s = true → 0 ≤ smF D k s
  | 0, _ => Int.le_refl 0
  | k + 1, h => of_decide_eq_true ((Bool.and_eq_true _ _).mp h).2
theorem gd_0 {D : Nat → Int} {k s : Nat} (h : Nat.testBit s k = false) : smF D (k + 1) s = smF D k s ∧ gdF D (k + 1) s = gdF D k s := by
  have e : smF D (k + 1) s = smF D k s := by rw [smF_s, h, if_neg (by decide), Int.add_zero]
  refine ⟨e, ?_⟩
  rw [gdF_s, e]
  cases q : gdF D k s with
  | false => rfl
  | true => rw [decide_eq_true (gd_n q)]; rfl
theorem sm_z {D : Nat → Int} : ∀ {k : Nat}, smF D k 0 = 0 ∧ gdF D k 0 = true
  | 0 => ⟨rfl, rfl⟩
  | k + 1 => by
    have a := gd_0 (D := D) (Nat.zero_testBit k)
    rw [a.1, a.2]
    exact sm_z
theorem sm_lo {D : Nat → Int} {T r : Nat} : ∀ {k : Nat}, k ≤ T → smF D k (2 ^ T + r) = smF D k r ∧ gdF D k (2 ^ T + r) = gdF D k r
  | 0, _ => ⟨rfl, rfl⟩
  | k + 1, h => by
    have ih := sm_lo (D := D) (T := T) (r := r) (k := k) (by omega)
    have e : smF D (k + 1) (2 ^ T + r) = smF D (k + 1) r := by rw [smF_s, smF_s, ih.1, Nat.testBit_two_pow_add_gt (by omega)]
    exact ⟨e, by rw [gdF_s, gdF_s, ih.2, e]⟩
theorem sm_hi {D : Nat → Int} {T r : Nat} (hr : r < 2 ^ T) : ∀ {d : Nat}, smF D (T + 1 + d) (2 ^ T + r) = smF D (T + 1 + d) r + D T ∧ gdF D (T + 1 + d) (2 ^ T + r) = (gdF D (T + 1 + d) r && decide (0 ≤ smF D (T + 1 + d) (2 ^ T + r)))
  | 0 => by
    have l := sm_lo (D := D) (T := T) (r := r) (Nat.le_refl T)
    have z := gd_0 (D := D) (Nat.testBit_lt_two_pow hr)
    have t : Nat.testBit (2 ^ T + r) T = true := by rw [Nat.testBit_two_pow_add_eq, Nat.testBit_lt_two_pow hr]; rfl
    refine ⟨?_, ?_⟩
    · show smF D (T + 1) (2 ^ T + r) = smF D (T + 1) r + D T
      rw [smF_s, l.1, t, if_pos rfl, z.1]
    · show gdF D (T + 1) (2 ^ T + r) = (gdF D (T + 1) r && decide (0 ≤ smF D (T + 1) (2 ^ T + r)))
      rw [gdF_s, l.2, z.2]
  | d + 1 => by
    have ih := sm_hi (D := D) hr (d := d)
    have p : 2 ^ (T + 1) ≤ 2 ^ (T + 1 + d) := Nat.pow_le_pow_right (by decide) (by omega)
    have p1 : 2 ^ (T + 1) = 2 ^ T * 2 := Nat.pow_succ 2 T
    have z1 := gd_0 (D := D) (k := T + 1 + d) (Nat.testBit_lt_two_pow (show 2 ^ T + r < 2 ^ (T + 1 + d) by omega))
    have z2 := gd_0 (D := D) (k := T + 1 + d) (Nat.testBit_lt_two_pow (show r < 2 ^ (T + 1 + d) by omega))
    show smF D (T + 1 + d + 1) (2 ^ T + r) = smF D (T + 1 + d + 1) r + D T ∧ gdF D (T + 1 + d + 1) (2 ^ T + r) = (gdF D (T + 1 + d + 1) r && decide (0 ≤ smF D (T + 1 + d + 1) (2 ^ T + r)))
    rw [z1.1, z1.2, z2.1, z2.2]
    exact ih
theorem sm_t {D : Nat → Int} {T r n : Nat} (hr : r < 2 ^ T) (hn : T < n) : smF D n (2 ^ T + r) = smF D n r + D T ∧ gdF D n (2 ^ T + r) = (gdF D n r && decide (0 ≤ smF D n (2 ^ T + r))) := by
  have h := sm_hi (D := D) hr (d := n - (T + 1))
  rw [show T + 1 + (n - (T + 1)) = n by omega] at h
  exact h
theorem sm_b {D : Nat → Int} {s : Nat} : ∀ {k : Nat}, (∀ j, j < k → -99 ≤ D j ∧ D j ≤ 99) → -99 * k ≤ smF D k s ∧ smF D k s ≤ 99 * k
  | 0, _ => by show -99 * ((0 : Nat) : Int) ≤ 0 ∧ 0 ≤ 99 * ((0 : Nat) : Int); omega
  | k + 1, h => by
    have ih := sm_b (D := D) (s := s) (k := k) (fun j hj => h j (by omega))
    have := h k (by omega)
    rw [smF_s]
    split <;> omega
