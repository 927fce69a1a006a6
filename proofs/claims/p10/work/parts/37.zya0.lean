/-! coins: sets of places as numbers below 256 -/
def slF (m k c : Nat) : List Nat := match k with
  | 0 => []
  | k + 1 => c :: (if c = 0 then [] else slF m k ((c - 1) &&& m))
theorem sl_eq : ∀ m, m < 256 → slF m 256 m = ((List.range 256).filter (fun x => Nat.beq (x &&& m) x)).reverse := by decide +kernel
theorem sl_mem {m x : Nat} (hm : m < 256) : x ∈ slF m 256 m ↔ x < 256 ∧ x &&& m = x := by
  rw [sl_eq m hm, List.mem_reverse, List.mem_filter, List.mem_range]
  exact ⟨fun h => ⟨h.1, Nat.eq_of_beq_eq_true h.2⟩, fun h => ⟨h.1, by rw [h.2]; exact Nat.beq_refl x⟩⟩
def pcN (s : Nat) : Nat := s % 2 + s / 2 % 2 + s / 4 % 2 + s / 8 % 2 + s / 16 % 2 + s / 32 % 2 + s / 64 % 2 + s / 128 % 2
theorem pc_8 (s : Nat) : pcN s ≤ 8 := by unfold pcN; omega
theorem pc_1 : ∀ s, s < 256 → ¬ s = 0 → 1 ≤ pcN s := by decide +kernel
def ckA (s g : Nat) : Bool := !Nat.beq (g &&& s) g || (Nat.beq (s - g) (s ^^^ g) && (Nat.ble g s && (Nat.beq g 0 || (Nat.ble ((s ^^^ g) + 1) s && Nat.ble (pcN (s ^^^ g) + 1) (pcN s)))))
theorem ckA_all : (List.range 256).all (fun s => (List.range 256).all (fun g => ckA s g)) = true := by decide +kernel
theorem all_2 {c : Nat → Nat → Bool} (h : (List.range 256).all (fun s => (List.range 256).all (fun g => c s g)) = true) {s g : Nat} (hs : s < 256) (hg : g < 256) : c s g = true := List.all_eq_true.mp (List.all_eq_true.mp h s (List.mem_range.mpr hs)) g (List.mem_range.mpr hg)
theorem xr_sb (s : Nat) (hs : s < 256) (g : Nat) (hg : g < 256) (h : g &&& s = g) : s - g = s ^^^ g ∧ g ≤ s ∧ (¬ g = 0 → s ^^^ g < s ∧ pcN (s ^^^ g) + 1 ≤ pcN s) := by
  have a := all_2 ckA_all hs hg
  unfold ckA at a
  rw [h, Nat.beq_refl, Bool.not_true, Bool.false_or] at a
  obtain ⟨a1, a⟩ := (Bool.and_eq_true _ _).mp a
  obtain ⟨a2, a⟩ := (Bool.and_eq_true _ _).mp a
  refine ⟨Nat.eq_of_beq_eq_true a1, Nat.le_of_ble_eq_true a2, fun z => ?_⟩
  rcases (Bool.or_eq_true _ _).mp a with a | a
  · exact absurd (Nat.eq_of_beq_eq_true a) z
  · obtain ⟨a3, a4⟩ := (Bool.and_eq_true _ _).mp a
    exact ⟨Nat.le_of_ble_eq_true a3, Nat.le_of_ble_eq_true a4⟩
def otN (s : Nat) : Nat := s &&& (s - 1)
def lwN (s : Nat) : Nat := s - otN s
def ckB (s x : Nat) : Bool := Nat.beq s 0 || (!Nat.beq (x &&& otN s) x || (Nat.beq ((x + lwN s) &&& s) (x + lwN s) && (Nat.ble (x + lwN s + 1) 256 && !Nat.beq (x + lwN s) 0)))
theorem ckB_all : (List.range 256).all (fun s => (List.range 256).all (fun g => ckB s g)) = true := by decide +kernel
theorem lwn_g (s : Nat) (hs : s < 256) (z : ¬ s = 0) (x : Nat) (hx : x < 256) (h : x &&& otN s = x) : (x + lwN s) &&& s = x + lwN s ∧ x + lwN s < 256 ∧ ¬ x + lwN s = 0 := by
  have a := all_2 ckB_all hs hx
  unfold ckB at a
  rcases (Bool.or_eq_true _ _).mp a with a | a
  · exact absurd (Nat.eq_of_beq_eq_true a) z
  · rw [h, Nat.beq_refl, Bool.not_true, Bool.false_or] at a
    obtain ⟨a1, a⟩ := (Bool.and_eq_true _ _).mp a
    obtain ⟨a2, a3⟩ := (Bool.and_eq_true _ _).mp a
    exact ⟨Nat.eq_of_beq_eq_true a1, Nat.le_of_ble_eq_true a2, fun e => by rw [e] at a3; cases a3⟩
def lpN (s : Nat) : Nat := if s % 2 = 1 then 0 else if s / 2 % 2 = 1 then 1 else if s / 4 % 2 = 1 then 2 else if s / 8 % 2 = 1 then 3 else if s / 16 % 2 = 1 then 4 else if s / 32 % 2 = 1 then 5 else if s / 64 % 2 = 1 then 6 else 7
def ckC (s g : Nat) : Bool := Nat.beq s 0 || (Nat.testBit s (lpN s) && (!Nat.beq (g &&& s) g || (!Nat.testBit g (lpN s) || (Nat.beq ((g - lwN s) &&& otN s) (g - lwN s) && Nat.ble (lwN s) g))))
theorem ckC_all : (List.range 256).all (fun s => (List.range 256).all (fun g => ckC s g)) = true := by decide +kernel
theorem lwn_p (s : Nat) (hs : s < 256) (z : ¬ s = 0) : ∃ p, Nat.testBit s p = true ∧ ∀ g, g < 256 → g &&& s = g → Nat.testBit g p = true → (g - lwN s) &&& otN s = g - lwN s ∧ lwN s ≤ g := by
  refine ⟨lpN s, ?_, fun g hg h t => ?_⟩
  · have a := all_2 ckC_all hs (show 0 < 256 by decide)
    unfold ckC at a
    rcases (Bool.or_eq_true _ _).mp a with a | a
    · exact absurd (Nat.eq_of_beq_eq_true a) z
    · exact ((Bool.and_eq_true _ _).mp a).1
  · have a := all_2 ckC_all hs hg
    unfold ckC at a
    rcases (Bool.or_eq_true _ _).mp a with a | a
    · exact absurd (Nat.eq_of_beq_eq_true a) z
    · have a := ((Bool.and_eq_true _ _).mp a).2
      rw [h, Nat.beq_refl, t, Bool.not_true, Bool.false_or, Bool.false_or] at a
      obtain ⟨a1, a2⟩ := (Bool.and_eq_true _ _).mp a
      exact ⟨Nat.eq_of_beq_eq_true a1, Nat.le_of_ble_eq_true a2⟩
theorem sm_tb {g s : Nat} (h : g &&& s = g) {p : Nat} (hp : Nat.testBit g p = true) : Nat.testBit s p = true := by
  rw [← h, Nat.testBit_and] at hp
  exact ((Bool.and_eq_true _ _).mp hp).2
theorem tb_sm {g s : Nat} (h : ∀ p, Nat.testBit g p = true → Nat.testBit s p = true) : g &&& s = g := Nat.eq_of_testBit_eq (fun p => by
  rw [Nat.testBit_and]
  cases e : Nat.testBit g p with
  | false => rfl
  | true => rw [h p e]; rfl)
theorem xr_tb {g s : Nat} (h : g &&& s = g) (p : Nat) : Nat.testBit (s ^^^ g) p = (Nat.testBit s p && !Nat.testBit g p) := by
  rw [Nat.testBit_xor]
  cases e : Nat.testBit g p with
  | false => cases Nat.testBit s p <;> rfl
  | true => rw [sm_tb h e]; rfl
/-- what is taken out of the rest can be taken out first -/
theorem xr_x {s a b : Nat} (ha : a &&& s = a) (hb : b &&& (s ^^^ a) = b) : b &&& s = b ∧ a &&& (s ^^^ b) = a ∧ (s ^^^ b) ^^^ a = (s ^^^ a) ^^^ b := by
  have h1 : b &&& s = b := tb_sm (fun p hp => by
    have := sm_tb hb hp
    rw [xr_tb ha] at this
    exact ((Bool.and_eq_true _ _).mp this).1)
  refine ⟨h1, tb_sm (fun p hp => ?_), ?_⟩
  · rw [xr_tb h1, sm_tb ha hp]
    cases e : Nat.testBit b p with
    | false => rfl
    | true =>
      have := sm_tb hb e
      rw [xr_tb ha, hp] at this
      rw [Bool.not_true, Bool.and_false] at this
      cases this
  · rw [Nat.xor_assoc, Nat.xor_comm b a, ← Nat.xor_assoc]
/-! the most groups, as the class and as the reference find them -/
def cgP (ev : Nat → Bool) (N : Nat) (C : Nat → Int) : Prop := C 0 = 0 ∧ (∀ s, 0 < s → s < N → ∀ x, x < 256 → x &&& otN s = x → ev (x + lwN s) = true → C (s - (x + lwN s)) + 1 ≤ C s) ∧ ∀ s, 0 < s → s < N → C s = -8 ∨ ∃ x, x < 256 ∧ x &&& otN s = x ∧ ev (x + lwN s) = true ∧ C s = C (s - (x + lwN s)) + 1
def rgP (ev : Nat → Bool) (N : Nat) (R : Nat → Int) : Prop := R 0 = 0 ∧ (∀ s, 0 < s → s < N → ∀ g, g < 256 → g &&& s = g → ¬ g = 0 → ev g = true → 0 ≤ R (s ^^^ g) → R (s ^^^ g) + 1 ≤ R s) ∧ ∀ s, 0 < s → s < N → R s = -9 ∨ ∃ g, g < 256 ∧ g &&& s = g ∧ ¬ g = 0 ∧ ev g = true ∧ 0 ≤ R (s ^^^ g) ∧ R s = R (s ^^^ g) + 1
theorem cg_n {ev : Nat → Bool} {N : Nat} {C : Nat → Int} (hN : N ≤ 256) (h : cgP ev N C) : ∀ (b s : Nat), s < b → s < N → C s < 0 → C s + 9 ≤ pcN s
  | 0, s, hb, _, _ => absurd hb (Nat.not_lt_zero s)
  | b + 1, s, hb, hs, hc => by
    by_cases z : s = 0
    · rw [z, h.1] at hc
      exact absurd hc (by decide)
    · rcases h.2.2 s (by omega) hs with e | ⟨x, x1, x2, x3, e⟩
      · have := pc_1 s (by omega) z
        omega
      · obtain ⟨g1, g2, g3⟩ := lwn_g s (by omega) z x x1 x2
        obtain ⟨q1, q2, q3⟩ := xr_sb s (by omega) _ g2 g1
        obtain ⟨q4, q5⟩ := q3 g3
        rw [q1] at e
        by_cases n : C (s ^^^ (x + lwN s)) < 0
        · have := cg_n hN h b (s ^^^ (x + lwN s)) (by omega) (by omega) n
          omega
        · omega
theorem rg_x {ev : Nat → Bool} {N : Nat} {R : Nat → Int} (hN : N ≤ 256) (h : rgP ev N R) : ∀ (b s : Nat), s < b → s < N → ∀ p, Nat.testBit s p = true → 0 ≤ R s → ∃ g, g < 256 ∧ g &&& s = g ∧ Nat.testBit g p = true ∧ ev g = true ∧ 0 ≤ R (s ^^^ g) ∧ R s ≤ R (s ^^^ g) + 1
  | 0, s, hb, _, _, _, _ => absurd hb (Nat.not_lt_zero s)
  | b + 1, s, hb, hs, p, hp, hr => by
    have z : ¬ s = 0 := fun z => by rw [z, Nat.zero_testBit] at hp; cases hp
    rcases h.2.2 s (by omega) hs with e | ⟨g, g1, g2, g3, g4, g5, e⟩
    · omega
    · by_cases t : Nat.testBit g p = true
      · exact ⟨g, g1, g2, t, g4, g5, by omega⟩
      · obtain ⟨q1, q2, q3⟩ := xr_sb s (by omega) g g1 g2
        obtain ⟨q4, q5⟩ := q3 g3
        have tp : Nat.testBit (s ^^^ g) p = true := by
          rw [xr_tb g2, hp]
          cases u : Nat.testBit g p with
          | false => rfl
          | true => exact absurd u t
        obtain ⟨a, a1, a2, a3, a4, a5, a6⟩ := rg_x hN h b (s ^^^ g) (by omega) (by omega) p tp g5
        obtain ⟨x1, x2, x3⟩ := xr_x g2 a2
        obtain ⟨r1, r2, r3⟩ := xr_sb s (by omega) a a1 x1
        have l : s ^^^ a ≤ s := by omega
        have nz : 0 < s ^^^ a := by
          by_cases w : s ^^^ a = 0
          · rw [w, Nat.and_zero] at x2
            exact absurd x2.symm g3
          · omega
        have k := h.2.1 (s ^^^ a) nz (by omega) g g1 x2 g3 g4 (by rw [x3]; exact a5)
        rw [x3] at k
        exact ⟨a, a1, x1, a3, a4, by omega, by omega⟩
theorem cr_eq {ev : Nat → Bool} {N : Nat} {C R : Nat → Int} (hN : N ≤ 256) (hc : cgP ev N C) (hr : rgP ev N R) : ∀ (b s : Nat), s < b → s < N → (0 ≤ R s → C s = R s) ∧ (R s < 0 → C s < 0)
  | 0, s, hb, _ => absurd hb (Nat.not_lt_zero s)
  | b + 1, s, hb, hs => by
    by_cases z : s = 0
    · rw [z, hc.1, hr.1]
      exact ⟨fun _ => rfl, fun w => w⟩
    · have s256 : s < 256 := by omega
      have up : C s < 0 ∨ ∃ g, g < 256 ∧ g &&& s = g ∧ ¬ g = 0 ∧ ev g = true ∧ 0 ≤ R (s ^^^ g) ∧ C s = R (s ^^^ g) + 1 := by
        rcases hc.2.2 s (by omega) hs with e | ⟨x, x1, x2, x3, e⟩
        · exact Or.inl (by omega)
        · obtain ⟨g1, g2, g3⟩ := lwn_g s s256 z x x1 x2
          obtain ⟨q1, q2, q3⟩ := xr_sb s s256 _ g2 g1
          obtain ⟨q4, q5⟩ := q3 g3
          rw [q1] at e
          have ih := cr_eq hN hc hr b (s ^^^ (x + lwN s)) (by omega) (by omega)
          by_cases n : 0 ≤ R (s ^^^ (x + lwN s))
          · exact Or.inr ⟨x + lwN s, g2, g1, g3, x3, n, by rw [e, ih.1 n]⟩
          · have := cg_n hN hc b (s ^^^ (x + lwN s)) (by omega) (by omega) (ih.2 (by omega))
            have := pc_8 s
            exact Or.inl (by omega)
      refine ⟨fun r0 => ?_, fun r0 => ?_⟩
      · obtain ⟨p, p2, p3⟩ := lwn_p s s256 z
        obtain ⟨g, g1, g2, g3, g4, g5, g6⟩ := rg_x hN hr (s + 1) s (by omega) hs p p2 r0
        obtain ⟨y1, y2⟩ := p3 g g1 g2 g3
        have k := hc.2.1 s (by omega) hs (g - lwN s) (by omega) y1 (by rw [show g - lwN s + lwN s = g by omega]; exact g4)
        rw [show g - lwN s + lwN s = g by omega] at k
        obtain ⟨q1, q2, q3⟩ := xr_sb s s256 g g1 g2
        have gz : ¬ g = 0 := fun w => by rw [w, Nat.zero_testBit] at g3; cases g3
        obtain ⟨q4, q5⟩ := q3 gz
        rw [q1] at k
        have ih := (cr_eq hN hc hr b (s ^^^ g) (by omega) (by omega)).1 g5
        rcases up with e | ⟨a, a1, a2, a3, a4, a5, e⟩
        · omega
        · have := hr.2.1 s (by omega) hs a a1 a2 a3 a4 a5
          omega
      · rcases up with e | ⟨a, a1, a2, a3, a4, a5, e⟩
        · exact e
        · have := hr.2.1 s (by omega) hs a a1 a2 a3 a4 a5
          omega
