theorem ab_wp_eq {M : ab_M} {cc : ByteArray} {X : Option (Nat × (Nat → Int32))} {P : ab_P} {pc : Nat} {L : ab_L} {st : List ab_V} {σ : ab_S} (hM : ab_mo M) : ab_wp M cc X P pc L st σ = ab_st M cc X pc L st σ (ab_wp M cc X P) P :=
  propext ⟨fun h => h (fun pc L st σ => ab_st M cc X pc L st σ (ab_wp M cc X P) P) (fun _ _ _ _ q => ab_st_m hM (fun _ _ _ _ q => ab_wp_step hM q) (fun _ _ q => q) q), fun h => ab_wp_step hM h⟩
theorem ab_go {M : ab_M} {cc : ByteArray} {X : Option (Nat × (Nat → Int32))} {P : ab_P} {pc : Nat} {L : ab_L} {st : List ab_V} {σ : ab_S} {i : Instr} {len : Nat} {B : Prop} (hM : ab_mo M) (d : decode cc pc = .ok (i, len)) (h : ab_ex M X i len pc L st σ (ab_wp M cc X P) P = B) : ab_wp M cc X P pc L st σ = B := by
  rw [ab_wp_eq hM]
  unfold ab_st
  rw [d]
  exact h
def ab_lnp (o : Option Nat) (f : Nat → Prop) : Prop := match o with
  | some n => f n
  | none => False
theorem e10 : ((1 : Int32) = 0) = False := by decide
theorem e01 : ((0 : Int32) = 1) = False := by decide
theorem ab_if {Q c A B : Prop} [Decidable c] (h : Q ↔ ((c → A) ∧ (¬ c → B))) : Q = if c then A else B := by
  by_cases hc : c
  · rw [if_pos hc]; exact propext ⟨fun q => (h.mp q).1 hc, fun q => h.mpr ⟨fun _ => q, fun n => absurd hc n⟩⟩
  · rw [if_neg hc]; exact propext ⟨fun q => (h.mp q).2 hc, fun q => h.mpr ⟨fun n => absurd n hc, fun _ => q⟩⟩
