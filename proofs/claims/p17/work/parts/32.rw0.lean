/-! ===== calls that only ask: both answer the same ===== -/
theorem twI_s {sx sm : ab_Sp} {ax am : List ab_V} (v : ab_S → Int32) (hv : ∀ σ σ', rl_I σ → ck_J 0 σ σ' → v σ' = v σ) (hx : ∀ σ P, rl_I σ → (∀ σ', ck_J 0 σ σ' → P (some (.inl (.inl (v σ)))) σ') → sx ax σ P) (hm : ∀ σ P, rl_I σ → (∀ σ', ck_J 0 σ σ' → P (some (.inl (.inl (v σ)))) σ') → sm am σ P) : twI True sx sm ax am := fun σ hI P1 h1 => hx σ P1 hI (fun σ1 k1 => h1 (v σ) σ1 (fun P2 h2 => hm σ1 P2 (hI.k k1) (fun σ2 k2 => by rw [hv σ σ1 hI k1]; exact h2 (v σ) σ2 ((hI.k k1).k k2) (fun _ => rfl))))
theorem twL_s {sx sm : ab_Sp} {ax am : List ab_V} (v : ab_S → Int64) (hv : ∀ σ σ', rl_I σ → ck_J 0 σ σ' → v σ' = v σ) (hx : ∀ σ P, rl_I σ → (∀ σ', ck_J 0 σ σ' → P (some (.inl (.inr (v σ)))) σ') → sx ax σ P) (hm : ∀ σ P, rl_I σ → (∀ σ', ck_J 0 σ σ' → P (some (.inl (.inr (v σ)))) σ') → sm am σ P) : twL True sx sm ax am := fun σ hI P1 h1 => hx σ P1 hI (fun σ1 k1 => h1 (v σ) σ1 (fun P2 h2 => hm σ1 P2 (hI.k k1) (fun σ2 k2 => by rw [hv σ σ1 hI k1]; exact h2 (v σ) σ2 ((hI.k k1).k k2) (fun _ => rfl))))
theorem twI_p {sx sm : ab_Sp} {ax am : List ab_V} (v : ab_S → Int32) (hx : ∀ σ P, rl_I σ → P (some (.inl (.inl (v σ)))) σ → sx ax σ P) (hm : ∀ σ P, rl_I σ → P (some (.inl (.inl (v σ)))) σ → sm am σ P) : twI True sx sm ax am := fun σ hI P1 h1 => hx σ P1 hI (h1 (v σ) σ (fun P2 h2 => hm σ P2 hI (h2 (v σ) σ hI (fun _ => rfl))))
theorem twL_p {sx sm : ab_Sp} {ax am : List ab_V} (v : ab_S → Int64) (hx : ∀ σ P, rl_I σ → P (some (.inl (.inr (v σ)))) σ → sx ax σ P) (hm : ∀ σ P, rl_I σ → P (some (.inl (.inr (v σ)))) σ → sm am σ P) : twL True sx sm ax am := fun σ hI P1 h1 => hx σ P1 hI (h1 (v σ) σ (fun P2 h2 => hm σ P2 hI (h2 (v σ) σ hI (fun _ => rfl))))
def sel (x : Int) (l : List Int32) : Int32 := match l with
  | [] => -2
  | a :: t => if x = 0 then a else sel (x - 1) t
theorem sel_d {x : Int} : ∀ {l : List Int32}, (x < 0 ∨ (l.length : Int) ≤ x) → sel x l = -2
  | [], _ => rfl
  | a :: t, h => by
    have h : x < 0 ∨ ((t.length + 1 : Nat) : Int) ≤ x := h
    unfold sel
    rw [if_neg (by omega)]
    exact sel_d (by omega)
theorem tn4 {x1 : Int32} (a1 : bt x1 0 3 = true) : 0 ≤ x1.toInt ∧ x1.toInt ≤ 3 := by
  have k1 := le32 (bt_of a1).1
  have k2 := le32 (bt_of a1).2
  rw [t0i] at k1
  rw [show (3 : Int32).toInt = 3 from rfl] at k2
  exact ⟨k1, k2⟩
theorem rl_kn {σ : ab_S} (hI : rl_I σ) {i : Nat} (hi : i < 4) : kn (fun f => σ.1 42 0 (8 * i + f)) (fun f => σ.1 43 0 (8 * i + f)) (σ.1 41 0 i).toInt.toNat = kn (σ.1 21 i) (σ.1 22 i) (σ.1 20 i 0).toInt.toNat := by
  have hT := hI.2.2.1 _ hi
  have hn : 0 ≤ (σ.1 20 i 0).toInt ∧ (σ.1 20 i 0).toInt ≤ 8 := hI.1 20 _ 0
  rw [← hT.1]
  exact (kn_cg (fun f hf => ⟨(hT.2 f (by omega)).1, (hT.2 f (by omega)).2.1⟩)).symm
