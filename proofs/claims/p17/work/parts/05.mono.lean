theorem ab_i1_s {st : List ab_V} {f : Int32 → List ab_V → Prop} (q : ab_i1 st f) : ∃ x r, st = .inl (.inl x) :: r ∧ f x r := by
  rcases st with _ | ⟨(x | x) | o, r⟩ <;> first | exact ⟨x, r, rfl, q⟩ | exact q.elim
theorem ab_l1_s {st : List ab_V} {f : Int64 → List ab_V → Prop} (q : ab_l1 st f) : ∃ x r, st = .inl (.inr x) :: r ∧ f x r := by
  rcases st with _ | ⟨(x | x) | o, r⟩ <;> first | exact ⟨x, r, rfl, q⟩ | exact q.elim
theorem ab_i2_s {st : List ab_V} {f : Int32 → Int32 → List ab_V → Prop} (q : ab_i2 st f) : ∃ x y r, st = .inl (.inl y) :: .inl (.inl x) :: r ∧ f x y r := by
  rcases st with _ | ⟨(y | y) | o, _ | ⟨(x | x) | o', r⟩⟩ <;> first | exact ⟨x, y, r, rfl, q⟩ | exact q.elim
theorem ab_l2_s {st : List ab_V} {f : Int64 → Int64 → List ab_V → Prop} (q : ab_l2 st f) : ∃ x y r, st = .inl (.inr y) :: .inl (.inr x) :: r ∧ f x y r := by
  rcases st with _ | ⟨(y | y) | o, _ | ⟨(x | x) | o', r⟩⟩ <;> first | exact ⟨x, y, r, rfl, q⟩ | exact q.elim
theorem ab_q1_s {st : List ab_V} {f : Option ab_Nm → List ab_V → Prop} (q : ab_q1 st f) : ∃ x r, st = .inr x :: r ∧ f x r := by
  rcases st with _ | ⟨(x | x) | o, r⟩ <;> first | exact ⟨o, r, rfl, q⟩ | exact q.elim
theorem ab_r1_s {st : List ab_V} {f : Nat → Nat → List ab_V → Prop} (q : ab_r1 st f) : ∃ k i r, st = .inr (some (k, i)) :: r ∧ f k i r := by
  rcases st with _ | ⟨(x | x) | (_ | ⟨k, i⟩), r⟩ <;> first | exact ⟨k, i, r, rfl, q⟩ | exact q.elim
theorem ab_li_s {L : ab_L} {k : Nat} {f : Int32 → Prop} (q : ab_li L k f) : ∃ x, ab_at L k = some (.inl (.inl x)) ∧ f x := by
  unfold ab_li at q
  split at q
  · exact ⟨_, by assumption, q⟩
  · exact q.elim
theorem ab_ll_s {L : ab_L} {k : Nat} {f : Int64 → Prop} (q : ab_ll L k f) : ∃ x, ab_at L k = some (.inl (.inr x)) ∧ f x := by
  unfold ab_ll at q
  split at q
  · exact ⟨_, by assumption, q⟩
  · exact q.elim
theorem ab_la_s {L : ab_L} {k : Nat} {f : Option ab_Nm → Prop} (q : ab_la L k f) : ∃ x, ab_at L k = some (.inr x) ∧ f x := by
  unfold ab_la at q
  split at q
  · exact ⟨_, by assumption, q⟩
  · exact q.elim
theorem ab_li_i {L : ab_L} {k : Nat} {f : Int32 → Prop} {x : Int32} (h : ab_at L k = some (.inl (.inl x))) (q : f x) : ab_li L k f := by
  unfold ab_li; rw [h]; exact q
theorem ab_ll_i {L : ab_L} {k : Nat} {f : Int64 → Prop} {x : Int64} (h : ab_at L k = some (.inl (.inr x))) (q : f x) : ab_ll L k f := by
  unfold ab_ll; rw [h]; exact q
theorem ab_la_i {L : ab_L} {k : Nat} {f : Option ab_Nm → Prop} {x : Option ab_Nm} (h : ab_at L k = some (.inr x)) (q : f x) : ab_la L k f := by
  unfold ab_la; rw [h]; exact q
theorem ab_i1_m {st : List ab_V} {f g : Int32 → List ab_V → Prop} (h : ∀ x r, f x r → g x r) (q : ab_i1 st f) : ab_i1 st g := by
  obtain ⟨x, r, rfl, q⟩ := ab_i1_s q; exact h _ _ q
theorem ab_l1_m {st : List ab_V} {f g : Int64 → List ab_V → Prop} (h : ∀ x r, f x r → g x r) (q : ab_l1 st f) : ab_l1 st g := by
  obtain ⟨x, r, rfl, q⟩ := ab_l1_s q; exact h _ _ q
theorem ab_i2_m {st : List ab_V} {f g : Int32 → Int32 → List ab_V → Prop} (h : ∀ x y r, f x y r → g x y r) (q : ab_i2 st f) : ab_i2 st g := by
  obtain ⟨x, y, r, rfl, q⟩ := ab_i2_s q; exact h _ _ _ q
theorem ab_l2_m {st : List ab_V} {f g : Int64 → Int64 → List ab_V → Prop} (h : ∀ x y r, f x y r → g x y r) (q : ab_l2 st f) : ab_l2 st g := by
  obtain ⟨x, y, r, rfl, q⟩ := ab_l2_s q; exact h _ _ _ q
theorem ab_q1_m {st : List ab_V} {f g : Option ab_Nm → List ab_V → Prop} (h : ∀ x r, f x r → g x r) (q : ab_q1 st f) : ab_q1 st g := by
  obtain ⟨x, r, rfl, q⟩ := ab_q1_s q; exact h _ _ q
theorem ab_r1_m {st : List ab_V} {f g : Nat → Nat → List ab_V → Prop} (h : ∀ k i r, f k i r → g k i r) (q : ab_r1 st f) : ab_r1 st g := by
  obtain ⟨x, y, r, rfl, q⟩ := ab_r1_s q; exact h _ _ _ q
theorem ab_li_m {L : ab_L} {k : Nat} {f g : Int32 → Prop} (h : ∀ x, f x → g x) (q : ab_li L k f) : ab_li L k g := by
  obtain ⟨x, e, q⟩ := ab_li_s q; exact ab_li_i e (h _ q)
theorem ab_ll_m {L : ab_L} {k : Nat} {f g : Int64 → Prop} (h : ∀ x, f x → g x) (q : ab_ll L k f) : ab_ll L k g := by
  obtain ⟨x, e, q⟩ := ab_ll_s q; exact ab_ll_i e (h _ q)
theorem ab_la_m {L : ab_L} {k : Nat} {f g : Option ab_Nm → Prop} (h : ∀ x, f x → g x) (q : ab_la L k f) : ab_la L k g := by
  obtain ⟨x, e, q⟩ := ab_la_s q; exact ab_la_i e (h _ q)
set_option maxHeartbeats 4000000 in
theorem ab_ex_m {M : ab_M} {X : Option (Nat × (Nat → Int32))} {i : Instr} {len pc : Nat} {L : ab_L} {st : List ab_V} {σ : ab_S} {K K' : ab_K} {P P' : ab_P} (hM : ab_mo M) (hK : ∀ pc L st σ, K pc L st σ → K' pc L st σ) (hP : ∀ r σ, P r σ → P' r σ) (h : ab_ex M X i len pc L st σ K P) : ab_ex M X i len pc L st σ K' P' := by
  cases i with
  | ldc j =>
    obtain ⟨h1, h2⟩ := h
    refine ⟨h1, ?_⟩
    revert h2
    cases ab_kl M j with
    | none => exact fun h => h
    | some v => cases v with
      | inl v => exact fun h => hK _ _ _ _ h
      | inr v => exact fun h => h
  | ldc_w j =>
    obtain ⟨h1, h2⟩ := h
    refine ⟨h1, ?_⟩
    revert h2
    cases ab_kl M j with
    | none => exact fun h => h
    | some v => cases v with
      | inl v => exact fun h => hK _ _ _ _ h
      | inr v => exact fun h => h
  | ldc2_w j =>
    obtain ⟨h1, h2⟩ := h
    refine ⟨h1, ?_⟩
    revert h2
    cases ab_kl M j with
    | none => exact fun h => h
    | some v => cases v with
      | inl v => exact fun h => h
      | inr v => exact fun h => hK _ _ _ _ h
  | pop =>
    refine ⟨h.1, ?_⟩
    have h := h.2
    rcases st with _ | ⟨(x | x) | o, r⟩ <;> first | exact hK _ _ _ _ h | exact h.elim
  | pop2 =>
    refine ⟨h.1, ?_⟩
    have h := h.2
    rcases st with _ | ⟨(x | x) | o, r⟩ <;> first | exact hK _ _ _ _ h | exact h.elim
  | dup =>
    refine ⟨h.1, ?_⟩
    have h := h.2
    rcases st with _ | ⟨(x | x) | o, r⟩ <;> first | exact hK _ _ _ _ h | exact h.elim
  | dup2 =>
    refine ⟨h.1, ?_⟩
    have h := h.2
    rcases st with _ | ⟨(y | y) | o, _ | ⟨(x | x) | o', r⟩⟩ <;> first | exact hK _ _ _ _ h | exact h.elim
  | tableswitch d lo hi os => exact ⟨h.1, ab_i1_m (fun x r q => ⟨fun e => ab_jp_mono (fun t => hK _ _ _ _) (q.1 e), ab_tsw_mono (fun o => ab_jp_mono (fun t => hK _ _ _ _)) q.2⟩) h.2⟩
  | getfield j =>
    obtain ⟨h1, h2⟩ := h
    refine ⟨h1, ?_⟩
    revert h2
    cases ab_fl M j with
    | none => exact fun h => h
    | some q =>
      intro h
      refine ab_r1_m (fun k i r q1 => ⟨q1.1, ?_⟩) h
      have q2 := q1.2
      revert q2
      cases ab_fd (ab_sh k i) q.1 q.2 with
      | none => exact fun h => h
      | some f => rcases f with (_ | _) | n <;> exact fun h => hK _ _ _ _ h
  | putfield j =>
    obtain ⟨h1, h2⟩ := h
    refine ⟨h1, ?_⟩
    revert h2
    cases ab_fl M j with
    | none => exact fun h => h
    | some q =>
      intro h
      rcases st with _ | ⟨(y | y) | o, _ | ⟨(x | x) | (_ | o'), r⟩⟩ <;> first | exact ⟨h.1, h.2.1, hK _ _ _ _ h.2.2⟩ | exact h.elim
  | iaload =>
    refine ⟨h.1, ?_⟩
    have h := h.2
    rcases st with _ | ⟨(y | y) | o, _ | ⟨(x | x) | (_ | o'), r⟩⟩ <;> first | exact h.elim | skip
    rcases X with _ | X
    · exact ⟨h.1, h.2.1, hK _ _ _ _ h.2.2⟩
    · exact ⟨h.1, h.2.1, h.2.2.1, hK _ _ _ _ h.2.2.2⟩
  | laload =>
    refine ⟨h.1, ?_⟩
    have h := h.2
    rcases st with _ | ⟨(y | y) | o, _ | ⟨(x | x) | (_ | o'), r⟩⟩ <;> first | exact ⟨h.1, h.2.1, hK _ _ _ _ h.2.2⟩ | exact h.elim
  | baload =>
    refine ⟨h.1, ?_⟩
    have h := h.2
    rcases st with _ | ⟨(y | y) | o, _ | ⟨(x | x) | (_ | o'), r⟩⟩ <;> first | exact ⟨h.1, h.2.1, hK _ _ _ _ h.2.2⟩ | exact h.elim
  | aaload =>
    refine ⟨h.1, ?_⟩
    have h := h.2
    rcases st with _ | ⟨(y | y) | o, _ | ⟨(x | x) | (_ | o'), r⟩⟩ <;> first | exact ⟨h.1, h.2.1, hK _ _ _ _ h.2.2⟩ | exact h.elim
  | iastore =>
    refine ⟨h.1, ?_⟩
    have h := h.2
    rcases st with _ | ⟨(z | z) | o, _ | ⟨(y | y) | o, _ | ⟨(x | x) | (_ | o'), r⟩⟩⟩ <;> first | exact ⟨h.1, h.2.1, hK _ _ _ _ h.2.2⟩ | exact h.elim
  | lastore =>
    refine ⟨h.1, ?_⟩
    have h := h.2
    rcases st with _ | ⟨(z | z) | o, _ | ⟨(y | y) | o, _ | ⟨(x | x) | (_ | o'), r⟩⟩⟩ <;> first | exact ⟨h.1, h.2.1, hK _ _ _ _ h.2.2⟩ | exact h.elim
  | bastore =>
    refine ⟨h.1, ?_⟩
    have h := h.2
    rcases st with _ | ⟨(z | z) | o, _ | ⟨(y | y) | o, _ | ⟨(x | x) | (_ | o'), r⟩⟩⟩ <;> first | exact ⟨h.1, h.2.1, hK _ _ _ _ h.2.2⟩ | exact h.elim
  | arraylength =>
    refine ⟨h.1, ab_r1_m (fun k i r q => ?_) h.2⟩
    rcases X with _ | X
    · refine ⟨q.1, ?_⟩
      have q2 := q.2
      revert q2
      cases ab_ln (ab_sh k i) with
      | none => exact fun h => h
      | some n => exact fun h => hK _ _ _ _ h
    · exact ⟨q.1, q.2.1, hK _ _ _ _ q.2.2⟩
  | invokestatic j =>
    obtain ⟨h1, h2⟩ := h
    refine ⟨h1, ?_⟩
    revert h2
    cases hj : ab_ml M j with
    | none => exact fun h => h
    | some q =>
      obtain ⟨n, kd, sp⟩ := q
      cases kd with
      | succ kd => exact fun h => h
      | zero =>
        intro h
        revert h
        show (match ab_pop n st [] with | some (as, r) => _ | none => False) → (match ab_pop n st [] with | some (as, r) => _ | none => False)
        cases ab_pop n st [] with
        | none => exact fun h => h
        | some q => exact fun h => ⟨h.1, hM _ (ab_lk_mem hj) _ _ _ _ (fun r σ q => hK _ _ _ _ q) h.2⟩
  | invokevirtual j =>
    obtain ⟨h1, h2⟩ := h
    refine ⟨h1, ?_⟩
    revert h2
    cases hj : ab_ml M j with
    | none => exact fun h => h
    | some q =>
      obtain ⟨n, kd, sp⟩ := q
      cases kd with
      | zero => exact fun h => h
      | succ kd =>
        show (match ab_pop n st [] with | some (.inr (some (k, i)) :: as, r) => _ | _ => False) → (match ab_pop n st [] with | some (.inr (some (k, i)) :: as, r) => _ | _ => False)
        cases ab_pop n st [] with
        | none => exact fun h => h
        | some q =>
          obtain ⟨_ | ⟨(x | x) | (_ | ⟨k, i⟩), as⟩, r⟩ := q <;> first | exact fun h => ⟨h.1, h.2.1, h.2.2.1, hM _ (ab_lk_mem hj) _ _ _ _ (fun r σ q => hK _ _ _ _ q) h.2.2.2⟩ | exact fun h => h
  | ireturn =>
    refine ⟨h.1, ?_⟩
    have h := h.2
    rcases st with _ | ⟨(y | y) | o, _ | ⟨x, r⟩⟩ <;> first | exact ⟨h.1, hP _ _ h.2⟩ | exact h.elim
  | lreturn =>
    refine ⟨h.1, ?_⟩
    have h := h.2
    rcases st with _ | ⟨(y | y) | o, _ | ⟨x, r⟩⟩ <;> first | exact ⟨h.1, hP _ _ h.2⟩ | exact h.elim
  | return_ => exact ⟨h.1, h.2.1, h.2.2.1, hP _ _ h.2.2.2⟩
  | areturn =>
    refine ⟨h.1, ?_⟩
    have h := h.2
    rcases st with _ | ⟨(y | y) | o, _ | ⟨x, r⟩⟩ <;> first | exact ⟨h.1, hP _ _ h.2⟩ | exact h.elim
  | goto off => exact ⟨h.1, ab_jp_mono (fun t => hK _ _ _ _) h.2⟩
  | _ =>
    first
    | exact False.elim h
    | exact ⟨h.1, hK _ _ _ _ h.2⟩
    | exact ⟨h.1, ab_li_m (fun x q => hK _ _ _ _ q) h.2⟩
    | exact ⟨h.1, ab_ll_m (fun x q => hK _ _ _ _ q) h.2⟩
    | exact ⟨h.1, ab_la_m (fun x q => hK _ _ _ _ q) h.2⟩
    | exact ⟨h.1, h.2.1, ab_i1_m (fun x r q => hK _ _ _ _ q) h.2.2⟩
    | exact ⟨h.1, h.2.1, ab_l1_m (fun x r q => hK _ _ _ _ q) h.2.2⟩
    | exact ⟨h.1, h.2.1, ab_q1_m (fun x r q => hK _ _ _ _ q) h.2.2⟩
    | exact ⟨h.1, h.2.1, ab_li_m (fun x q => hK _ _ _ _ q) h.2.2⟩
    | exact ⟨h.1, ab_i2_m (fun x y r q => hK _ _ _ _ q) h.2⟩
    | exact ⟨h.1, ab_l2_m (fun x y r q => hK _ _ _ _ q) h.2⟩
    | exact ⟨h.1, ab_i2_m (fun x y r q => ⟨q.1, hK _ _ _ _ q.2⟩) h.2⟩
    | exact ⟨h.1, ab_l2_m (fun x y r q => ⟨q.1, hK _ _ _ _ q.2⟩) h.2⟩
    | exact ⟨h.1, ab_i1_m (fun x r q => hK _ _ _ _ q) h.2⟩
    | exact ⟨h.1, ab_l1_m (fun x r q => hK _ _ _ _ q) h.2⟩
    | exact ⟨h.1, ab_i1_m (fun x r q => ab_br_mono (fun t => hK _ _ _ _) q) h.2⟩
    | exact ⟨h.1, ab_i2_m (fun x y r q => ab_br_mono (fun t => hK _ _ _ _) q) h.2⟩
    | exact ⟨h.1, ab_q1_m (fun x r q => ab_br_mono (fun t => hK _ _ _ _) q) h.2⟩
theorem ab_st_m {M : ab_M} {cc : ByteArray} {X : Option (Nat × (Nat → Int32))} {pc : Nat} {L : ab_L} {st : List ab_V} {σ : ab_S} {K K' : ab_K} {P P' : ab_P} (hM : ab_mo M) (hK : ∀ pc L st σ, K pc L st σ → K' pc L st σ) (hP : ∀ r σ, P r σ → P' r σ) (h : ab_st M cc X pc L st σ K P) : ab_st M cc X pc L st σ K' P' := by
  unfold ab_st at *
  cases hd : decode cc pc with
  | error e => rw [hd] at h; exact h
  | ok q => rw [hd] at h; exact ab_ex_m hM hK hP h
theorem ab_wp_step {M : ab_M} {cc : ByteArray} {X : Option (Nat × (Nat → Int32))} {P : ab_P} {pc : Nat} {L : ab_L} {st : List ab_V} {σ : ab_S} (hM : ab_mo M) (h : ab_st M cc X pc L st σ (ab_wp M cc X P) P) : ab_wp M cc X P pc L st σ :=
  fun K hK => hK _ _ _ _ (ab_st_m hM (fun _ _ _ _ q => q K hK) (fun _ _ q => q) h)
theorem ab_wp_m {M : ab_M} {cc : ByteArray} {X : Option (Nat × (Nat → Int32))} {P P' : ab_P} {pc : Nat} {L : ab_L} {st : List ab_V} {σ : ab_S} (hM : ab_mo M) (hP : ∀ r σ, P r σ → P' r σ) (h : ab_wp M cc X P pc L st σ) : ab_wp M cc X P' pc L st σ :=
  fun K hK => h K (fun _ _ _ _ q => hK _ _ _ _ (ab_st_m hM (fun _ _ _ _ q => q) hP q))
theorem ab_sp_m {M : ab_M} {cc : ByteArray} (hM : ab_mo M) : ∀ (as : List ab_V) (σ : ab_S) (P P' : ab_P), (∀ r σ, P r σ → P' r σ) → ab_sp M cc as σ P → ab_sp M cc as σ P' := fun _ _ _ _ hP h => ⟨h.1, ab_wp_m hM hP h.2⟩
/-- a run of n steps -/
theorem ab_run {M : ab_M} {cc : ByteArray} {X : Option (Nat × (Nat → Int32))} {P : ab_P} (hM : ab_mo M) (cs : List Nat) : ∀ (n : Nat) {pc : Nat} {L : ab_L} {st : List ab_V} {σ : ab_S}, ab_rn M cc X P cs (ab_wp M cc X P) n pc L st σ → ab_wp M cc X P pc L st σ
  | 0, _, _, _, _, h => h
  | n + 1, pc, L, st, σ, h => by
    unfold ab_rn at h
    by_cases hc : ab_ins cs pc = true
    · rw [if_pos hc] at h; exact h
    · rw [if_neg hc] at h
      exact ab_wp_step hM (ab_st_m hM (fun _ _ _ _ q => ab_run hM cs n q) (fun _ _ q => q) h)
/-- the same from a cut on: one step first -/
theorem ab_runS {M : ab_M} {cc : ByteArray} {X : Option (Nat × (Nat → Int32))} {P : ab_P} (hM : ab_mo M) (cs : List Nat) (n : Nat) {pc : Nat} {L : ab_L} {st : List ab_V} {σ : ab_S} (h : ab_st M cc X pc L st σ (fun pc L st σ => ab_rn M cc X P cs (ab_wp M cc X P) n pc L st σ) P) : ab_wp M cc X P pc L st σ :=
  ab_wp_step hM (ab_st_m hM (fun _ _ _ _ q => ab_run hM cs n q) (fun _ _ q => q) h)
