def ab_cl (ci : Nat) : vw_C := clz.getD ci ("", fun _ => ("", "", "", false), 0)
def ab_tyf (ci : Nat) : Nat → FieldType := match ci with
  | 0 => tyX0 | 1 => tyX1 | 2 => tyX2 | 3 => tyX3 | 4 => tyX5 | 5 => tyX5 | 6 => tyX6 | 7 => tyX7 | _ => tyX8
/-- a field link of a class's pool: its number, the class, the field -/
def ab_flo (own : String) (M : ab_M) : Prop := ∀ q ∈ M.1, q.2.1 < 9 ∧ q.2.2 < (ab_cl q.2.1).2.2 ∧ Cond.fieldLink own q.1 ((ab_cl q.2.1).2.1 q.2.2).1 ((ab_cl q.2.1).2.1 q.2.2).2.1 ((ab_cl q.2.1).2.1 q.2.2).2.2.1 ∈ lw_g
def ab_klo (own : String) (M : ab_M) : Prop := ∀ q ∈ M.2.2.1, (match q.2 with
  | .inl v => Cond.constant own q.1 v
  | .inr v => Cond.constantLong own q.1 v) ∈ lw_g
def ab_mlq (l : Launch) (own : String) (F N : Nat) (q : Nat × Nat × Nat × ab_Sp) : Prop := ∃ (y : MethodName) (bytes : ByteArray) (maxL : Nat) (ret : Option FieldType) (d : Nat), ab_Met l y bytes maxL ret d q.2.2.2 ∧ Cond.code y bytes maxL ret ∈ lw_g ∧ Cond.initialized y.cls ∈ lw_g ∧ (y.cls ≠ "java/lang/invoke/MethodHandle" ∧ y.cls ≠ "java/lang/invoke/VarHandle") ∧ d + 1 ≤ F ∧ 8 + (maxL + 11) + 40 * d ≤ N ∧
  (match q.2.2.1 with
  | 0 => (parseMethodDescriptor y.desc).map (fun d => d.parameters.length) = some q.2.1 ∧ Cond.static y ∈ lw_g ∧ (Cond.methodLink own q.1 y ∈ lw_g ∨ ∃ host, ∀ U, ab_nt U → va_Nw (.methodLinkNest own q.1 y host) U)
  | ci + 1 => (parseMethodDescriptor y.desc).map (fun d => d.parameters.length + 1) = some q.2.1 ∧ y.cls = (ab_cl ci).1 ∧ ci < 9 ∧ Cond.instanceMethod y ∈ lw_g ∧ Cond.selects y.cls y y ∈ lw_g ∧ Cond.methodLink own q.1 y ∈ lw_g)
def ab_mx : ab_Sp := fun as σ P => match as with
  | [.inl (.inl x), .inl (.inl y)] => P (some (.inl (.inl (if x < y then y else x)))) σ
  | _ => False
def ab_mi : ab_Sp := fun as σ P => match as with
  | [.inl (.inl x), .inl (.inl y)] => P (some (.inl (.inl (if y < x then y else x)))) σ
  | _ => False
def ab_mb : ab_Sp := fun as σ P => match as with
  | [.inl (.inl x)] => P (some (.inl (.inl (if 0 ≤ x then x else 0 - x)))) σ
  | _ => False
def ab_ml2 : ab_Sp := fun as σ P => match as with
  | [.inl (.inr x), .inl (.inr y)] => P (some (.inl (.inr (if y < x then y else x)))) σ
  | _ => False
theorem ab_mx_s {as : List ab_V} {σ : ab_S} {P : ab_P} (h : ab_mx as σ P) : ∃ x y, as = [.inl (.inl x), .inl (.inl y)] ∧ P (some (.inl (.inl (if x < y then y else x)))) σ := by
  rcases as with _ | ⟨(x | x) | o, _ | ⟨(y | y) | o', _ | ⟨z, r⟩⟩⟩ <;> first | exact ⟨x, y, rfl, h⟩ | exact h.elim
theorem ab_mi_s {as : List ab_V} {σ : ab_S} {P : ab_P} (h : ab_mi as σ P) : ∃ x y, as = [.inl (.inl x), .inl (.inl y)] ∧ P (some (.inl (.inl (if y < x then y else x)))) σ := by
  rcases as with _ | ⟨(x | x) | o, _ | ⟨(y | y) | o', _ | ⟨z, r⟩⟩⟩ <;> first | exact ⟨x, y, rfl, h⟩ | exact h.elim
theorem ab_mb_s {as : List ab_V} {σ : ab_S} {P : ab_P} (h : ab_mb as σ P) : ∃ x, as = [.inl (.inl x)] ∧ P (some (.inl (.inl (if 0 ≤ x then x else 0 - x)))) σ := by
  rcases as with _ | ⟨(x | x) | o, _ | ⟨z, r⟩⟩ <;> first | exact ⟨x, rfl, h⟩ | exact h.elim
theorem ab_ml2_s {as : List ab_V} {σ : ab_S} {P : ab_P} (h : ab_ml2 as σ P) : ∃ x y, as = [.inl (.inr x), .inl (.inr y)] ∧ P (some (.inl (.inr (if y < x then y else x)))) σ := by
  rcases as with _ | ⟨(x | x) | o, _ | ⟨(y | y) | o', _ | ⟨z, r⟩⟩⟩ <;> first | exact ⟨x, y, rfl, h⟩ | exact h.elim
theorem ab_mx_m : ∀ (as : List ab_V) (σ : ab_S) (P P' : ab_P), (∀ r σ, P r σ → P' r σ) → ab_mx as σ P → ab_mx as σ P' := fun as σ P P' hP h => by
  obtain ⟨x, y, rfl, h⟩ := ab_mx_s h
  exact hP _ _ h
theorem ab_mi_m : ∀ (as : List ab_V) (σ : ab_S) (P P' : ab_P), (∀ r σ, P r σ → P' r σ) → ab_mi as σ P → ab_mi as σ P' := fun as σ P P' hP h => by
  obtain ⟨x, y, rfl, h⟩ := ab_mi_s h
  exact hP _ _ h
theorem ab_mb_m : ∀ (as : List ab_V) (σ : ab_S) (P P' : ab_P), (∀ r σ, P r σ → P' r σ) → ab_mb as σ P → ab_mb as σ P' := fun as σ P P' hP h => by
  obtain ⟨x, rfl, h⟩ := ab_mb_s h
  exact hP _ _ h
theorem ab_ml2_m : ∀ (as : List ab_V) (σ : ab_S) (P P' : ab_P), (∀ r σ, P r σ → P' r σ) → ab_ml2 as σ P → ab_ml2 as σ P' := fun as σ P P' hP h => by
  obtain ⟨x, y, rfl, h⟩ := ab_ml2_s h
  exact hP _ _ h
/-- Math's own four -/
def ab_mth (own : String) (F N : Nat) (q : Nat × Nat × Nat × ab_Sp) : Prop := q.2.2.1 = 0 ∧ 1 ≤ F ∧ 23 ≤ N ∧ Cond.initialized "java/lang/Math" ∈ lw_g ∧
  ((q.2.2.2 = ab_mx ∧ Cond.methodLink own q.1 Lib.Math.max.name ∈ lw_g ∧ Cond.static Lib.Math.max.name ∈ lw_g ∧ Cond.code Lib.Math.max.name Lib.Math.max.code 2 (some .int) ∈ lw_g) ∨
  (q.2.2.2 = ab_mi ∧ Cond.methodLink own q.1 Lib.Math.min.name ∈ lw_g ∧ Cond.static Lib.Math.min.name ∈ lw_g ∧ Cond.code Lib.Math.min.name Lib.Math.min.code 2 (some .int) ∈ lw_g) ∨
  (q.2.2.2 = ab_mb ∧ Cond.methodLink own q.1 Lib.Math.abs.name ∈ lw_g ∧ Cond.static Lib.Math.abs.name ∈ lw_g ∧ Cond.code Lib.Math.abs.name Lib.Math.abs.code 1 (some .int) ∈ lw_g) ∨
  (q.2.2.2 = ab_ml2 ∧ Cond.methodLink own q.1 Lib.MathLoose.min_long.x ∈ lw_g ∧ Cond.static Lib.MathLoose.min_long.x ∈ lw_g ∧ Cond.code Lib.MathLoose.min_long.x Lib.MathLoose.min_long.code 4 (some .long) ∈ lw_g))
def ab_mlo (l : Launch) (own : String) (F N : Nat) (M : ab_M) : Prop := ∀ q ∈ M.2.1, ab_mlq l own F N q ∨ ab_mth own F N q
theorem ab_hin : ∀ ci, ci < 9 → ∀ w ∈ u_ws (ab_cl ci).1 (ab_cl ci).2.1 (ab_cl ci).2.2, w ∈ lw_g := by
  intro ci h
  match ci, h with
  | 0, _ => exact (by decide +kernel : ∀ w ∈ wsX00, w ∈ lw_g)
  | 1, _ => exact (by decide +kernel : ∀ w ∈ wsX10, w ∈ lw_g)
  | 2, _ => exact (by decide +kernel : ∀ w ∈ wsX20, w ∈ lw_g)
  | 3, _ => exact (by decide +kernel : ∀ w ∈ wsX30, w ∈ lw_g)
  | 4, _ => exact (by decide +kernel : ∀ w ∈ wsX50, w ∈ lw_g)
  | 5, _ => exact (by decide +kernel : ∀ w ∈ wsX50, w ∈ lw_g)
  | 6, _ => exact (by decide +kernel : ∀ w ∈ wsX60, w ∈ lw_g)
  | 7, _ => exact (by decide +kernel : ∀ w ∈ wsX70, w ∈ lw_g)
  | 8, _ => exact (by decide +kernel : ∀ w ∈ wsX80, w ∈ lw_g)
  | n + 9, h => omega
theorem ab_hcl : ∀ ci, ci < 9 → clz[ci]? = some (ab_cl ci) := by
  intro ci h
  match ci, h with
  | 0, _ => rfl
  | 1, _ => rfl
  | 2, _ => rfl
  | 3, _ => rfl
  | 4, _ => rfl
  | 5, _ => rfl
  | 6, _ => rfl
  | 7, _ => rfl
  | 8, _ => rfl
  | n + 9, h => omega
theorem ab_hty : ∀ ci, ci < 9 → ∀ k, k < (ab_cl ci).2.2 → parseFieldDescriptor ((ab_cl ci).2.1 k).2.2.1 = some (ab_tyf ci k) := by
  intro ci h
  match ci, h with
  | 0, _ => exact tyX0_ok
  | 1, _ => exact tyX1_ok
  | 2, _ => exact tyX2_ok
  | 3, _ => exact tyX3_ok
  | 4, _ => exact tyX5_ok
  | 5, _ => exact tyX5_ok
  | 6, _ => exact tyX6_ok
  | 7, _ => exact tyX7_ok
  | 8, _ => exact tyX8_ok
  | n + 9, h => omega
theorem ab_hnm : ∀ ci, ci < 9 → ∀ a, a < (ab_cl ci).2.2 → ∀ b, b < (ab_cl ci).2.2 → a ≠ b → ((ab_cl ci).2.1 a).2.1 ≠ ((ab_cl ci).2.1 b).2.1 := by
  intro ci h
  match ci, h with
  | 0, _ => exact nmX0
  | 1, _ => exact nmX1
  | 2, _ => exact nmX2
  | 3, _ => exact nmX3
  | 4, _ => exact nmX5
  | 5, _ => exact nmX5
  | 6, _ => exact nmX6
  | 7, _ => exact nmX7
  | 8, _ => exact nmX8
  | n + 9, h => omega
def ab_ckf (ci : Nat) (j : Nat) (f : Bool ⊕ ab_Nm) : Bool := match f with
  | .inl true => decide (parseFieldDescriptor ((ab_cl ci).2.1 j).2.2.1 = some .int) && !((ab_cl ci).2.1 j).2.2.2
  | .inl false => decide (parseFieldDescriptor ((ab_cl ci).2.1 j).2.2.1 = some .long) && !((ab_cl ci).2.1 j).2.2.2
  | .inr _ => true
def ab_ckl (ci : Nat) (j : Nat) (fs : List (Bool ⊕ ab_Nm)) : Bool := match fs with
  | [] => true
  | f :: t => ab_ckf ci j f && ab_ckl ci (j + 1) t
def ab_cks (n : ab_Nm) : Bool := match ab_sh n.1 n.2 with
  | .inl (ci, fs) => ab_ckl ci 0 fs && decide (fs.length = (ab_cl ci).2.2)
  | .inr (t, _, _) => decide (t < 4)
theorem ab_cks_all : ab_nm.all ab_cks = true := by decide +kernel
theorem ab_ckl_at {ci : Nat} : ∀ {fs : List (Bool ⊕ ab_Nm)} {j0 j : Nat} {f : Bool ⊕ ab_Nm}, ab_ckl ci j0 fs = true → fs[j]? = some f → ab_ckf ci (j0 + j) f = true
  | [], _, j, f, _, h => by simp at h
  | a :: t, j0, 0, f, h, e => by
    simp at e; subst e
    exact (Bool.and_eq_true _ _ ▸ h).1
  | a :: t, j0, j + 1, f, h, e => by
    have h2 := ab_ckl_at (fs := t) (j0 := j0 + 1) (j := j) ((Bool.and_eq_true _ _ ▸ h).2) (by simpa using e)
    rw [show j0 + (j + 1) = j0 + 1 + j by omega]; exact h2
theorem ab_ck {n : ab_Nm} (h : n ∈ ab_nm) {ci : Nat} {fs : List (Bool ⊕ ab_Nm)} (hs : ab_sh n.1 n.2 = .inl (ci, fs)) {j : Nat} {f : Bool ⊕ ab_Nm} (hf : fs[j]? = some f) : ab_ckf ci j f = true := by
  have h1 := List.all_eq_true.mp ab_cks_all n h
  unfold ab_cks at h1
  simp only [hs, Bool.and_eq_true] at h1
  have := ab_ckl_at h1.1 hf
  simpa using this
theorem ab_br_s {cd : Prop} {pc : Nat} {off : Int} {K : Nat → Prop} (q : ab_br cd pc off K) : ∃ tgt : Nat, (pc : Int) + off = (tgt : Int) ∧ (cd → K tgt) ∧ (¬ cd → K (pc + 3)) := ⟨_, (Int.toNat_of_nonneg q.1).symm, q.2⟩
theorem ab_jp_s {pc : Nat} {off : Int} {K : Nat → Prop} (q : ab_jp pc off K) : ∃ tgt : Nat, (pc : Int) + off = (tgt : Int) ∧ K tgt := ⟨_, (Int.toNat_of_nonneg q.1).symm, q.2⟩
section AbS
variable {p : Program} {l : Launch} {e : Env} {R : Room} {s : State} {m : MethodId} {args : Array Value} {below : List Frame} {meth : Method} {c : Code} {cells slots : Nat} {Q : State → Prop}
variable {cc : ByteArray} {own : String} {M : ab_M} {X : Option (Nat × (Nat → Int32))} {D : va_G} {α : ab_Nm → Nat} {κ : ab_Nm → ClassId} {A : Nat → Prop} {P : ab_P}
def ab_WA (p : Program) (l : Launch) (e : Env) (R : Room) (s : State) (m : MethodId) (args : Array Value) (below : List Frame) (meth : Method) (c : Code) (cells slots : Nat) (Q : State → Prop) (M : ab_M) (D : va_G) (α : ab_Nm → Nat) (κ : ab_Nm → ClassId) (A : Nat → Prop) : ab_K := fun pc L st σ => ∀ (H : Heap) (locs : List Loc) (ls : Array Slot), lv_has ls (ab_nL M) (ab_as α 0 L) → va_P D clz (ab_ws α κ σ) H → va_D A (ab_ws α κ σ) → va_S A s.heap H locs → W p l e R s m args below meth c H locs cells slots Q (F0 m pc ls (st.map (ab_cv α)))
def ab_RT (p : Program) (l : Launch) (e : Env) (R : Room) (s : State) (m : MethodId) (args : Array Value) (below : List Frame) (meth : Method) (c : Code) (cells slots : Nat) (Q : State → Prop) (M : ab_M) (cc : ByteArray) (D : va_G) (α : ab_Nm → Nat) (κ : ab_Nm → ClassId) (A : Nat → Prop) (P : ab_P) : Prop := ∀ (H : Heap) (locs : List Loc) (ls : Array Slot) (pc : Nat) (σ : ab_S), va_P D clz (ab_ws α κ σ) H → va_S A s.heap H locs →
  (∀ x, (ab_rk M = 0 ∨ (ab_rk M = 1 ∧ (x = 0 ∨ x = 1))) → P (some (.inl (.inl x))) σ → decode cc pc = .ok (.ireturn, 1) → W p l e R s m args below meth c H locs cells slots Q (F0 m pc ls [.int x])) ∧
  (∀ x, ab_rk M = 2 → P (some (.inl (.inr x))) σ → decode cc pc = .ok (.lreturn, 1) → W p l e R s m args below meth c H locs cells slots Q (F0 m pc ls [.long x])) ∧
  (ab_rk M = 3 → P none σ → decode cc pc = .ok (.return_, 1) → W p l e R s m args below meth c H locs cells slots Q (F0 m pc ls [])) ∧
  (∀ x, ab_rk M = 4 → P (some (.inr x)) σ → decode cc pc = .ok (.areturn, 1) → W p l e R s m args below meth c H locs cells slots Q (F0 m pc ls [ab_cv α (.inr x)]))
def ab_Cx (p : Program) (l : Launch) (e : Env) (R : Room) (s : State) (m : MethodId) (args : Array Value) (below : List Frame) (meth : Method) (c : Code) (cells slots : Nat) (Q : State → Prop) (cc : ByteArray) (own : String) (M : ab_M) (X : Option (Nat × (Nat → Int32))) (D : va_G) (α : ab_Nm → Nat) (κ : ab_Nm → ClassId) (A : Nat → Prop) (P : ab_P) : Prop :=
  p.tables.exec = Jvm.exec ∧ c.code = cc ∧ c.maxLocals = ab_nL M ∧ s.vm.findClass own = some m.cls ∧ (∀ w ∈ lw_g, w.before args s = true) ∧ va_K D clz [] s ∧ ab_ar κ s ∧ ab_nt s ∧ (∀ q, s.heap.size ≤ q → A q) ∧ (cells ≤ R.cells ∧ slots ≤ R.slots) ∧
  (∀ n xs, X = some (n, xs) → va_X (α (99, 0)) n xs s s.heap ∧ α (99, 0) < s.heap.size ∧ ¬ A (α (99, 0))) ∧ ab_flo own M ∧ ab_klo own M ∧ ab_mlo l own R.frames R.locals M ∧ ab_RT p l e R s m args below meth c cells slots Q M cc D α κ A P
theorem ab_callq {H : Heap} {locs : List Loc} {ls : Array Slot} {pc sz : Nat} {st0 rest : List Value} {post : ab_P} {a : Array Value} {free : Addr → Prop} (hr : va_Run p l e R s m args below meth c H locs cells slots 0 0 (F0 m pc ls st0) rest (ab_Q D α κ sz post a) free) (hS : va_S A s.heap H locs) (hA1 : ∀ q, q < H.size → ab_A α sz q → A q) (hf : ∀ q, free q → A q)
    (kk : ∀ (r : Option ab_V) (σ' : ab_S) (H1 : Heap) (locs1 : List Loc), post r σ' → va_P D clz (ab_ws α κ σ') H1 → va_S A s.heap H1 locs1 → W p l e R s m args below meth c H1 locs1 cells slots Q (F0 m (pc + 3) ls ((r.map (ab_cv α)).toList ++ rest))) : W p l e R s m args below meth c H locs cells slots Q (F0 m pc ls st0) := by
  intro T hT XX
  obtain ⟨v, st₀, t, T', L, h0, X', hL, e1, e2, ⟨⟨r, σ', hv, hp, hb⟩, hz, hk⟩, st⟩ := hr T hT XX
  cases hv
  rw [h0] at hz hk
  obtain ⟨t2, a1, b1⟩ := kk r σ' T'.heap (locs ++ L) hp (by rw [e1]; exact hb)
    ⟨Nat.le_trans hS.1 (by rw [e1]; exact hz), fun q h1 h2 => by rw [e1, hk q (Nat.lt_of_lt_of_le h1 hS.1) (fun z => h2 (hA1 q (Nat.lt_of_lt_of_le h1 hS.1) z))]; exact hS.2.1 q h1 h2, fun q hq => by
      rcases List.mem_append.mp hq with h | h
      · exact hS.2.2 q h
      · exact hf _ (hL q h)⟩ T' rfl X'
  exact ⟨t2, st t2 a1, b1⟩
set_option maxHeartbeats 8000000 in
theorem ab_sound1 (C : ab_Cx p l e R s m args below meth c cells slots Q cc own M X D α κ A P) {i : Instr} {len pc : Nat} {L : ab_L} {st : List ab_V} {σ : ab_S} (hd : decode cc pc = .ok (i, len)) (h : ab_ex M X i len pc L st σ (ab_WA p l e R s m args below meth c cells slots Q M D α κ A) P) : ab_WA p l e R s m args below meth c cells slots Q M D α κ A pc L st σ := by
  obtain ⟨hx, hb, hml, hown, hts, hK, har, hnt, hA, hrm, hX, hfl, hkl, hmlo, hrt⟩ := C
  intro H locs ls hl hP hD hS
  cases i with
  | iconst n => obtain ⟨rfl, h⟩ := h; exact lv_iconst hx hb hd rfl (h H locs ls hl hP hD hS)
  | bipush n => obtain ⟨rfl, h⟩ := h; exact lv_bipush hx hb hd rfl (h H locs ls hl hP hD hS)
  | sipush n => obtain ⟨rfl, h⟩ := h; exact lv_sipush hx hb hd rfl (h H locs ls hl hP hD hS)
  | lconst n => obtain ⟨rfl, h⟩ := h; exact lv_lconst hx hb hd rfl (h H locs ls hl hP hD hS)
  | aconst_null => obtain ⟨rfl, h⟩ := h; exact lv_null hx hb hd (h H locs ls hl hP hD hS)
  | ldc j =>
    obtain ⟨rfl, h⟩ := h
    revert h
    cases hj : ab_kl M j with
    | none => exact fun h => h.elim
    | some v =>
      cases v with
      | inr v => exact fun h => h.elim
      | inl v => exact fun h => lv_ldc hx hb hown (hts _ (hkl _ (ab_lk_mem hj))) hd (h H locs ls hl hP hD hS)
  | ldc_w j =>
    obtain ⟨rfl, h⟩ := h
    revert h
    cases hj : ab_kl M j with
    | none => exact fun h => h.elim
    | some v =>
      cases v with
      | inr v => exact fun h => h.elim
      | inl v => exact fun h => lv_ldcw hx hb hown (hts _ (hkl _ (ab_lk_mem hj))) hd (h H locs ls hl hP hD hS)
  | ldc2_w j =>
    obtain ⟨rfl, h⟩ := h
    revert h
    cases hj : ab_kl M j with
    | none => exact fun h => h.elim
    | some v =>
      cases v with
      | inl v => exact fun h => h.elim
      | inr v => exact fun h => W.ldc2 hx hb hown (hts _ (hkl _ (ab_lk_mem hj))) rfl hd (h H locs ls hl hP hD hS)
  | iload_n n => obtain ⟨rfl, h⟩ := h; obtain ⟨x, e1, h⟩ := ab_li_s h; exact lv_iload_n hx hb hd rfl (ab_lv hl e1) (h H locs ls hl hP hD hS)
  | iload n => obtain ⟨rfl, h⟩ := h; obtain ⟨x, e1, h⟩ := ab_li_s h; exact lv_iload hx hb hd (ab_lv hl e1) (h H locs ls hl hP hD hS)
  | lload_n n => obtain ⟨rfl, h⟩ := h; obtain ⟨x, e1, h⟩ := ab_ll_s h; exact lv_lload_n hx hb hd rfl (ab_lv hl e1) (h H locs ls hl hP hD hS)
  | lload n => obtain ⟨rfl, h⟩ := h; obtain ⟨x, e1, h⟩ := ab_ll_s h; exact lv_lload hx hb hd (ab_lv hl e1) (h H locs ls hl hP hD hS)
  | aload_n n =>
    obtain ⟨rfl, h⟩ := h; obtain ⟨x, e1, h⟩ := ab_la_s h
    cases x with
    | none => exact lv_aload_nN hx hb hd rfl (ab_lv hl e1) (h H locs ls hl hP hD hS)
    | some x => exact lv_aload_n hx hb hd rfl (ab_lv hl e1) (h H locs ls hl hP hD hS)
  | aload n =>
    obtain ⟨rfl, h⟩ := h; obtain ⟨x, e1, h⟩ := ab_la_s h
    cases x with
    | none => exact lv_aloadN hx hb hd (ab_lv hl e1) (h H locs ls hl hP hD hS)
    | some x => exact lv_aload hx hb hd (ab_lv hl e1) (h H locs ls hl hP hD hS)
  | istore_n n => obtain ⟨rfl, hn, h⟩ := h; obtain ⟨x, r, rfl, h⟩ := ab_i1_s h; exact lv_istore_n hx hb hd rfl hl hn rfl (fun ls' hl' => h H locs ls' (ab_put1 hl') hP hD hS)
  | istore n => obtain ⟨rfl, hn, h⟩ := h; obtain ⟨x, r, rfl, h⟩ := ab_i1_s h; exact lv_istore hx hb hd hl hn rfl (fun ls' hl' => h H locs ls' (ab_put1 hl') hP hD hS)
  | lstore_n n => obtain ⟨rfl, hn, h⟩ := h; obtain ⟨x, r, rfl, h⟩ := ab_l1_s h; exact lv_lstore_n hx hb hd rfl hl hn rfl (fun ls' hl' => h H locs ls' (ab_put2 hl') hP hD hS)
  | lstore n => obtain ⟨rfl, hn, h⟩ := h; obtain ⟨x, r, rfl, h⟩ := ab_l1_s h; exact lv_lstore hx hb hd hl hn rfl (fun ls' hl' => h H locs ls' (ab_put2 hl') hP hD hS)
  | astore_n n =>
    obtain ⟨rfl, hn, h⟩ := h; obtain ⟨x, r, rfl, h⟩ := ab_q1_s h
    cases x with
    | none => exact lv_astore_nN hx hb hd rfl hl hn rfl (fun ls' hl' => h H locs ls' (ab_put1 (v := .inr none) hl') hP hD hS)
    | some x => exact lv_astore_n hx hb hd rfl hl hn rfl (fun ls' hl' => h H locs ls' (ab_put1 (v := .inr (some x)) hl') hP hD hS)
  | astore n =>
    obtain ⟨rfl, hn, h⟩ := h; obtain ⟨x, r, rfl, h⟩ := ab_q1_s h
    cases x with
    | none => exact lv_astoreN hx hb hd hl hn rfl (fun ls' hl' => h H locs ls' (ab_put1 (v := .inr none) hl') hP hD hS)
    | some x => exact lv_astore hx hb hd hl hn rfl (fun ls' hl' => h H locs ls' (ab_put1 (v := .inr (some x)) hl') hP hD hS)
  | iinc n k =>
    obtain ⟨rfl, hn, h⟩ := h; obtain ⟨x, e1, h⟩ := ab_li_s h
    have hm : (n, Value.int x) ∈ ab_as α 0 L := ab_as_mem.mpr ⟨n, .inl (.inl x), ab_at_get e1, by simp [ab_cv]⟩
    obtain ⟨kk, hkk⟩ := List.mem_iff_getElem?.mp hm
    exact lv_iinc hx hb hd hl hkk rfl hn rfl (fun ls' hl' => h H locs ls' (ab_put1 (v := .inl (.inl (x + Int32.ofInt k))) hl') hP hD hS)
  | iadd => obtain ⟨rfl, h⟩ := h; obtain ⟨x, y, r, rfl, h⟩ := ab_i2_s h; exact lv_iadd hx hb hd (h H locs ls hl hP hD hS)
  | isub => obtain ⟨rfl, h⟩ := h; obtain ⟨x, y, r, rfl, h⟩ := ab_i2_s h; exact lv_isub hx hb hd (h H locs ls hl hP hD hS)
  | imul => obtain ⟨rfl, h⟩ := h; obtain ⟨x, y, r, rfl, h⟩ := ab_i2_s h; exact lv_imul hx hb hd (h H locs ls hl hP hD hS)
  | idiv => obtain ⟨rfl, h⟩ := h; obtain ⟨x, y, r, rfl, hne, h⟩ := ab_i2_s h; exact lv_idiv hx hb hd hne (h H locs ls hl hP hD hS)
  | irem => obtain ⟨rfl, h⟩ := h; obtain ⟨x, y, r, rfl, hne, h⟩ := ab_i2_s h; exact lv_irem hx hb hd hne (h H locs ls hl hP hD hS)
  | iand => obtain ⟨rfl, h⟩ := h; obtain ⟨x, y, r, rfl, h⟩ := ab_i2_s h; exact lv_iand hx hb hd (h H locs ls hl hP hD hS)
  | ior => obtain ⟨rfl, h⟩ := h; obtain ⟨x, y, r, rfl, h⟩ := ab_i2_s h; exact lv_ior hx hb hd (h H locs ls hl hP hD hS)
  | ixor => obtain ⟨rfl, h⟩ := h; obtain ⟨x, y, r, rfl, h⟩ := ab_i2_s h; exact lv_ixor hx hb hd (h H locs ls hl hP hD hS)
  | ishl => obtain ⟨rfl, h⟩ := h; obtain ⟨x, y, r, rfl, h⟩ := ab_i2_s h; exact lv_ishl hx hb hd (h H locs ls hl hP hD hS)
  | ishr => obtain ⟨rfl, h⟩ := h; obtain ⟨x, y, r, rfl, h⟩ := ab_i2_s h; exact lv_ishr hx hb hd (h H locs ls hl hP hD hS)
  | iushr => obtain ⟨rfl, h⟩ := h; obtain ⟨x, y, r, rfl, h⟩ := ab_i2_s h; exact lv_iushr hx hb hd rfl (h H locs ls hl hP hD hS)
  | ineg => obtain ⟨rfl, h⟩ := h; obtain ⟨x, r, rfl, h⟩ := ab_i1_s h; exact lv_ineg hx hb hd (h H locs ls hl hP hD hS)
  | ladd => obtain ⟨rfl, h⟩ := h; obtain ⟨x, y, r, rfl, h⟩ := ab_l2_s h; exact lv_ladd hx hb hd (h H locs ls hl hP hD hS)
  | lsub => obtain ⟨rfl, h⟩ := h; obtain ⟨x, y, r, rfl, h⟩ := ab_l2_s h; exact lv_lsub hx hb hd (h H locs ls hl hP hD hS)
  | lmul => obtain ⟨rfl, h⟩ := h; obtain ⟨x, y, r, rfl, h⟩ := ab_l2_s h; exact lv_lmul hx hb hd (h H locs ls hl hP hD hS)
  | ldiv => obtain ⟨rfl, h⟩ := h; obtain ⟨x, y, r, rfl, hne, h⟩ := ab_l2_s h; exact lv_ldiv hx hb hd hne (h H locs ls hl hP hD hS)
  | lrem => obtain ⟨rfl, h⟩ := h; obtain ⟨x, y, r, rfl, hne, h⟩ := ab_l2_s h; exact lv_lrem hx hb hd hne (h H locs ls hl hP hD hS)
  | lneg => obtain ⟨rfl, h⟩ := h; obtain ⟨x, r, rfl, h⟩ := ab_l1_s h; exact lv_lneg hx hb hd (h H locs ls hl hP hD hS)
  | lcmp => obtain ⟨rfl, h⟩ := h; obtain ⟨x, y, r, rfl, h⟩ := ab_l2_s h; exact W.lcmp hx hb hd (h H locs ls hl hP hD hS)
  | i2l => obtain ⟨rfl, h⟩ := h; obtain ⟨x, r, rfl, h⟩ := ab_i1_s h; exact lv_i2l hx hb hd rfl (h H locs ls hl hP hD hS)
  | l2i => obtain ⟨rfl, h⟩ := h; obtain ⟨x, r, rfl, h⟩ := ab_l1_s h; exact lv_l2i hx hb hd rfl (h H locs ls hl hP hD hS)
  | pop =>
    obtain ⟨rfl, h⟩ := h
    rcases st with _ | ⟨(x | x) | (_ | o), r⟩ <;> first | exact lv_pop hx hb hd rfl (h H locs ls hl hP hD hS) | exact h.elim
  | pop2 =>
    obtain ⟨rfl, h⟩ := h
    rcases st with _ | ⟨(x | x) | (_ | o), r⟩ <;> first | exact lv_pop2_2 hx hb hd rfl (h H locs ls hl hP hD hS) | exact h.elim
  | dup =>
    obtain ⟨rfl, h⟩ := h
    rcases st with _ | ⟨(x | x) | (_ | o), r⟩ <;> first | exact lv_dup hx hb hd rfl (h H locs ls hl hP hD hS) | exact h.elim
  | dup2 =>
    obtain ⟨rfl, h⟩ := h
    rcases st with _ | ⟨(y | y) | o, _ | ⟨(x | x) | (_ | o'), r⟩⟩ <;> first | exact lv_dup2_11 hx hb hd rfl rfl (h H locs ls hl hP hD hS) | exact lv_dup2_2 hx hb hd rfl (h H locs ls hl hP hD hS) | exact h.elim
  | goto off => obtain ⟨rfl, h⟩ := h; obtain ⟨tgt, ht, h⟩ := ab_jp_s h; exact lv_goto hx hb hd ht (h H locs ls hl hP hD hS)
  | ifCond cnd off =>
    obtain ⟨rfl, h⟩ := h; obtain ⟨x, r, rfl, g⟩ := ab_i1_s h
    obtain ⟨tgt, ht, h1, h2⟩ := ab_br_s g
    cases cnd with
    | eq => exact lv_if_eq hx hb hd ht (fun q => h1 q H locs ls hl hP hD hS) (fun q => h2 q H locs ls hl hP hD hS)
    | ne => exact lv_if_ne hx hb hd ht (fun q => h1 q H locs ls hl hP hD hS) (fun q => h2 (fun z => z q) H locs ls hl hP hD hS)
    | lt => exact lv_if_lt hx hb hd ht (fun q => h1 q H locs ls hl hP hD hS) (fun q => h2 q H locs ls hl hP hD hS)
    | ge => exact lv_if_ge hx hb hd ht (fun q => h1 q H locs ls hl hP hD hS) (fun q => h2 q H locs ls hl hP hD hS)
    | gt => exact lv_if_gt hx hb hd ht (fun q => h1 q H locs ls hl hP hD hS) (fun q => h2 q H locs ls hl hP hD hS)
    | le => exact lv_if_le hx hb hd ht (fun q => h1 q H locs ls hl hP hD hS) (fun q => h2 q H locs ls hl hP hD hS)
  | if_icmp cnd off =>
    obtain ⟨rfl, h⟩ := h; obtain ⟨x, y, r, rfl, g⟩ := ab_i2_s h
    obtain ⟨tgt, ht, h1, h2⟩ := ab_br_s g
    cases cnd with
    | eq => exact lv_icmp_eq hx hb hd ht (fun q => h1 q H locs ls hl hP hD hS) (fun q => h2 q H locs ls hl hP hD hS)
    | ne => exact lv_icmp_ne hx hb hd ht (fun q => h1 q H locs ls hl hP hD hS) (fun q => h2 (fun z => z q) H locs ls hl hP hD hS)
    | lt => exact lv_icmp_lt hx hb hd ht (fun q => h1 q H locs ls hl hP hD hS) (fun q => h2 q H locs ls hl hP hD hS)
    | ge => exact lv_icmp_ge hx hb hd ht (fun q => h1 q H locs ls hl hP hD hS) (fun q => h2 q H locs ls hl hP hD hS)
    | gt => exact lv_icmp_gt hx hb hd ht (fun q => h1 q H locs ls hl hP hD hS) (fun q => h2 q H locs ls hl hP hD hS)
    | le => exact lv_icmp_le hx hb hd ht (fun q => h1 q H locs ls hl hP hD hS) (fun q => h2 q H locs ls hl hP hD hS)
  | ifnull off =>
    obtain ⟨rfl, h⟩ := h; obtain ⟨x, r, rfl, g⟩ := ab_q1_s h
    obtain ⟨tgt, ht, h1, h2⟩ := ab_br_s g
    cases x with
    | none => exact lv_ifnullN hx hb hd ht (h1 rfl H locs ls hl hP hD hS)
    | some x => exact lv_ifnull hx hb hd (h2 (fun q => by cases q) H locs ls hl hP hD hS)
  | ifnonnull off =>
    obtain ⟨rfl, h⟩ := h; obtain ⟨x, r, rfl, g⟩ := ab_q1_s h
    obtain ⟨tgt, ht, h1, h2⟩ := ab_br_s g
    cases x with
    | none => exact lv_ifnonnullN hx hb hd (h2 (fun q => q rfl) H locs ls hl hP hD hS)
    | some x => exact lv_ifnonnull hx hb hd ht (h1 (fun q => by cases q) H locs ls hl hP hD hS)
  | tableswitch d lo hi os =>
    obtain ⟨hsz, h⟩ := h; obtain ⟨x, r, rfl, g⟩ := ab_i1_s h
    by_cases ho : x.toInt < lo ∨ hi < x.toInt
    · obtain ⟨tgt, ht, h⟩ := ab_jp_s (g.1 ho)
      exact lv_tableOut hx hb hd ho ht (h H locs ls hl hP hD hS)
    · have h1 : ¬ x.toInt < lo := fun q => ho (Or.inl q)
      have h2 : ¬ hi < x.toInt := fun q => ho (Or.inr q)
      have hj : (x.toInt - lo).toNat < os.toList.length := by omega
      have e1 : os.toList[(x.toInt - lo).toNat]? = some os.toList[(x.toInt - lo).toNat] := List.getElem?_eq_getElem hj
      obtain ⟨tgt, ht, h⟩ := ab_jp_s (ab_tsw_at g.2 _ _ e1 (by omega))
      exact lv_tableIn hx hb hd h1 h2 (by rw [← Array.getElem?_toList]; exact e1) ht (h H locs ls hl hP hD hS)
  | getfield j =>
    obtain ⟨rfl, h⟩ := h
    revert h
    cases hj : ab_fl M j with
    | none => exact fun h => h.elim
    | some q =>
      obtain ⟨ci, f⟩ := q
      intro h
      obtain ⟨k, i, r, rfl, hlt, h⟩ := ab_r1_s h
      obtain ⟨hc9, hfN, hlk⟩ := hfl _ (ab_lk_mem hj)
      obtain ⟨q0, hq, hw⟩ := ab_pos (ab_mem hlt) α κ σ
      revert h
      cases hF : ab_fd (ab_sh k i) ci f with
      | none => exact fun h => h.elim
      | some F =>
        obtain ⟨fs, hs, hf⟩ := ab_fd_s hF
        rw [ab_ce_o hs] at hw
        intro h
        have key : W p l e R s m args below meth c H locs cells slots Q (F0 m (pc + 3) ls (ab_fv α σ k i f F :: r.map (ab_cv α))) := by
          rcases F with (_ | _) | n
          · exact h H locs ls hl hP hD hS
          · exact h H locs ls hl hP hD hS
          · exact h H locs ls hl hP hD hS
        exact va_get (D := D) (ci := ci) (C := (ab_cl ci).1) (T := (ab_cl ci).2.1) (N := (ab_cl ci).2.2) hx hb hts (ab_hin ci hc9) hown hK hP q0 hw (ab_hcl ci hc9) f hfN (hts _ hlk) (fun _ h9 => h9) (ab_fs_get hf) hd key
  | putfield j =>
    obtain ⟨rfl, h⟩ := h
    revert h
    cases hj : ab_fl M j with
    | none => exact fun h => h.elim
    | some q =>
      obtain ⟨ci, f⟩ := q
      intro h
      obtain ⟨hc9, hfN, hlk⟩ := hfl _ (ab_lk_mem hj)
      rcases st with _ | ⟨(x | x) | o, _ | ⟨(y | y) | (_ | ⟨k, i⟩), r⟩⟩ <;> first | exact h.elim | skip
      · obtain ⟨hlt, hF, h⟩ := h
        obtain ⟨q0, hq, hw⟩ := ab_pos (ab_mem hlt) α κ σ
        obtain ⟨fs, hs, hf⟩ := ab_fd_s hF
        have hck := ab_ck (n := (k, i)) (ab_mem hlt) hs hf
        simp only [ab_ckf, Bool.and_eq_true, decide_eq_true_eq, Bool.not_eq_true'] at hck
        rw [ab_ce_o hs] at hw
        refine va_put (D := D) (ci := ci) (C := (ab_cl ci).1) (T := (ab_cl ci).2.1) (N := (ab_cl ci).2.2) (v := .int x) (ty := .int) hx hb hts (ab_hin ci hc9) (ab_tyf ci) (ab_hty ci hc9) (ab_hnm ci hc9) hown hK hP hD hS q0 hw (ab_hcl ci hc9) f hfN (hts _ hlk) (fun _ h9 => h9) hck.2 hck.1 rfl rfl (by simpa [ab_fs] using (List.getElem?_eq_some_iff.mp hf).1) hd (fun H1 locs1 hP1 hD1 hS1 => ?_)
        rw [ab_fs_si hf, ← ab_ce_o (κ := κ) hs, ab_ws_set hq (fun n' hn => ab_ce_si n' hn)] at hP1 hD1
        exact h H1 locs1 ls hl hP1 hD1 hS1
      · obtain ⟨hlt, hF, h⟩ := h
        obtain ⟨q0, hq, hw⟩ := ab_pos (ab_mem hlt) α κ σ
        obtain ⟨fs, hs, hf⟩ := ab_fd_s hF
        have hck := ab_ck (n := (k, i)) (ab_mem hlt) hs hf
        simp only [ab_ckf, Bool.and_eq_true, decide_eq_true_eq, Bool.not_eq_true'] at hck
        rw [ab_ce_o hs] at hw
        refine va_put (D := D) (ci := ci) (C := (ab_cl ci).1) (T := (ab_cl ci).2.1) (N := (ab_cl ci).2.2) (v := .long x) (ty := .long) hx hb hts (ab_hin ci hc9) (ab_tyf ci) (ab_hty ci hc9) (ab_hnm ci hc9) hown hK hP hD hS q0 hw (ab_hcl ci hc9) f hfN (hts _ hlk) (fun _ h9 => h9) hck.2 hck.1 rfl rfl (by simpa [ab_fs] using (List.getElem?_eq_some_iff.mp hf).1) hd (fun H1 locs1 hP1 hD1 hS1 => ?_)
        rw [ab_fs_sl hf, ← ab_ce_o (κ := κ) hs, ab_ws_set hq (fun n' hn => ab_ce_sl n' hn)] at hP1 hD1
        exact h H1 locs1 ls hl hP1 hD1 hS1
  | iaload =>
    obtain ⟨rfl, h⟩ := h
    rcases st with _ | ⟨(j | j) | o, _ | ⟨(y | y) | (_ | ⟨k, i⟩), r⟩⟩ <;> first | exact h.elim | skip
    rcases X with _ | ⟨n, xs⟩
    · obtain ⟨hlt, ha, h⟩ := h
      obtain ⟨n, rs, hs, hin⟩ := ab_al_s ha
      obtain ⟨q0, hq, hw⟩ := ab_pos (ab_mem hlt) α κ σ
      rw [ab_ce_a hs] at hw
      exact va_iald hx hb (ab_K1 hK (har _ (ab_mem hlt) _ _ _ hs)) hP q0 0 hw rfl hin hd (h H locs ls hl hP hD hS)
    · obtain ⟨rfl, rfl, hin, h⟩ := h
      obtain ⟨h1, h2, h3⟩ := hX n xs rfl
      exact va_sld hx hb h1 h2 h3 hS hin hd (h H locs ls hl hP hD hS)
  | laload =>
    obtain ⟨rfl, h⟩ := h
    rcases st with _ | ⟨(j | j) | o, _ | ⟨(y | y) | (_ | ⟨k, i⟩), r⟩⟩ <;> first | exact h.elim | skip
    obtain ⟨hlt, ha, h⟩ := h
    obtain ⟨n, rs, hs, hin⟩ := ab_al_s ha
    obtain ⟨q0, hq, hw⟩ := ab_pos (ab_mem hlt) α κ σ
    rw [ab_ce_a hs] at hw
    exact va_lald hx hb (ab_K1 hK (har _ (ab_mem hlt) _ _ _ hs)) hP q0 0 hw rfl hin hd (h H locs ls hl hP hD hS)
  | baload =>
    obtain ⟨rfl, h⟩ := h
    rcases st with _ | ⟨(j | j) | o, _ | ⟨(y | y) | (_ | ⟨k, i⟩), r⟩⟩ <;> first | exact h.elim | skip
    obtain ⟨hlt, ha, h⟩ := h
    obtain ⟨n, rs, hs, hin⟩ := ab_al_s ha
    obtain ⟨q0, hq, hw⟩ := ab_pos (ab_mem hlt) α κ σ
    rw [ab_ce_a hs] at hw
    exact va_zald hx hb (ab_K1 hK (har _ (ab_mem hlt) _ _ _ hs)) hP q0 0 hw rfl hin hd (h H locs ls hl hP hD hS)
  | aaload =>
    obtain ⟨rfl, h⟩ := h
    rcases st with _ | ⟨(j | j) | o, _ | ⟨(y | y) | (_ | ⟨k, i⟩), r⟩⟩ <;> first | exact h.elim | skip
    obtain ⟨hlt, ha, h⟩ := h
    obtain ⟨n, rs, hs, hin⟩ := ab_al_s ha
    obtain ⟨q0, hq, hw⟩ := ab_pos (ab_mem hlt) α κ σ
    rw [ab_ce_a hs] at hw
    rw [hs] at h
    exact va_aldq hx hb (ab_K1 hK (har _ (ab_mem hlt) _ _ _ hs)) hP q0 0 hw rfl hin hd (h H locs ls hl hP hD hS)
  | iastore =>
    obtain ⟨rfl, h⟩ := h
    rcases st with _ | ⟨(x | x) | o, _ | ⟨(j | j) | o, _ | ⟨(y | y) | (_ | ⟨k, i⟩), r⟩⟩⟩ <;> first | exact h.elim | skip
    obtain ⟨hlt, ha, h⟩ := h
    obtain ⟨n, rs, hs, hin⟩ := ab_al_s ha
    obtain ⟨q0, hq, hw⟩ := ab_pos (ab_mem hlt) α κ σ
    rw [ab_ce_a hs] at hw
    refine va_iast hx hb (ab_K1 hK (har _ (ab_mem hlt) _ _ _ hs)) hP hD hS q0 0 hw rfl hin hd (fun H1 locs1 hP1 hD1 hS1 => ?_)
    have e1 : (Sum.inl (κ (k, i), n, Sum.inl (upd (σ.1 k i) j.toNatClampNeg x)) : va_E) = ab_ce α κ (ab_si σ k i j.toNatClampNeg x) (k, i) := by rw [ab_ce_a hs]; simp only [ab_av, ab_si_same]
    rw [e1, ab_ws_set hq (fun n' hn => ab_ce_si n' hn)] at hP1 hD1
    exact h H1 locs1 ls hl hP1 hD1 hS1
  | lastore =>
    obtain ⟨rfl, h⟩ := h
    rcases st with _ | ⟨(x | x) | o, _ | ⟨(j | j) | o, _ | ⟨(y | y) | (_ | ⟨k, i⟩), r⟩⟩⟩ <;> first | exact h.elim | skip
    obtain ⟨hlt, ha, h⟩ := h
    obtain ⟨n, rs, hs, hin⟩ := ab_al_s ha
    obtain ⟨q0, hq, hw⟩ := ab_pos (ab_mem hlt) α κ σ
    rw [ab_ce_a hs] at hw
    refine va_last hx hb (ab_K1 hK (har _ (ab_mem hlt) _ _ _ hs)) hP hD hS q0 0 hw rfl hin hd (fun H1 locs1 hP1 hD1 hS1 => ?_)
    have e1 : (Sum.inl (κ (k, i), n, Sum.inr (Sum.inl (vp_updL (σ.2 k i) j.toNatClampNeg x))) : va_E) = ab_ce α κ (ab_sl σ k i j.toNatClampNeg x) (k, i) := by rw [ab_ce_a hs]; simp only [ab_av, ab_sl_same]
    rw [e1, ab_ws_set hq (fun n' hn => ab_ce_sl n' hn)] at hP1 hD1
    exact h H1 locs1 ls hl hP1 hD1 hS1
  | bastore =>
    obtain ⟨rfl, h⟩ := h
    rcases st with _ | ⟨(x | x) | o, _ | ⟨(j | j) | o, _ | ⟨(y | y) | (_ | ⟨k, i⟩), r⟩⟩⟩ <;> first | exact h.elim | skip
    obtain ⟨hlt, ha, h⟩ := h
    obtain ⟨n, rs, hs, hin⟩ := ab_al_s ha
    obtain ⟨q0, hq, hw⟩ := ab_pos (ab_mem hlt) α κ σ
    rw [ab_ce_a hs] at hw
    refine va_zast hx hb (ab_K1 hK (har _ (ab_mem hlt) _ _ _ hs)) hP hD hS q0 0 hw rfl hin hd (fun H1 locs1 hP1 hD1 hS1 => ?_)
    have e1 : (Sum.inl (κ (k, i), n, Sum.inl (upd (σ.1 k i) j.toNatClampNeg (vp_nar .boolean x))) : va_E) = ab_ce α κ (ab_si σ k i j.toNatClampNeg (vp_nar .boolean x)) (k, i) := by rw [ab_ce_a hs]; simp only [ab_av, ab_si_same]
    rw [e1, ab_ws_set hq (fun n' hn => ab_ce_si n' hn)] at hP1 hD1
    exact h H1 locs1 ls hl hP1 hD1 hS1
  | arraylength =>
    obtain ⟨rfl, h⟩ := h
    obtain ⟨k, i, r, rfl, g⟩ := ab_r1_s h
    clear h
    rcases X with _ | ⟨n, xs⟩
    · obtain ⟨hlt, g⟩ := g
      obtain ⟨q0, hq, hw⟩ := ab_pos (ab_mem hlt) α κ σ
      revert g
      cases hs : ab_sh k i with
      | inl q => exact fun g => g.elim
      | inr q =>
        obtain ⟨t, n, rs⟩ := q
        rw [ab_ce_a hs] at hw
        intro g
        by_cases ht : t < 4
        · simp only [ab_ln, if_pos ht] at g
          exact va_alen hx hb (ab_K1 hK (har _ (ab_mem hlt) _ _ _ hs)) hP q0 0 hw rfl rfl hd (g H locs ls hl hP hD hS)
        · simp only [ab_ln, if_neg ht] at g
    · obtain ⟨rfl, rfl, g⟩ := g
      obtain ⟨h1, h2, h3⟩ := hX n xs rfl
      exact va_slen hx hb h1 h2 h3 hS hd (g H locs ls hl hP hD hS)
  | invokestatic j =>
    obtain ⟨rfl, h⟩ := h
    revert h
    cases hj : ab_ml M j with
    | none => exact fun h => h.elim
    | some q =>
      obtain ⟨n, kd, sp⟩ := q
      cases kd with
      | succ kd => exact fun h => h.elim
      | zero =>
        show (match ab_pop n st [] with | some (as, r) => _ | none => False) → _
        cases hpp : ab_pop n st [] with
        | none => exact fun h => h.elim
        | some q =>
          obtain ⟨as, r⟩ := q
          intro h
          obtain ⟨hrs, h⟩ := h
          obtain ⟨hst, hln⟩ := ab_pop_st hpp
          have hcs : ((r.map (ab_cv α)).map fun v => v.category).sum ≤ 8 := by
            rw [List.map_map, show ((fun v : Value => v.category) ∘ ab_cv α) = ab_cat from funext (ab_cat_cv α)]; exact hrs
          rcases hmlo _ (ab_lk_mem hj) with ⟨y, bytes, maxL, ret, d, hM, hcd, hini, hmh, hfr, hlo, hds, hstc, hlink⟩ | ⟨-, hF1, hN1, hini, ⟨rfl, h1, h2, h3⟩ | ⟨rfl, h1, h2, h3⟩ | ⟨rfl, h1, h2, h3⟩ | ⟨rfl, h1, h2, h3⟩⟩
          rotate_left
          · obtain ⟨x, y, rfl, g⟩ := ab_mx_s h
            rw [hst]
            exact va_mmax (rest := r.map (ab_cv α)) hx hb (by rw [hml]; exact hl.1.symm) hown (hts _ h1) (hts _ h2) (hts _ hini) (hts _ h3) hF1 (by omega) hrm.1 hrm.2 hd (g H locs ls hl hP hD hS)
          · obtain ⟨x, y, rfl, g⟩ := ab_mi_s h
            rw [hst]
            exact va_mmin (rest := r.map (ab_cv α)) hx hb (by rw [hml]; exact hl.1.symm) hown (hts _ h1) (hts _ h2) (hts _ hini) (hts _ h3) hF1 (by omega) hrm.1 hrm.2 hd (g H locs ls hl hP hD hS)
          · obtain ⟨x, rfl, g⟩ := ab_mb_s h
            rw [hst]
            exact va_mabs (rest := r.map (ab_cv α)) hx hb (by rw [hml]; exact hl.1.symm) hown (hts _ h1) (hts _ h2) (hts _ hini) (hts _ h3) hF1 (by omega) hrm.1 hrm.2 hd (g H locs ls hl hP hD hS)
          · obtain ⟨x, y, rfl, g⟩ := ab_ml2_s h
            rw [hst]
            exact va_mmin_long (rest := r.map (ab_cv α)) hx hb (by rw [hml]; exact hl.1.symm) hown (hts _ h1) (hts _ h2) (hts _ hini) (hts _ h3) hF1 (by omega) hrm.1 hrm.2 hd (g H locs ls hl hP hD hS)
          have hG : GoodIn lw_g (.code y bytes maxL ret :: lw_g) := fun w hw => by
            rcases List.mem_cons.mp hw with rfl | hw
            · exact lw_gg _ hcd
            · exact lw_gg _ hw
          have hpre : PreS s H (ab_Pc D α κ H.size as σ) (as.map (ab_cv α)) := ⟨ab_blind, fun U hU hW => ⟨rfl, by rw [hU], by rw [hU]; exact hP, va_K.moved hW.alike hK, hD.weaken (fun _ _ _ _ => trivial), har.moved hW.alike, hnt.warm hW⟩⟩
          have hsk : (st.map (ab_cv α)) = (as.map (ab_cv α)).reverse ++ r.map (ab_cv α) := by rw [hst]; simp
          have hrun : va_Run p l e R s m args below meth c H locs cells slots 0 0 (F0 m pc ls (st.map (ab_cv α))) (r.map (ab_cv α)) (ab_Q D α κ H.size (fun v σ' => ab_WA p l e R s m args below meth c cells slots Q M D α κ A (pc + 3) L (v.toList ++ r) σ') (as.map (ab_cv α)).toArray) (ab_A α H.size) := by
            rcases hlink with hlink | ⟨host, hlink⟩
            · exact va_runS ⟨hx, hb, hml, hown, hts⟩ (hM D α κ H.size as σ _ h) ⟨callB_of n hts hG rfl rfl rfl (hts _ hini) (hts _ hlink) ⟨hmh.1, hmh.2, hds⟩ ⟨hfr, hlo⟩, hts _ hstc⟩ hpre rfl (by rw [List.length_map, hln]) hl.1 hsk (lv_room hcs) hd hrm
            · exact va_runSN ⟨hx, hb, hml, hown, hts⟩ (hM D α κ H.size as σ _ h) ⟨va_cnB n hts hG rfl rfl rfl (hlink s hnt) (hts _ hini) ⟨hmh.1, hmh.2, hds⟩ ⟨hfr, hlo⟩, hts _ hstc, trivial⟩ hpre rfl (by rw [List.length_map, hln]) hl.1 hsk (lv_room hcs) hd hrm
          have hAA : ∀ q, ab_A α H.size q → A q := fun q hq => by
            rcases hq with ⟨n, hn, rfl⟩ | hq
            · exact ab_DA hD hn
            · exact hA q (Nat.le_trans hS.1 hq)
          refine ab_callq hrun hS (fun q _ hq => hAA q hq) hAA (fun v σ' H1 locs1 hpost hP1 hS1 => ?_)
          have := hpost H1 locs1 ls hl hP1 (ab_Dm hD) hS1
          cases v <;> exact this
  | invokevirtual j =>
    obtain ⟨rfl, h⟩ := h
    revert h
    cases hj : ab_ml M j with
    | none => exact fun h => h.elim
    | some q =>
      obtain ⟨n, kd, sp⟩ := q
      cases kd with
      | zero => exact fun h => h.elim
      | succ ci =>
        show (match ab_pop n st [] with | some (.inr (some (k, i)) :: as, r) => _ | _ => False) → _
        cases hpp : ab_pop n st [] with
        | none => exact fun h => h.elim
        | some q =>
          obtain ⟨_ | ⟨(x | x) | (_ | ⟨k, i⟩), as⟩, r⟩ := q <;> first | exact fun h => h.elim | skip
          intro h
          obtain ⟨hlt, hO, hrs, h⟩ := h
          obtain ⟨fs, hs⟩ := ab_isO_s hO
          obtain ⟨q0, hq, hw⟩ := ab_pos (ab_mem hlt) α κ σ
          rw [ab_ce_o hs] at hw
          obtain ⟨hst, hln⟩ := ab_pop_st hpp
          obtain ⟨y, bytes, maxL, ret, d, hM, hcd, hini, hmh, hfr, hlo, hds, hyc, hc9, hinm, hsel, hlink⟩ | ⟨hz, -⟩ := hmlo _ (ab_lk_mem hj)
          rotate_left
          · cases hz
          have hG : GoodIn lw_g (.code y bytes maxL ret :: lw_g) := fun w hw => by
            rcases List.mem_cons.mp hw with rfl | hw
            · exact lw_gg _ hcd
            · exact lw_gg _ hw
          have hrcv := va_recv hK hP (ab_hcl ci hc9) hw
          rw [← hyc] at hrcv
          have hpre : PreV s H y.cls (α (k, i)) (ab_Pc D α κ H.size (.inr (some (k, i)) :: as) σ) (as.map (ab_cv α)) := ⟨ab_blind, hrcv, fun U hU hW => ⟨rfl, by rw [hU], by rw [hU]; exact hP, va_K.moved hW.alike hK, hD.weaken (fun _ _ _ _ => trivial), har.moved hW.alike, hnt.warm hW⟩⟩
          have hsk : (st.map (ab_cv α)) = (as.map (ab_cv α)).reverse ++ .ref (α (k, i)) :: r.map (ab_cv α) := by rw [hst]; simp [ab_cv]
          have hcs : ((r.map (ab_cv α)).map fun v => v.category).sum ≤ 8 := by
            rw [List.map_map, show ((fun v : Value => v.category) ∘ ab_cv α) = ab_cat from funext (ab_cat_cv α)]; exact hrs
          obtain ⟨n', hn'⟩ : ∃ n', n = n' + 1 := ⟨as.length, by rw [← hln]; rfl⟩
          have hds' : (parseMethodDescriptor y.desc).map (fun d => d.parameters.length) = some n' := by
            revert hds
            cases parseMethodDescriptor y.desc with
            | none => intro hds; cases hds
            | some dd =>
              intro hds
              simp only [Option.map_some, Option.some.injEq] at hds ⊢
              omega
          have hrun : va_Run p l e R s m args below meth c H locs cells slots 0 0 (F0 m pc ls (st.map (ab_cv α))) (r.map (ab_cv α)) (ab_Q D α κ H.size (fun v σ' => ab_WA p l e R s m args below meth c cells slots Q M D α κ A (pc + 3) L (v.toList ++ r) σ') (Value.ref (α (k, i)) :: as.map (ab_cv α)).toArray) (ab_A α H.size) :=
            va_runV ⟨hx, hb, hml, hown, hts⟩ (hM D α κ H.size (.inr (some (k, i)) :: as) σ _ h) ⟨callB_of n' hts hG rfl rfl rfl (hts _ hini) (hts _ hlink) ⟨hmh.1, hmh.2, hds'⟩ ⟨hfr, hlo⟩, hts _ hinm, hts _ hsel⟩ hpre rfl (by rw [List.length_map]; simp at hln; omega) hl.1 hsk (lv_room hcs) hd hrm
          have hAA : ∀ q, ab_A α H.size q → A q := fun q hq => by
            rcases hq with ⟨n, hn, rfl⟩ | hq
            · exact ab_DA hD hn
            · exact hA q (Nat.le_trans hS.1 hq)
          refine ab_callq hrun hS (fun q _ hq => hAA q hq) hAA (fun v σ' H1 locs1 hpost hP1 hS1 => ?_)
          have := hpost H1 locs1 ls hl hP1 (ab_Dm hD) hS1
          cases v <;> exact this
  | ireturn =>
    obtain ⟨rfl, h⟩ := h
    rcases st with _ | ⟨(y | y) | o, _ | ⟨x, r⟩⟩ <;> first | exact h.elim | skip
    exact (hrt H locs ls pc σ hP hS).1 y h.1 h.2 hd
  | lreturn =>
    obtain ⟨rfl, h⟩ := h
    rcases st with _ | ⟨(y | y) | o, _ | ⟨x, r⟩⟩ <;> first | exact h.elim | skip
    exact (hrt H locs ls pc σ hP hS).2.1 y h.1 h.2 hd
  | return_ =>
    obtain ⟨rfl, rfl, h1, h2⟩ := h
    exact (hrt H locs ls pc σ hP hS).2.2.1 h1 h2 hd
  | areturn =>
    obtain ⟨rfl, h⟩ := h
    rcases st with _ | ⟨(y | y) | o, _ | ⟨x, r⟩⟩ <;> first | exact h.elim | skip
    exact (hrt H locs ls pc σ hP hS).2.2.2 o h.1 h.2 hd
  | _ => exact False.elim h
theorem ab_sound (C : ab_Cx p l e R s m args below meth c cells slots Q cc own M X D α κ A P) {pc : Nat} {L : ab_L} {st : List ab_V} {σ : ab_S} (h : ab_wp M cc X P pc L st σ) : ab_WA p l e R s m args below meth c cells slots Q M D α κ A pc L st σ := by
  refine h _ (fun pc L st σ q => ?_)
  unfold ab_st at q
  cases hd : decode cc pc with
  | error e => rw [hd] at q; exact q.elim
  | ok x => rw [hd] at q; exact ab_sound1 C hd q
end AbS
