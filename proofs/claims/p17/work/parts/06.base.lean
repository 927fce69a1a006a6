def lw_g : List Cond := lw_tbl.filter goodWord
theorem lw_gg : GoodIn lw_g lw_g := fun _ h => ⟨h, good_of_word (List.mem_filter.mp h).2⟩
theorem lw_gt {w : Cond} (h : w ∈ lw_g) : w ∈ lw_tbl := (List.mem_filter.mp h).1
def ab_as (α : ab_Nm → Nat) (k : Nat) (L : ab_L) : List (Nat × Value) := match L with
  | [] => []
  | none :: t => ab_as α (k + 1) t
  | some v :: t => (k, ab_cv α v) :: ab_as α (k + 1) t
theorem ab_as_mem {α : ab_Nm → Nat} {L : ab_L} : ∀ {k : Nat} {q : Nat × Value}, q ∈ ab_as α k L ↔ ∃ j v, L[j]? = some (some v) ∧ q = (k + j, ab_cv α v) := by
  induction L with
  | nil => intro k q; simp [ab_as]
  | cons a t ih =>
    intro k q
    cases a with
    | none =>
      simp only [ab_as, ih]
      constructor
      · rintro ⟨j, v, h1, h2⟩
        exact ⟨j + 1, v, by simpa using h1, by rw [h2]; congr 1; omega⟩
      · rintro ⟨j, v, h1, h2⟩
        cases j with
        | zero => simp at h1
        | succ j => exact ⟨j, v, by simpa using h1, by rw [h2]; congr 1; omega⟩
    | some w =>
      simp only [ab_as, List.mem_cons, ih]
      constructor
      · rintro (h | ⟨j, v, h1, h2⟩)
        · exact ⟨0, w, by simp, by simpa using h⟩
        · exact ⟨j + 1, v, by simpa using h1, by rw [h2]; congr 1; omega⟩
      · rintro ⟨j, v, h1, h2⟩
        cases j with
        | zero => left; simp at h1; subst h1; simpa using h2
        | succ j => right; exact ⟨j, v, by simpa using h1, by rw [h2]; congr 1; omega⟩
theorem ab_at_get : ∀ {L : ab_L} {k : Nat} {v : ab_V}, ab_at L k = some v → L[k]? = some (some v)
  | [], k, v, h => by simp [ab_at] at h
  | a :: t, 0, v, h => by simpa [ab_at] using h
  | a :: t, k + 1, v, h => by simpa using ab_at_get (L := t) (k := k) h
theorem ab_lv {α : ab_Nm → Nat} {ls : Array Slot} {nL : Nat} {L : ab_L} {k : Nat} {v : ab_V} (h : lv_has ls nL (ab_as α 0 L)) (e : ab_at L k = some v) : ls[k]? = some (.val (ab_cv α v)) :=
  h.2.2 (k, ab_cv α v) (ab_as_mem.mpr ⟨k, v, ab_at_get e, by simp⟩)
theorem ab_kil_s {a : Option ab_V} {w : ab_V} (h : ab_kil a = some w) : a = some w ∧ ab_cat w ≠ 2 := by
  rcases a with _ | ((x | x) | o) <;> simp [ab_kil] at h <;> subst h <;> simp [ab_cat]
theorem ab_s1_get {v : ab_V} : ∀ {L : ab_L} {k j : Nat} {w : ab_V}, (ab_s1 L k v)[j]? = some (some w) → (j = k ∧ w = v) ∨ (j ≠ k ∧ L[j]? = some (some w) ∧ ¬ (j + 1 = k ∧ ab_cat w = 2))
  | [], k, j, w, h => by simp [ab_s1] at h
  | a :: t, 0, 0, w, h => by simp [ab_s1] at h; exact Or.inl ⟨rfl, h.symm⟩
  | a :: t, 0, j + 1, w, h => by simp [ab_s1] at h; exact Or.inr ⟨by omega, by simpa using h, by omega⟩
  | a :: t, k + 1, 0, w, h => by
    simp only [ab_s1, List.getElem?_cons_zero, Option.some.injEq] at h
    by_cases hk : k = 0
    · rw [if_pos hk] at h
      obtain ⟨h1, h2⟩ := ab_kil_s h
      exact Or.inr ⟨by omega, by simpa using h1, fun q => h2 q.2⟩
    · rw [if_neg hk] at h
      exact Or.inr ⟨by omega, by simpa using h, by omega⟩
  | a :: t, k + 1, j + 1, w, h => by
    simp only [ab_s1, List.getElem?_cons_succ] at h
    rcases ab_s1_get (L := t) h with ⟨h1, h2⟩ | ⟨h1, h2, h3⟩
    · exact Or.inl ⟨by omega, h2⟩
    · exact Or.inr ⟨by omega, by simpa using h2, fun q => h3 ⟨by omega, q.2⟩⟩
theorem ab_s2_get {v : ab_V} : ∀ {L : ab_L} {k j : Nat} {w : ab_V}, (ab_s2 L k v)[j]? = some (some w) → (j = k ∧ w = v) ∨ (j ≠ k ∧ j ≠ k + 1 ∧ L[j]? = some (some w) ∧ ¬ (j + 1 = k ∧ ab_cat w = 2))
  | [], k, j, w, h => by simp [ab_s2] at h
  | a :: [], 0, j, w, h => by simp [ab_s2] at h
  | a :: b :: t, 0, 0, w, h => by simp [ab_s2] at h; exact Or.inl ⟨rfl, h.symm⟩
  | a :: b :: t, 0, 1, w, h => by simp [ab_s2] at h
  | a :: b :: t, 0, j + 2, w, h => by simp [ab_s2] at h; exact Or.inr ⟨by omega, by omega, by simpa using h, by omega⟩
  | a :: t, k + 1, 0, w, h => by
    have e : ab_s2 (a :: t) (k + 1) v = (if k = 0 then ab_kil a else a) :: ab_s2 t k v := by cases t <;> rfl
    rw [e] at h
    simp only [List.getElem?_cons_zero, Option.some.injEq] at h
    by_cases hk : k = 0
    · rw [if_pos hk] at h
      obtain ⟨h1, h2⟩ := ab_kil_s h
      exact Or.inr ⟨by omega, by omega, by simpa using h1, fun q => h2 q.2⟩
    · rw [if_neg hk] at h
      exact Or.inr ⟨by omega, by omega, by simpa using h, by omega⟩
  | a :: t, k + 1, j + 1, w, h => by
    have e : ab_s2 (a :: t) (k + 1) v = (if k = 0 then ab_kil a else a) :: ab_s2 t k v := by cases t <;> rfl
    rw [e] at h
    simp only [List.getElem?_cons_succ] at h
    rcases ab_s2_get (L := t) h with ⟨h1, h2⟩ | ⟨h1, h2, h3, h4⟩
    · exact Or.inl ⟨by omega, h2⟩
    · exact Or.inr ⟨by omega, by omega, by simpa using h3, fun q => h4 ⟨by omega, q.2⟩⟩
theorem ab_put1 {α : ab_Nm → Nat} {ls' : Array Slot} {nL k : Nat} {L : ab_L} {v : ab_V} (h : lv_has ls' nL ((k, ab_cv α v) :: (ab_as α 0 L).filter (fun q => !(q.1 == k) && !(q.1 + 1 == k && q.2.category == 2)))) : lv_has ls' nL (ab_as α 0 (ab_s1 L k v)) := by
  refine ⟨h.1, h.2.1, fun q hq => h.2.2 q ?_⟩
  obtain ⟨j, w, hj, rfl⟩ := ab_as_mem.mp hq
  rcases ab_s1_get hj with ⟨rfl, rfl⟩ | ⟨h1, h2, h3⟩
  · rw [Nat.zero_add]; exact List.mem_cons_self
  · refine List.mem_cons_of_mem _ (List.mem_filter.mpr ⟨ab_as_mem.mpr ⟨j, w, h2, rfl⟩, ?_⟩)
    simp only [Nat.zero_add, ab_cat_cv, Bool.and_eq_true, Bool.not_eq_true', beq_eq_false_iff_ne, ne_eq, Bool.and_eq_false_iff]
    refine ⟨h1, ?_⟩
    by_cases e : j + 1 = k
    · exact Or.inr (fun e2 => h3 ⟨e, e2⟩)
    · exact Or.inl e
theorem ab_put2 {α : ab_Nm → Nat} {ls' : Array Slot} {nL k : Nat} {L : ab_L} {v : ab_V} (h : lv_has ls' nL ((k, ab_cv α v) :: (ab_as α 0 L).filter (fun q => !(q.1 == k) && (!(q.1 == k + 1) && !(q.1 + 1 == k && q.2.category == 2))))) : lv_has ls' nL (ab_as α 0 (ab_s2 L k v)) := by
  refine ⟨h.1, h.2.1, fun q hq => h.2.2 q ?_⟩
  obtain ⟨j, w, hj, rfl⟩ := ab_as_mem.mp hq
  rcases ab_s2_get hj with ⟨rfl, rfl⟩ | ⟨h1, h2, h3, h4⟩
  · rw [Nat.zero_add]; exact List.mem_cons_self
  · refine List.mem_cons_of_mem _ (List.mem_filter.mpr ⟨ab_as_mem.mpr ⟨j, w, h3, rfl⟩, ?_⟩)
    simp only [Nat.zero_add, ab_cat_cv, Bool.and_eq_true, Bool.not_eq_true', beq_eq_false_iff_ne, ne_eq, Bool.and_eq_false_iff]
    refine ⟨h1, h2, ?_⟩
    by_cases e : j + 1 = k
    · exact Or.inr (fun e2 => h4 ⟨e, e2⟩)
    · exact Or.inl e
theorem ab_pop_s : ∀ {n : Nat} {st acc as r : List ab_V}, ab_pop n st acc = some (as, r) → as = (st.take n).reverse ++ acc ∧ r = st.drop n ∧ n ≤ st.length
  | 0, st, acc, as, r, h => by
    have h : some (acc, st) = some (as, r) := by cases st <;> exact h
    cases h
    simp
  | n + 1, [], acc, as, r, h => by cases h
  | n + 1, v :: st, acc, as, r, h => by
    obtain ⟨h1, h2, h3⟩ := ab_pop_s (n := n) (st := st) (acc := v :: acc) h
    refine ⟨by rw [h1]; simp, by rw [h2]; simp, by simpa using h3⟩
theorem ab_pop_st {n : Nat} {st as r : List ab_V} (h : ab_pop n st [] = some (as, r)) : st = as.reverse ++ r ∧ as.length = n := by
  obtain ⟨h1, h2, h3⟩ := ab_pop_s h
  rw [h1, h2]
  simp only [List.append_nil, List.reverse_reverse, List.take_append_drop, List.length_reverse, List.length_take, true_and]
  omega
theorem ab_fd_s {s : ab_Sh} {ci j : Nat} {F : Bool ⊕ ab_Nm} (h : ab_fd s ci j = some F) : ∃ fs, s = .inl (ci, fs) ∧ fs[j]? = some F := by
  rcases s with ⟨c, fs⟩ | ⟨t, n, rs⟩
  · simp only [ab_fd] at h
    by_cases hc : c = ci
    · rw [if_pos hc] at h; exact ⟨fs, by rw [hc], h⟩
    · rw [if_neg hc] at h; cases h
  · cases h
theorem ab_isO_s {s : ab_Sh} {ci : Nat} (h : ab_isO s ci) : ∃ fs, s = .inl (ci, fs) := by
  rcases s with ⟨c, fs⟩ | ⟨t, n, rs⟩
  · exact ⟨fs, by rw [show c = ci from h]⟩
  · exact h.elim
theorem ab_al_s {s : ab_Sh} {t : Nat} {i : Int32} (h : ab_al s t i) : ∃ n rs, s = .inr (t, n, rs) ∧ vp_in i n := by
  rcases s with ⟨c, fs⟩ | ⟨t', n, rs⟩
  · exact h.elim
  · exact ⟨n, rs, by rw [h.1], h.2⟩
theorem ab_ce_o {α : ab_Nm → Nat} {κ : ab_Nm → ClassId} {σ : ab_S} {k i ci : Nat} {fs : List (Bool ⊕ ab_Nm)} (h : ab_sh k i = .inl (ci, fs)) : ab_ce α κ σ (k, i) = .inr (ci, ab_fs α σ k i fs) := by
  unfold ab_ce; simp only [h]
theorem ab_ce_a {α : ab_Nm → Nat} {κ : ab_Nm → ClassId} {σ : ab_S} {k i t n : Nat} {rs : Nat → ab_Nm} (h : ab_sh k i = .inr (t, n, rs)) : ab_ce α κ σ (k, i) = .inl (κ (k, i), n, ab_av α σ k i t rs) := by
  unfold ab_ce; simp only [h]
theorem ab_fs_get {α : ab_Nm → Nat} {σ : ab_S} {k i j : Nat} {fs : List (Bool ⊕ ab_Nm)} {F : Bool ⊕ ab_Nm} (h : fs[j]? = some F) : (ab_fs α σ k i fs)[j]? = some (ab_fv α σ k i j F) := by
  simp [ab_fs, List.getElem?_mapIdx, h]
theorem ab_fs_si {α : ab_Nm → Nat} {σ : ab_S} {k i f : Nat} {x : Int32} {fs : List (Bool ⊕ ab_Nm)} (h : fs[f]? = some (.inl true)) : (ab_fs α σ k i fs).set f (.int x) = ab_fs α (ab_si σ k i f x) k i fs := by
  apply List.ext_getElem?
  intro j
  rw [List.getElem?_set]
  have hl : f < fs.length := (List.getElem?_eq_some_iff.mp h).1
  by_cases hj : f = j
  · subst hj
    rw [if_pos rfl, if_pos (by simpa [ab_fs] using hl), ab_fs_get h]
    simp [ab_fv, ab_si_same, upd]
  · rw [if_neg hj]
    simp only [ab_fs, List.getElem?_mapIdx]
    cases hx : fs[j]? with
    | none => rfl
    | some F =>
      have hj' : ¬ j = f := fun q => hj q.symm
      rcases F with (_ | _) | n <;> simp [ab_fv, ab_si_same, upd, hj', ab_si]
theorem ab_fs_sl {α : ab_Nm → Nat} {σ : ab_S} {k i f : Nat} {x : Int64} {fs : List (Bool ⊕ ab_Nm)} (h : fs[f]? = some (.inl false)) : (ab_fs α σ k i fs).set f (.long x) = ab_fs α (ab_sl σ k i f x) k i fs := by
  apply List.ext_getElem?
  intro j
  rw [List.getElem?_set]
  have hl : f < fs.length := (List.getElem?_eq_some_iff.mp h).1
  by_cases hj : f = j
  · subst hj
    rw [if_pos rfl, if_pos (by simpa [ab_fs] using hl), ab_fs_get h]
    simp [ab_fv, ab_sl_same, vp_updL]
  · rw [if_neg hj]
    simp only [ab_fs, List.getElem?_mapIdx]
    cases hx : fs[j]? with
    | none => rfl
    | some F =>
      have hj' : ¬ j = f := fun q => hj q.symm
      rcases F with (_ | _) | n <;> simp [ab_fv, ab_sl_same, vp_updL, hj', ab_sl]
theorem ab_Dm {α : ab_Nm → Nat} {κ : ab_Nm → ClassId} {σ σ' : ab_S} {A : Nat → Prop} (h : va_D A (ab_ws α κ σ)) : va_D A (ab_ws α κ σ') := by
  have key : ∀ (i : Nat) (p : Nat × va_E), (ab_ws α κ σ')[i]? = some p → ∃ p', (ab_ws α κ σ)[i]? = some p' ∧ p'.1 = p.1 := by
    intro i p hp
    simp only [ab_ws, List.getElem?_map] at hp ⊢
    cases hx : ab_nm[i]? with
    | none => rw [hx] at hp; cases hp
    | some n => rw [hx] at hp; cases hp; exact ⟨_, rfl, rfl⟩
  refine ⟨fun i j p q hp hq e => ?_, fun k q hq => ?_⟩
  · obtain ⟨p', h1, h2⟩ := key i p hp
    obtain ⟨q', h3, h4⟩ := key j q hq
    exact h.1 i j p' q' h1 h3 (by rw [h2, h4, e])
  · obtain ⟨q', h3, h4⟩ := key k q hq
    rw [← h4]; exact h.2 k q' h3
theorem ab_DA {α : ab_Nm → Nat} {κ : ab_Nm → ClassId} {σ : ab_S} {A : Nat → Prop} (h : va_D A (ab_ws α κ σ)) {n : ab_Nm} (hn : n ∈ ab_nm) : A (α n) := by
  obtain ⟨q0, -, hw⟩ := ab_pos hn α κ σ
  exact h.2 q0 _ hw
theorem ab_K1 {D : va_G} {s : State} {cA : ClassId} {ty : FieldType} (h : va_K D clz [] s) (q : ArrOfT s cA ty ∧ va_RA s cA ty) : va_K D clz [(cA, ty)] s := ⟨h.1, fun k x hx => by
  cases k with
  | zero => cases hx; exact q
  | succ k => simp at hx⟩
def ab_Q (D : va_G) (α : ab_Nm → Nat) (κ : ab_Nm → ClassId) (sz : Nat) (post : ab_P) : Array Value → State → Outcome → State → Prop := fun _ st oc t => (∃ r σ', oc = .returned (r.map (ab_cv α)) ∧ post r σ' ∧ va_P D clz (ab_ws α κ σ') t.heap) ∧ va_F (ab_A α sz) st t
def ab_Pc (D : va_G) (α : ab_Nm → Nat) (κ : ab_Nm → ClassId) (sz : Nat) (as : List ab_V) (σ : ab_S) : Array Value → State → Prop := va_Pc (as.map (ab_cv α)) (fun U => U.heap.size = sz ∧ ab_W D α κ σ U)
abbrev ab_rm (d : Nat) : Room := { frames := d, cells := 0, slots := 0, locals := 40 * d }
def ab_Met (l : Launch) (y : MethodName) (cc : ByteArray) (nL : Nat) (ret : Option FieldType) (d : Nat) (sp : ab_Sp) : Prop :=
  ∀ (D : va_G) (α : ab_Nm → Nat) (κ : ab_Nm → ClassId) (sz : Nat) (as : List ab_V) (σ : ab_S) (post : ab_P), sp as σ post → Met l y (.code y cc nL ret :: lw_g) (ab_rm d) (ab_Pc D α κ sz as σ) (ab_Q D α κ sz post) 0 0 (ab_A α sz)
theorem ab_blind {D : va_G} {α : ab_Nm → Nat} {κ : ab_Nm → ClassId} {sz : Nat} {as : List ab_V} {σ : ab_S} : FrameBlind (ab_Pc D α κ sz as σ) := by
  intro a U g mk q
  obtain ⟨q0, q1, qP, qK, qD, qA, qN⟩ := q
  exact ⟨q0, q1, qP, va_K.moved (u := U) (U := U.calling g mk a) (Vm.Alike.refl U.vm) qK, qD, ab_ar.moved (u := U) (U := U.calling g mk a) (Vm.Alike.refl U.vm) qA, ab_nt.same (u := U) (U := U.calling g mk a) rfl qN⟩
theorem ab_tsw_at {F : Int → Prop} : ∀ {os : List Int} {lo x : Int}, ab_tsw os lo x F → ∀ (j : Nat) (o : Int), os[j]? = some o → x = lo + j → F o
  | [], _, _, _, j, o, h, _ => by simp at h
  | a :: t, lo, x, q, 0, o, h, e => by
    simp at h; subst h
    exact q.1 (by simpa using e)
  | a :: t, lo, x, q, j + 1, o, h, e => ab_tsw_at (os := t) q.2 j o (by simpa using h) (by omega)
