/-- the classes whose objects the world holds (Measures has none: Town stands in its place) -/
abbrev clz : List vw_C := [(RX0, TX0, 1), (RX1, TX1, 3), (RX2, TX2, 4), (RX3, TX3, 8), (RX5, TX5, 6), (RX5, TX5, 6), (RX6, TX6, 6), (RX7, TX7, 7), (RX8, TX8, 25)]
/-! ===== an abstract machine over the one world of this claim: values, store, shape ===== -/
abbrev ab_Nm : Type := Nat × Nat
abbrev ab_V : Type := (Int32 ⊕ Int64) ⊕ Option ab_Nm
abbrev ab_S : Type := (Nat → Nat → Nat → Int32) × (Nat → Nat → Nat → Int64)
abbrev ab_L : Type := List (Option ab_V)
abbrev ab_K : Type := Nat → ab_L → List ab_V → ab_S → Prop
abbrev ab_P : Type := Option ab_V → ab_S → Prop
abbrev ab_Sp : Type := List ab_V → ab_S → ab_P → Prop
abbrev ab_M : Type := List (Nat × Nat × Nat) × List (Nat × Nat × Nat × ab_Sp) × List (Nat × (Int32 ⊕ Int64)) × Nat × Nat
def ab_cv (α : ab_Nm → Nat) (v : ab_V) : Value := match v with
  | .inl (.inl x) => .int x
  | .inl (.inr x) => .long x
  | .inr none => .null
  | .inr (some n) => .ref (α n)
def ab_cat (v : ab_V) : Nat := match v with
  | .inl (.inr _) => 2
  | .inl (.inl _) => 1
  | .inr _ => 1
theorem ab_cat_cv (α : ab_Nm → Nat) (v : ab_V) : (ab_cv α v).category = ab_cat v := by
  rcases v with (x | x) | (_ | n) <;> rfl
def ab_si (σ : ab_S) (k i j : Nat) (v : Int32) : ab_S := (fun k' => if k' = k then (fun i' => if i' = i then upd (σ.1 k i) j v else σ.1 k i') else σ.1 k', σ.2)
def ab_sl (σ : ab_S) (k i j : Nat) (v : Int64) : ab_S := (σ.1, fun k' => if k' = k then (fun i' => if i' = i then vp_updL (σ.2 k i) j v else σ.2 k i') else σ.2 k')
abbrev ab_Sh : Type := (Nat × List (Bool ⊕ ab_Nm)) ⊕ (Nat × Nat × (Nat → ab_Nm))
def ab_no : Nat → ab_Nm := fun _ => (0, 0)
/-- the shape of a cell: an object (class, fields: int, long, reference) or an array (0 int, 1 long, 2 boolean, 3 towns; length; references) -/
def ab_sh (k i : Nat) : ab_Sh := match k with
  | 0 => .inl (7, [.inr (1, 0), .inr (2, 0), .inr (5, 0), .inr (6, 0), .inr (11, 0), .inr (13, 0), .inr (14, 0)])
  | 1 => .inr (3, 4, fun j => (20, j))
  | 2 => .inl (1, [.inl true, .inr (3, 0), .inr (4, 0)])
  | 3 => .inr (0, 4, ab_no)
  | 4 => .inr (0, 4, ab_no)
  | 5 => .inl (6, [.inr (30, 0), .inr (30, 1), .inl false, .inl false, .inl false, .inl true])
  | 6 => .inl (2, [.inr (7, 0), .inr (8, 0), .inr (9, 0), .inr (10, 0)])
  | 7 => .inr (0, 8, ab_no)
  | 8 => .inr (0, 256, ab_no)
  | 9 => .inr (2, 256, ab_no)
  | 10 => .inr (0, 256, ab_no)
  | 11 => .inl (0, [.inr (12, 0)])
  | 12 => .inr (0, 800, ab_no)
  | 13 => .inr (0, 3, ab_no)
  | 14 => .inr (0, 3, ab_no)
  | 20 => .inl (5, [.inl true, .inr (21, i), .inr (22, i), .inr (23, i), .inr (24, i), .inr (25, i)])
  | 21 => .inr (0, 8, ab_no)
  | 22 => .inr (0, 8, ab_no)
  | 23 => .inr (0, 8, ab_no)
  | 24 => .inr (0, 8, ab_no)
  | 25 => .inr (0, 8, ab_no)
  | 30 => .inl (3, [.inl true, .inl false, .inl false, .inl true, .inl false, .inl false, .inr (31, i), .inr (32, i)])
  | 31 => .inr (1, 8, ab_no)
  | 32 => .inr (1, 8, ab_no)
  | 40 => .inl (8, [.inr (41, 0), .inr (42, 0), .inr (43, 0), .inr (44, 0), .inr (45, 0), .inr (46, 0), .inr (47, 0), .inr (48, 0), .inr (49, 0), .inr (50, 0), .inr (51, 0), .inl true, .inr (52, 0), .inr (53, 0), .inr (54, 0), .inr (55, 0), .inr (56, 0), .inl true, .inl false, .inl false, .inr (57, 0), .inr (58, 0), .inl true, .inr (59, 0), .inr (60, 0)])
  | 41 => .inr (0, 4, ab_no)
  | 42 => .inr (0, 32, ab_no)
  | 43 => .inr (0, 32, ab_no)
  | 44 => .inr (0, 32, ab_no)
  | 45 => .inr (0, 32, ab_no)
  | 46 => .inr (0, 16, ab_no)
  | 47 => .inr (0, 16, ab_no)
  | 48 => .inr (1, 16, ab_no)
  | 49 => .inr (0, 2, ab_no)
  | 50 => .inr (0, 2, ab_no)
  | 51 => .inr (1, 2, ab_no)
  | 52 => .inr (0, 16, ab_no)
  | 53 => .inr (0, 16, ab_no)
  | 54 => .inr (0, 8, ab_no)
  | 55 => .inr (0, 256, ab_no)
  | 56 => .inr (0, 8, ab_no)
  | 57 => .inr (0, 800, ab_no)
  | 58 => .inr (0, 4, ab_no)
  | 59 => .inr (0, 4, ab_no)
  | 60 => .inr (0, 4, ab_no)
  | _ => .inr (9, 0, ab_no)
/-- how many cells of a kind there are -/
def ab_ct (k : Nat) : Nat := match k with
  | 20 => 4 | 21 => 4 | 22 => 4 | 23 => 4 | 24 => 4 | 25 => 4
  | 30 => 2 | 31 => 2 | 32 => 2
  | k => if k ≤ 14 then 1 else if 40 ≤ k ∧ k ≤ 60 then 1 else 0
def ab_nm : List ab_Nm := (List.range 61).flatMap (fun k => (List.range (ab_ct k)).map (fun i => (k, i)))
theorem ab_mem {k i : Nat} (h : i < ab_ct k) : (k, i) ∈ ab_nm := by
  refine List.mem_flatMap.mpr ⟨k, List.mem_range.mpr ?_, List.mem_map.mpr ⟨i, List.mem_range.mpr h, rfl⟩⟩
  rcases Nat.lt_or_ge k 61 with q | q
  · exact q
  · exfalso
    unfold ab_ct at h
    split at h <;> first | omega | skip
    rw [if_neg (by omega), if_neg (by omega)] at h
    omega
theorem ab_nlen : ab_nm.length = 66 := by decide +kernel
theorem ab_inj : ∀ i, i < 66 → ∀ j, j < 66 → ab_nm[i]? = ab_nm[j]? → i = j := by decide +kernel
def ab_ty (t : Nat) : FieldType := match t with
  | 0 => .int
  | 1 => .long
  | 2 => .boolean
  | _ => .object "MoreEven$Town"
def ab_fv (α : ab_Nm → Nat) (σ : ab_S) (k i j : Nat) (f : Bool ⊕ ab_Nm) : Value := match f with
  | .inl true => .int (σ.1 k i j)
  | .inl false => .long (σ.2 k i j)
  | .inr n => .ref (α n)
def ab_fs (α : ab_Nm → Nat) (σ : ab_S) (k i : Nat) (fs : List (Bool ⊕ ab_Nm)) : List Value := fs.mapIdx (fun j f => ab_fv α σ k i j f)
def ab_av (α : ab_Nm → Nat) (σ : ab_S) (k i t : Nat) (rs : Nat → ab_Nm) : (Nat → Int32) ⊕ (Nat → Int64) ⊕ (Nat → UInt32) ⊕ (Nat → UInt64) ⊕ (Nat → Option Nat) := match t with
  | 0 => .inl (σ.1 k i)
  | 1 => .inr (.inl (σ.2 k i))
  | 2 => .inl (σ.1 k i)
  | _ => .inr (.inr (.inr (.inr (fun j => some (α (rs j))))))
def ab_ce (α : ab_Nm → Nat) (κ : ab_Nm → ClassId) (σ : ab_S) (n : ab_Nm) : va_E := match ab_sh n.1 n.2 with
  | .inl (ci, fs) => .inr (ci, ab_fs α σ n.1 n.2 fs)
  | .inr (t, len, rs) => .inl (κ n, len, ab_av α σ n.1 n.2 t rs)
def ab_ws (α : ab_Nm → Nat) (κ : ab_Nm → ClassId) (σ : ab_S) : va_W := ab_nm.map (fun n => (α n, ab_ce α κ σ n))
def ab_ar (κ : ab_Nm → ClassId) (U : State) : Prop := ∀ n ∈ ab_nm, ∀ t len rs, ab_sh n.1 n.2 = .inr (t, len, rs) → ArrOfT U (κ n) (ab_ty t) ∧ va_RA U (κ n) (ab_ty t)
def ab_nt (U : State) : Prop := va_Nw (.methodLinkNest RX4 9 yX7_isWithin RX7) U ∧ va_Nw (.methodLinkNest RX4 62 yX7_sumOf RX7) U ∧ va_Nw (.methodLinkNest RX0 24 yX7_isWithin RX7) U
def ab_W (D : va_G) (α : ab_Nm → Nat) (κ : ab_Nm → ClassId) (σ : ab_S) (U : State) : Prop := va_P D clz (ab_ws α κ σ) U.heap ∧ va_K D clz [] U ∧ va_D (fun _ => True) (ab_ws α κ σ) ∧ ab_ar κ U ∧ ab_nt U
theorem ab_ar.moved {κ : ab_Nm → ClassId} {u U : State} (hvm : u.vm.Alike U.vm) (h : ab_ar κ u) : ab_ar κ U := fun n hn t len rs hs => ⟨arrOfT_moved hvm (h n hn t len rs hs).1, (h n hn t len rs hs).2.moved hvm⟩
theorem ab_nt.warm {s U : State} (hW : s.WarmedH U.vm) (h : ab_nt s) : ab_nt U := ⟨h.1.warmM hW, h.2.1.warmM hW, h.2.2.warmM hW⟩
theorem ab_nt.same {u U : State} (hv : u.vm = U.vm) (h : ab_nt u) : ab_nt U := ⟨h.1.same rfl hv, h.2.1.same rfl hv, h.2.2.same rfl hv⟩
def ab_A (α : ab_Nm → Nat) (sz : Nat) : Nat → Prop := fun q => (∃ n ∈ ab_nm, q = α n) ∨ sz ≤ q
/-- position of a name -/
theorem ab_pos {n : ab_Nm} (h : n ∈ ab_nm) (α : ab_Nm → Nat) (κ : ab_Nm → ClassId) (σ : ab_S) : ∃ q0 : Nat, ab_nm[q0]? = some n ∧ (ab_ws α κ σ)[q0]? = some (α n, ab_ce α κ σ n) := by
  obtain ⟨q0, hq⟩ := List.mem_iff_getElem?.mp h
  exact ⟨q0, hq, by rw [ab_ws, List.getElem?_map, hq]; rfl⟩
/-- a store in one cell -/
theorem ab_ws_set {α : ab_Nm → Nat} {κ : ab_Nm → ClassId} {σ σ' : ab_S} {n : ab_Nm} {q0 : Nat} (hq : ab_nm[q0]? = some n) (ho : ∀ n' : ab_Nm, n' ≠ n → ab_ce α κ σ' n' = ab_ce α κ σ n') : (ab_ws α κ σ).set q0 (α n, ab_ce α κ σ' n) = ab_ws α κ σ' := by
  apply List.ext_getElem?
  intro i
  rw [List.getElem?_set]
  by_cases hi : q0 = i
  · subst hi
    have hl : q0 < ab_nm.length := (List.getElem?_eq_some_iff.mp hq).1
    rw [if_pos rfl, if_pos (by simpa [ab_ws] using hl), ab_ws, List.getElem?_map, hq]
    rfl
  · rw [if_neg hi]
    simp only [ab_ws, List.getElem?_map]
    cases hx : ab_nm[i]? with
    | none => rfl
    | some n' =>
      have hne : n' ≠ n := by
        intro e
        subst e
        have h1 : i < ab_nm.length := (List.getElem?_eq_some_iff.mp hx).1
        have h2 : q0 < ab_nm.length := (List.getElem?_eq_some_iff.mp hq).1
        rw [ab_nlen] at h1 h2
        exact hi (ab_inj q0 h2 i h1 (hq.trans hx.symm))
      show some (α n', ab_ce α κ σ n') = some (α n', ab_ce α κ σ' n')
      rw [ho n' hne]
theorem ab_si_other {σ : ab_S} {k i j k' i' : Nat} {v : Int32} (h : (k', i') ≠ (k, i)) : (ab_si σ k i j v).1 k' i' = σ.1 k' i' := by
  unfold ab_si
  by_cases hk : k' = k
  · subst hk
    have hi : ¬ i' = i := fun e => h (by rw [e])
    simp [hi]
  · simp [hk]
theorem ab_sl_other {σ : ab_S} {k i j k' i' : Nat} {v : Int64} (h : (k', i') ≠ (k, i)) : (ab_sl σ k i j v).2 k' i' = σ.2 k' i' := by
  unfold ab_sl
  by_cases hk : k' = k
  · subst hk
    have hi : ¬ i' = i := fun e => h (by rw [e])
    simp [hi]
  · simp [hk]
theorem ab_si_same {σ : ab_S} {k i j : Nat} {v : Int32} : (ab_si σ k i j v).1 k i = upd (σ.1 k i) j v := by simp [ab_si]
theorem ab_sl_same {σ : ab_S} {k i j : Nat} {v : Int64} : (ab_sl σ k i j v).2 k i = vp_updL (σ.2 k i) j v := by simp [ab_sl]
theorem ab_ce_si {α : ab_Nm → Nat} {κ : ab_Nm → ClassId} {σ : ab_S} {k i j : Nat} {v : Int32} (n' : ab_Nm) (h : n' ≠ (k, i)) : ab_ce α κ (ab_si σ k i j v) n' = ab_ce α κ σ n' := by
  have e1 : (ab_si σ k i j v).1 n'.1 n'.2 = σ.1 n'.1 n'.2 := ab_si_other (fun e => h e)
  have e2 : (ab_si σ k i j v).2 = σ.2 := rfl
  unfold ab_ce
  split
  · simp only [ab_fs, ab_fv, e1, e2]
  · simp only [ab_av, e1, e2]
theorem ab_ce_sl {α : ab_Nm → Nat} {κ : ab_Nm → ClassId} {σ : ab_S} {k i j : Nat} {v : Int64} (n' : ab_Nm) (h : n' ≠ (k, i)) : ab_ce α κ (ab_sl σ k i j v) n' = ab_ce α κ σ n' := by
  have e1 : (ab_sl σ k i j v).2 n'.1 n'.2 = σ.2 n'.1 n'.2 := ab_sl_other (fun e => h e)
  have e2 : (ab_sl σ k i j v).1 = σ.1 := rfl
  unfold ab_ce
  split
  · simp only [ab_fs, ab_fv, e1, e2]
  · simp only [ab_av, e1, e2]
