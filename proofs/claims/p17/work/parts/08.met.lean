def ab_rt (k : Nat) : Option FieldType := match k with
  | 0 => some .int
  | 1 => some .boolean
  | 2 => some .long
  | 3 => none
  | _ => some (.object "MoreEven$Town")
theorem ab_as_nil {α : ab_Nm → Nat} : ∀ {n k : Nat}, ab_as α k (ab_loc n []) = []
  | 0, k => rfl
  | n + 1, k => by
    show ab_as α (k + 1) (ab_loc n []) = []
    exact ab_as_nil
theorem ab_as_args {α : ab_Nm → Nat} : ∀ {as : List ab_V} {n k : Nat} {q : Nat × Value}, q ∈ ab_as α k (ab_loc n as) → q ∈ lv_args k (as.map (ab_cv α))
  | [], n, k, q, h => by rw [ab_as_nil] at h; cases h
  | v :: as, 0, k, q, h => by
    have e : ab_loc 0 (v :: as) = [] := by cases as <;> rfl
    rw [e] at h; cases h
  | v :: as, n + 1, k, q, h => by
    by_cases hc : ab_cat v = 2
    · have hc' : (ab_cv α v).category = 2 := by rw [ab_cat_cv]; exact hc
      cases n with
      | zero =>
        have e : ab_loc (0 + 1) (v :: as) = [some v] := by simp only [ab_loc, if_pos hc]
        rw [e] at h
        simp only [ab_as, List.mem_cons, List.not_mem_nil, or_false] at h
        subst h
        exact List.mem_cons_self
      | succ n =>
        have e : ab_loc (n + 1 + 1) (v :: as) = some v :: none :: ab_loc n as := by simp only [ab_loc, if_pos hc]
        rw [e] at h
        simp only [ab_as, List.mem_cons] at h
        simp only [List.map_cons, lv_args, if_pos hc', List.mem_cons]
        rcases h with h | h
        · exact Or.inl h
        · exact Or.inr (ab_as_args (as := as) (n := n) h)
    · have hc' : ¬ (ab_cv α v).category = 2 := by rw [ab_cat_cv]; exact hc
      have e : ab_loc (n + 1) (v :: as) = some v :: ab_loc n as := by cases n <;> simp only [ab_loc, if_neg hc]
      rw [e] at h
      simp only [ab_as, List.mem_cons] at h
      simp only [List.map_cons, lv_args, if_neg hc', List.mem_cons]
      rcases h with h | h
      · exact Or.inl h
      · exact Or.inr (ab_as_args (as := as) (n := n) h)
theorem ab_sl_len {α : ab_Nm → Nat} : ∀ {as : List ab_V}, (lg_sl (as.map (ab_cv α))).length = (as.map ab_cat).sum
  | [] => rfl
  | v :: as => by
    have ih := ab_sl_len (α := α) (as := as)
    have hv := ab_cat_cv α v
    unfold lg_sl at ih ⊢
    rw [List.map_cons, List.map_cons, List.flatMap_cons, List.length_append, ih, List.sum_cons, hv]
    congr 1
    rcases v with (x | x) | o <;> rfl
set_option maxHeartbeats 4000000 in
/-- every method: its contract is what the abstract machine makes of its body -/
theorem ab_met {l : Launch} {y : MethodName} {cc : ByteArray} {M : ab_M} {d : Nat} (hcls : plainName y.cls = true) (hfl : ab_flo y.cls M) (hkl : ab_klo y.cls M) (hmo : ab_mlo l y.cls d (40 * d) M) : ab_Met l y cc (ab_nL M) (ab_rt (ab_rk M)) d (ab_sp M cc) := by
  intro D α κ sz as σ post hsp
  refine Met.ofW (cc := cc) (maxL := ab_nL M) (ret := ab_rt (ab_rk M)) hcls rfl ?_
  intro p e s m args below meth c s₁ B hml hv
  obtain ⟨rfl, hsz, hP, hK, hD0, har, hnt⟩ := hv
  have hx := B.exec
  have hb := B.bytes
  have hr := B.returns
  have hts := atoms_spec (ws := .code y cc (ab_nL M) (ab_rt (ab_rk M)) :: lw_g) B.pre
  have hown : s.vm.findClass y.cls = some m.cls := findClass_of_methodNamed B.named
  have hlocks := B.notSynchronized
  subst hsz
  have hD : va_D (ab_A α s.heap.size) (ab_ws α κ σ) := ⟨hD0.1, fun k q hq => by
    simp only [ab_ws, List.getElem?_map] at hq
    cases hx : ab_nm[k]? with
    | none => rw [hx] at hq; cases hq
    | some n => rw [hx] at hq; cases hq; exact Or.inl ⟨n, List.mem_of_getElem? hx, rfl⟩⟩
  have hl := lv_entry (as.map (ab_cv α)) (n := ab_nL M) (by rw [ab_sl_len]; exact hsp.1)
  rw [lg_entry_eq]
  generalize (lg_sl (as.map (ab_cv α)) ++ List.replicate (ab_nL M - (lg_sl (as.map (ab_cv α))).length) Slot.unset).toArray = ls at hl ⊢
  have hl' : lv_has ls (ab_nL M) (ab_as α 0 (ab_loc (ab_nL M) as)) := ⟨hl.1, hl.2.1, fun q hq => hl.2.2 q (ab_as_args hq)⟩
  refine ab_sound (X := none) (A := ab_A α s.heap.size) (P := post) (cc := cc) (own := y.cls) ⟨hx, hb, hml, hown, fun w hw => hts w (List.mem_cons_of_mem _ hw), hK, har, hnt, fun q h => Or.inr h, ⟨Nat.zero_le _, Nat.zero_le _⟩, fun n xs h => (by cases h), hfl, hkl, hmo, ?_⟩ hsp.2 s.heap [] ls hl' hP hD va_S.rf
  intro H locs ls pc σ' hP' hS'
  refine ⟨fun x hrk hp hd => ?_, fun x hrk hp hd => ?_, fun hrk hp hd => ?_, fun x hrk hp hd => ?_⟩
  · rcases hrk with hrk | ⟨hrk, h01⟩
    · rw [hrk] at hr
      exact W.iret hx hb hr (fun t ht hW => ⟨⟨some (.inl (.inl x)), σ', rfl, hp, by rw [ht]; exact hP'⟩, hS'.F ht⟩) hS'.2.2 hd hlocks
    · rw [hrk] at hr
      exact W.zret (ty := .boolean) hx hb hr (by rcases h01 with rfl | rfl <;> rfl) (fun t ht hW => ⟨⟨some (.inl (.inl x)), σ', rfl, hp, by rw [ht]; exact hP'⟩, hS'.F ht⟩) hS'.2.2 hd hlocks
  · rw [hrk] at hr
    exact W.lret hx hb hr (fun t ht hW => ⟨⟨some (.inl (.inr x)), σ', rfl, hp, by rw [ht]; exact hP'⟩, hS'.F ht⟩) hS'.2.2 hd hlocks
  · rw [hrk] at hr
    exact W.vret hx hb hr (fun t ht hW => ⟨⟨none, σ', rfl, hp, by rw [ht]; exact hP'⟩, hS'.F ht⟩) hS'.2.2 hd hlocks
  · rw [hrk] at hr
    exact W.aret hx hb hr (Or.inl ⟨_, rfl⟩) (by
      cases x with
      | none => exact Or.inl rfl
      | some n => exact Or.inr ⟨_, rfl⟩) (fun t ht hW => ⟨⟨some (.inr x), σ', rfl, hp, by rw [ht]; exact hP'⟩, hS'.F ht⟩) hS'.2.2 hd hlocks
