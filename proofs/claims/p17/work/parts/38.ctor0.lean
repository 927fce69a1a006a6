def cn_nt (U : State) : Prop := va_Nw (.methodLinkNest RX7 17 yX1_init RX7) U ∧ va_Nw (.methodLinkNest RX7 24 yX6_init RX7) U ∧ va_Nw (.methodLinkNest RX7 31 yX2_init RX7) U ∧ va_Nw (.methodLinkNest RX7 38 yX0_init RX7) U ∧ va_Nw (.methodLinkNest RX7 50 yX5_init RX7) U ∧ va_Nw (.methodLinkNest RX6 11 yX3_init RX7) U ∧ va_AO "MoreEven$Town" U
theorem cn_nt_warm {s U : State} (hW : s.WarmedH U.vm) (h : cn_nt s) : cn_nt U := ⟨h.1.warmM hW, h.2.1.warmM hW, h.2.2.1.warmM hW, h.2.2.2.1.warmM hW, h.2.2.2.2.1.warmM hW, h.2.2.2.2.2.1.warmM hW, va_AO.moved hW.alike h.2.2.2.2.2.2⟩
theorem cn_nt_same {u U : State} (hv : u.vm = U.vm) (h : cn_nt u) : cn_nt U := ⟨h.1.same rfl hv, h.2.1.same rfl hv, h.2.2.1.same rfl hv, h.2.2.2.1.same rfl hv, h.2.2.2.2.1.same rfl hv, h.2.2.2.2.2.1.same rfl hv, va_AO.moved (hv ▸ Vm.Alike.refl u.vm) h.2.2.2.2.2.2⟩
def cn_P (D : va_G) (w0 : va_W) (h0 sz : Nat) : Array Value → State → Prop := va_Pc [.ref h0] (fun U => U.heap.size = sz ∧ va_P D clz w0 U.heap ∧ va_K D clz [] U ∧ va_D (fun _ => True) w0 ∧ cn_nt U)
theorem cn_blind {D : va_G} {w0 : va_W} {h0 sz : Nat} : FrameBlind (cn_P D w0 h0 sz) := by
  intro a U g mk q
  obtain ⟨q0, q1, qP, qK, qD, qN⟩ := q
  exact ⟨q0, q1, qP, va_K.moved (u := U) (U := U.calling g mk a) (Vm.Alike.refl U.vm) qK, qD, cn_nt_same (u := U) (U := U.calling g mk a) rfl qN⟩
theorem cn_d0 : ∀ j, j < 1 → defaultValue (tyX0 j) = vp_V [.null] j := fun j hj => by rcases (show j = 0 by omega) with rfl <;> rfl
theorem cn_d1 : ∀ j, j < 3 → defaultValue (tyX1 j) = vp_V [.int 0, .null, .null] j := fun j hj => by rcases (show j = 0 ∨ j = 1 ∨ j = 2 by omega) with rfl | rfl | rfl <;> rfl
theorem cn_d2 : ∀ j, j < 4 → defaultValue (tyX2 j) = vp_V [.null, .null, .null, .null] j := fun j hj => by rcases (show j = 0 ∨ j = 1 ∨ j = 2 ∨ j = 3 by omega) with rfl | rfl | rfl | rfl <;> rfl
theorem cn_d3 : ∀ j, j < 8 → defaultValue (tyX3 j) = vp_V [.int 0, .long 0, .long 0, .int 0, .long 0, .long 0, .null, .null] j := fun j hj => by rcases (show j = 0 ∨ j = 1 ∨ j = 2 ∨ j = 3 ∨ j = 4 ∨ j = 5 ∨ j = 6 ∨ j = 7 by omega) with rfl | rfl | rfl | rfl | rfl | rfl | rfl | rfl <;> rfl
theorem cn_d5 : ∀ j, j < 6 → defaultValue (tyX5 j) = vp_V [.int 0, .null, .null, .null, .null, .null] j := fun j hj => by rcases (show j = 0 ∨ j = 1 ∨ j = 2 ∨ j = 3 ∨ j = 4 ∨ j = 5 by omega) with rfl | rfl | rfl | rfl | rfl | rfl <;> rfl
theorem cn_d6 : ∀ j, j < 6 → defaultValue (tyX6 j) = vp_V [.null, .null, .long 0, .long 0, .long 0, .int 0] j := fun j hj => by rcases (show j = 0 ∨ j = 1 ∨ j = 2 ∨ j = 3 ∨ j = 4 ∨ j = 5 by omega) with rfl | rfl | rfl | rfl | rfl | rfl <;> rfl
theorem cn_d7 : ∀ j, j < 7 → defaultValue (tyX7 j) = vp_V [.null, .null, .null, .null, .null, .null, .null] j := fun j hj => by rcases (show j = 0 ∨ j = 1 ∨ j = 2 ∨ j = 3 ∨ j = 4 ∨ j = 5 ∨ j = 6 by omega) with rfl | rfl | rfl | rfl | rfl | rfl | rfl <;> rfl
theorem cn_d8 : ∀ j, j < 25 → defaultValue (tyX8 j) = vp_V [.null, .null, .null, .null, .null, .null, .null, .null, .null, .null, .null, .int 0, .null, .null, .null, .null, .null, .int 0, .long 0, .long 0, .null, .null, .int 0, .null, .null] j := fun j hj => by rcases (show j = 0 ∨ j = 1 ∨ j = 2 ∨ j = 3 ∨ j = 4 ∨ j = 5 ∨ j = 6 ∨ j = 7 ∨ j = 8 ∨ j = 9 ∨ j = 10 ∨ j = 11 ∨ j = 12 ∨ j = 13 ∨ j = 14 ∨ j = 15 ∨ j = 16 ∨ j = 17 ∨ j = 18 ∨ j = 19 ∨ j = 20 ∨ j = 21 ∨ j = 22 ∨ j = 23 ∨ j = 24 by omega) with rfl | rfl | rfl | rfl | rfl | rfl | rfl | rfl | rfl | rfl | rfl | rfl | rfl | rfl | rfl | rfl | rfl | rfl | rfl | rfl | rfl | rfl | rfl | rfl | rfl <;> rfl
def at_0 (D : va_G) (A : Nat → Prop) (h0 : Nat) (t : State) : Prop := ∃ (q1 : Nat) (a2 : ClassId), va_P D clz [(h0, .inr (0, [.ref q1])), (q1, .inl (a2, 800, .inl (fun _ => 0)))] t.heap ∧ va_K D clz [(a2, .int)] t ∧ va_D A [(h0, .inr (0, [.ref q1])), (q1, .inl (a2, 800, .inl (fun _ => 0)))]
abbrev rm_0 : Room := { frames := 1, cells := 1, slots := 800, locals := 12 }
theorem cn_g0 : GoodIn lw_g (.code yX0_init cX0_init 1 none :: lw_g) := by
  intro w hw
  rcases List.mem_cons.mp hw with rfl | h
  · exact lw_gg _ (by decide +kernel)
  · exact lw_gg _ h
set_option maxHeartbeats 8000000 in
set_option maxRecDepth 100000 in
theorem c0_init (l : Launch) (D : va_G) (h0 : Nat) (sz : Nat) : Met l yX0_init (.code yX0_init cX0_init 1 none :: lw_g) rm_0 (cn_P D [(h0, .inr (0, [.null]))] h0 sz) (va_Qv (fun _ : Unit => True) (fun _ t => at_0 D (va_A [(h0, .inr (0, [.null]))] sz) h0 t) (va_A [(h0, .inr (0, [.null]))] sz)) 1 800 (va_A [(h0, .inr (0, [.null]))] sz) := by
  refine Met.ofW (cc := cX0_init) (maxL := 1) (ret := none) (by decide) rfl ?_
  intro p e s m args below meth c s₁ B hml hv
  obtain ⟨rfl, hsz, hP, hK, hD0, hnk⟩ := hv
  have hx := B.exec
  have hb := B.bytes
  have hr := B.returns
  have hts0 := atoms_spec (ws := .code yX0_init cX0_init 1 none :: lw_g) B.pre
  have hts : ∀ w ∈ lw_g, w.before _ s = true := fun w hw => hts0 w (List.mem_cons_of_mem _ hw)
  have hown : s.vm.findClass RX0 = some m.cls := findClass_of_methodNamed B.named
  have hlocks := B.notSynchronized
  have hin : meth.name = "<init>" := (name_of_methodNamed B.named B.method).1
  subst hsz
  have hD := hD0.self (sz := s.heap.size)
  generalize hAe : va_A [(h0, .inr (0, [.null]))] s.heap.size = A at hD ⊢
  have hA : ∀ q : Nat, s.heap.size ≤ q → A q := fun q h => by rw [← hAe]; exact Or.inr h
  have hS : va_S A s.heap s.heap [] := va_S.rf
  have hP : va_P D clz [(h0, .inr (0, [.null]))] s.heap := hP
  have hl := lv_entry ([.ref h0]) (n := 1) (Nat.le_of_ble_eq_true rfl)
  rw [lg_entry_eq]
  generalize (lg_sl ([.ref h0]) ++ List.replicate (1 - (lg_sl ([.ref h0])).length) Slot.unset).toArray = ls at hl ⊢
  have hl : lv_has ls 1 [(0, .ref h0)] := hl
  refine lv_aload_n hx hb dX0_init_0 rfl (lv_at hl 0 rfl) ?_
  refine W.objInit hx hb hown (hts (.methodLink RX0 3 objectInit) (by decide +kernel)) (hts (.instanceMethod objectInit) (by decide +kernel)) (hts (.code objectInit ⟨#[0xb1]⟩ 1 none) (by decide +kernel)) rfl (by rw [hml]; exact hl.1) rfl dX0_init_1 (Nat.le_of_ble_eq_true rfl) (Nat.le_of_ble_eq_true rfl) ?_
  refine W.eq (g2 := F0 m 4 ls []) rfl ?_
  refine lv_aload_n hx hb dX0_init_4 rfl (lv_at hl 0 rfl) ?_
  refine lv_sipush (v := 800) hx hb dX0_init_5 (by decide) ?_
  refine va_newa (atype := .int) (ty := .int) (n := 800) (N' := 800) (a0 := (800, .inl (fun _ => 0))) hx hb (hts (.arrayClass .int) (by decide +kernel)) rfl hK hP hD hS hA (fun _ => rfl) (by decide) (by decide) (by decide) (Nat.le_of_ble_eq_true rfl) (Nat.le_of_ble_eq_true rfl) dX0_init_8 (fun q1 a2 H hK hP hD hS => ?_)
  have hP : va_P D clz [(h0, .inr (0, [.null])), (q1, .inl (a2, 800, .inl (fun _ => 0)))] H := hP
  have hD : va_D A [(h0, .inr (0, [.null])), (q1, .inl (a2, 800, .inl (fun _ => 0)))] := hD
  have hK : va_K D clz [(a2, .int)] s := hK
  refine W.widen (k := 1) (n := 800) (by decide) (by decide) ?_
  refine va_putF (D := D) (ci := 0) (v := .ref q1) (ty := .array .int) (C := RX0) (T := TX0) (N := 1) hx hb hts (ab_hin 0 (by decide)) tyX0 tyX0_ok nmX0 hown hK hP hD hS 0 rfl rfl 0 (by decide) (hts (.fieldLink RX0 9 "MoreEven$Answers" "bits" "[I") (by decide +kernel)) (fun _ h9 => h9) rfl hin rfl (by decide +kernel) rfl rfl (Nat.le_of_ble_eq_true rfl) dX0_init_10 (fun H locs hP hD hS => ?_)
  have hP : va_P D clz [(h0, .inr (0, [.ref q1])), (q1, .inl (a2, 800, .inl (fun _ => 0)))] H := hP
  have hD : va_D A [(h0, .inr (0, [.ref q1])), (q1, .inl (a2, 800, .inl (fun _ => 0)))] := hD
  exact W.vret hx hb hr (fun t ht hW => ⟨⟨(), rfl, trivial, q1, a2, by rw [ht]; exact hP, va_K.moved hW.alike hK, hD⟩, hS.F ht⟩) hS.2.2 dX0_init_13
def at_1 (D : va_G) (A : Nat → Prop) (h0 : Nat) (t : State) : Prop := ∃ (q1 q3 : Nat) (a2 a4 : ClassId), va_P D clz [(h0, .inr (1, [.int 0, .ref q1, .ref q3])), (q1, .inl (a2, 4, .inl (fun _ => 0))), (q3, .inl (a4, 4, .inl (fun _ => 0)))] t.heap ∧ va_K D clz [(a2, .int), (a4, .int)] t ∧ va_D A [(h0, .inr (1, [.int 0, .ref q1, .ref q3])), (q1, .inl (a2, 4, .inl (fun _ => 0))), (q3, .inl (a4, 4, .inl (fun _ => 0)))]
abbrev rm_1 : Room := { frames := 1, cells := 2, slots := 8, locals := 12 }
theorem cn_g1 : GoodIn lw_g (.code yX1_init cX1_init 1 none :: lw_g) := by
  intro w hw
  rcases List.mem_cons.mp hw with rfl | h
  · exact lw_gg _ (by decide +kernel)
  · exact lw_gg _ h
set_option maxHeartbeats 8000000 in
set_option maxRecDepth 100000 in
theorem c1_init (l : Launch) (D : va_G) (h0 : Nat) (sz : Nat) : Met l yX1_init (.code yX1_init cX1_init 1 none :: lw_g) rm_1 (cn_P D [(h0, .inr (1, [.int 0, .null, .null]))] h0 sz) (va_Qv (fun _ : Unit => True) (fun _ t => at_1 D (va_A [(h0, .inr (1, [.int 0, .null, .null]))] sz) h0 t) (va_A [(h0, .inr (1, [.int 0, .null, .null]))] sz)) 2 8 (va_A [(h0, .inr (1, [.int 0, .null, .null]))] sz) := by
  refine Met.ofW (cc := cX1_init) (maxL := 1) (ret := none) (by decide) rfl ?_
  intro p e s m args below meth c s₁ B hml hv
  obtain ⟨rfl, hsz, hP, hK, hD0, hnk⟩ := hv
  have hx := B.exec
  have hb := B.bytes
  have hr := B.returns
  have hts0 := atoms_spec (ws := .code yX1_init cX1_init 1 none :: lw_g) B.pre
  have hts : ∀ w ∈ lw_g, w.before _ s = true := fun w hw => hts0 w (List.mem_cons_of_mem _ hw)
  have hown : s.vm.findClass RX1 = some m.cls := findClass_of_methodNamed B.named
  have hlocks := B.notSynchronized
  have hin : meth.name = "<init>" := (name_of_methodNamed B.named B.method).1
  subst hsz
  have hD := hD0.self (sz := s.heap.size)
  generalize hAe : va_A [(h0, .inr (1, [.int 0, .null, .null]))] s.heap.size = A at hD ⊢
  have hA : ∀ q : Nat, s.heap.size ≤ q → A q := fun q h => by rw [← hAe]; exact Or.inr h
  have hS : va_S A s.heap s.heap [] := va_S.rf
  have hP : va_P D clz [(h0, .inr (1, [.int 0, .null, .null]))] s.heap := hP
  have hl := lv_entry ([.ref h0]) (n := 1) (Nat.le_of_ble_eq_true rfl)
  rw [lg_entry_eq]
  generalize (lg_sl ([.ref h0]) ++ List.replicate (1 - (lg_sl ([.ref h0])).length) Slot.unset).toArray = ls at hl ⊢
  have hl : lv_has ls 1 [(0, .ref h0)] := hl
  refine lv_aload_n hx hb dX1_init_0 rfl (lv_at hl 0 rfl) ?_
  refine W.objInit hx hb hown (hts (.methodLink RX1 3 objectInit) (by decide +kernel)) (hts (.instanceMethod objectInit) (by decide +kernel)) (hts (.code objectInit ⟨#[0xb1]⟩ 1 none) (by decide +kernel)) rfl (by rw [hml]; exact hl.1) rfl dX1_init_1 (Nat.le_of_ble_eq_true rfl) (Nat.le_of_ble_eq_true rfl) ?_
  refine W.eq (g2 := F0 m 4 ls []) rfl ?_
  refine lv_aload_n hx hb dX1_init_4 rfl (lv_at hl 0 rfl) ?_
  refine lv_iconst (v := 4) hx hb dX1_init_5 (by decide) ?_
  refine va_newa (atype := .int) (ty := .int) (n := 4) (N' := 4) (a0 := (4, .inl (fun _ => 0))) hx hb (hts (.arrayClass .int) (by decide +kernel)) rfl hK hP hD hS hA (fun _ => rfl) (by decide) (by decide) (by decide) (Nat.le_of_ble_eq_true rfl) (Nat.le_of_ble_eq_true rfl) dX1_init_6 (fun q1 a2 H hK hP hD hS => ?_)
  have hP : va_P D clz [(h0, .inr (1, [.int 0, .null, .null])), (q1, .inl (a2, 4, .inl (fun _ => 0)))] H := hP
  have hD : va_D A [(h0, .inr (1, [.int 0, .null, .null])), (q1, .inl (a2, 4, .inl (fun _ => 0)))] := hD
  have hK : va_K D clz [(a2, .int)] s := hK
  refine W.widen (k := 1) (n := 4) (by decide) (by decide) ?_
  refine va_putF (D := D) (ci := 1) (v := .ref q1) (ty := .array .int) (C := RX1) (T := TX1) (N := 3) hx hb hts (ab_hin 1 (by decide)) tyX1 tyX1_ok nmX1 hown hK hP hD hS 0 rfl rfl 1 (by decide) (hts (.fieldLink RX1 9 "MoreEven$Bands" "from" "[I") (by decide +kernel)) (fun _ h9 => h9) rfl hin rfl (by decide +kernel) rfl rfl (Nat.le_of_ble_eq_true rfl) dX1_init_8 (fun H locs hP hD hS => ?_)
  have hP : va_P D clz [(h0, .inr (1, [.int 0, .ref q1, .null])), (q1, .inl (a2, 4, .inl (fun _ => 0)))] H := hP
  have hD : va_D A [(h0, .inr (1, [.int 0, .ref q1, .null])), (q1, .inl (a2, 4, .inl (fun _ => 0)))] := hD
  refine lv_aload_n hx hb dX1_init_11 rfl (lv_at hl 0 rfl) ?_
  refine lv_iconst (v := 4) hx hb dX1_init_12 (by decide) ?_
  refine va_newa (atype := .int) (ty := .int) (n := 4) (N' := 4) (a0 := (4, .inl (fun _ => 0))) hx hb (hts (.arrayClass .int) (by decide +kernel)) rfl hK hP hD hS hA (fun _ => rfl) (by decide) (by decide) (by decide) (Nat.le_of_ble_eq_true rfl) (Nat.le_of_ble_eq_true rfl) dX1_init_13 (fun q3 a4 H hK hP hD hS => ?_)
  have hP : va_P D clz [(h0, .inr (1, [.int 0, .ref q1, .null])), (q1, .inl (a2, 4, .inl (fun _ => 0))), (q3, .inl (a4, 4, .inl (fun _ => 0)))] H := hP
  have hD : va_D A [(h0, .inr (1, [.int 0, .ref q1, .null])), (q1, .inl (a2, 4, .inl (fun _ => 0))), (q3, .inl (a4, 4, .inl (fun _ => 0)))] := hD
  have hK : va_K D clz [(a2, .int), (a4, .int)] s := hK
  refine W.widen (k := 2) (n := 8) (by decide) (by decide) ?_
  refine va_putF (D := D) (ci := 1) (v := .ref q3) (ty := .array .int) (C := RX1) (T := TX1) (N := 3) hx hb hts (ab_hin 1 (by decide)) tyX1 tyX1_ok nmX1 hown hK hP hD hS 0 rfl rfl 2 (by decide) (hts (.fieldLink RX1 15 "MoreEven$Bands" "rate" "[I") (by decide +kernel)) (fun _ h9 => h9) rfl hin rfl (by decide +kernel) rfl rfl (Nat.le_of_ble_eq_true rfl) dX1_init_15 (fun H locs hP hD hS => ?_)
  have hP : va_P D clz [(h0, .inr (1, [.int 0, .ref q1, .ref q3])), (q1, .inl (a2, 4, .inl (fun _ => 0))), (q3, .inl (a4, 4, .inl (fun _ => 0)))] H := hP
  have hD : va_D A [(h0, .inr (1, [.int 0, .ref q1, .ref q3])), (q1, .inl (a2, 4, .inl (fun _ => 0))), (q3, .inl (a4, 4, .inl (fun _ => 0)))] := hD
  exact W.vret hx hb hr (fun t ht hW => ⟨⟨(), rfl, trivial, q1, q3, a2, a4, by rw [ht]; exact hP, va_K.moved hW.alike hK, hD⟩, hS.F ht⟩) hS.2.2 dX1_init_18
def at_2 (D : va_G) (A : Nat → Prop) (h0 : Nat) (t : State) : Prop := ∃ (q1 q3 q5 q7 : Nat) (a2 a4 a6 a8 : ClassId), va_P D clz [(h0, .inr (2, [.ref q1, .ref q3, .ref q5, .ref q7])), (q1, .inl (a2, 8, .inl (fun _ => 0))), (q3, .inl (a4, 256, .inl (fun _ => 0))), (q5, .inl (a6, 256, .inl (fun _ => 0))), (q7, .inl (a8, 256, .inl (fun _ => 0)))] t.heap ∧ va_K D clz [(a2, .int), (a4, .int), (a6, .boolean), (a8, .int)] t ∧ va_D A [(h0, .inr (2, [.ref q1, .ref q3, .ref q5, .ref q7])), (q1, .inl (a2, 8, .inl (fun _ => 0))), (q3, .inl (a4, 256, .inl (fun _ => 0))), (q5, .inl (a6, 256, .inl (fun _ => 0))), (q7, .inl (a8, 256, .inl (fun _ => 0)))]
abbrev rm_2 : Room := { frames := 1, cells := 4, slots := 776, locals := 12 }
theorem cn_g2 : GoodIn lw_g (.code yX2_init cX2_init 1 none :: lw_g) := by
  intro w hw
  rcases List.mem_cons.mp hw with rfl | h
  · exact lw_gg _ (by decide +kernel)
  · exact lw_gg _ h
set_option maxHeartbeats 8000000 in
set_option maxRecDepth 100000 in
theorem c2_init (l : Launch) (D : va_G) (h0 : Nat) (sz : Nat) : Met l yX2_init (.code yX2_init cX2_init 1 none :: lw_g) rm_2 (cn_P D [(h0, .inr (2, [.null, .null, .null, .null]))] h0 sz) (va_Qv (fun _ : Unit => True) (fun _ t => at_2 D (va_A [(h0, .inr (2, [.null, .null, .null, .null]))] sz) h0 t) (va_A [(h0, .inr (2, [.null, .null, .null, .null]))] sz)) 4 776 (va_A [(h0, .inr (2, [.null, .null, .null, .null]))] sz) := by
  refine Met.ofW (cc := cX2_init) (maxL := 1) (ret := none) (by decide) rfl ?_
  intro p e s m args below meth c s₁ B hml hv
  obtain ⟨rfl, hsz, hP, hK, hD0, hnk⟩ := hv
  have hx := B.exec
  have hb := B.bytes
  have hr := B.returns
  have hts0 := atoms_spec (ws := .code yX2_init cX2_init 1 none :: lw_g) B.pre
  have hts : ∀ w ∈ lw_g, w.before _ s = true := fun w hw => hts0 w (List.mem_cons_of_mem _ hw)
  have hown : s.vm.findClass RX2 = some m.cls := findClass_of_methodNamed B.named
  have hlocks := B.notSynchronized
  have hin : meth.name = "<init>" := (name_of_methodNamed B.named B.method).1
  subst hsz
  have hD := hD0.self (sz := s.heap.size)
  generalize hAe : va_A [(h0, .inr (2, [.null, .null, .null, .null]))] s.heap.size = A at hD ⊢
  have hA : ∀ q : Nat, s.heap.size ≤ q → A q := fun q h => by rw [← hAe]; exact Or.inr h
  have hS : va_S A s.heap s.heap [] := va_S.rf
  have hP : va_P D clz [(h0, .inr (2, [.null, .null, .null, .null]))] s.heap := hP
  have hl := lv_entry ([.ref h0]) (n := 1) (Nat.le_of_ble_eq_true rfl)
  rw [lg_entry_eq]
  generalize (lg_sl ([.ref h0]) ++ List.replicate (1 - (lg_sl ([.ref h0])).length) Slot.unset).toArray = ls at hl ⊢
  have hl : lv_has ls 1 [(0, .ref h0)] := hl
  refine lv_aload_n hx hb dX2_init_0 rfl (lv_at hl 0 rfl) ?_
  refine W.objInit hx hb hown (hts (.methodLink RX2 3 objectInit) (by decide +kernel)) (hts (.instanceMethod objectInit) (by decide +kernel)) (hts (.code objectInit ⟨#[0xb1]⟩ 1 none) (by decide +kernel)) rfl (by rw [hml]; exact hl.1) rfl dX2_init_1 (Nat.le_of_ble_eq_true rfl) (Nat.le_of_ble_eq_true rfl) ?_
  refine W.eq (g2 := F0 m 4 ls []) rfl ?_
  refine lv_aload_n hx hb dX2_init_4 rfl (lv_at hl 0 rfl) ?_
  refine lv_bipush (v := 8) hx hb dX2_init_5 (by decide) ?_
  refine va_newa (atype := .int) (ty := .int) (n := 8) (N' := 8) (a0 := (8, .inl (fun _ => 0))) hx hb (hts (.arrayClass .int) (by decide +kernel)) rfl hK hP hD hS hA (fun _ => rfl) (by decide) (by decide) (by decide) (Nat.le_of_ble_eq_true rfl) (Nat.le_of_ble_eq_true rfl) dX2_init_7 (fun q1 a2 H hK hP hD hS => ?_)
  have hP : va_P D clz [(h0, .inr (2, [.null, .null, .null, .null])), (q1, .inl (a2, 8, .inl (fun _ => 0)))] H := hP
  have hD : va_D A [(h0, .inr (2, [.null, .null, .null, .null])), (q1, .inl (a2, 8, .inl (fun _ => 0)))] := hD
  have hK : va_K D clz [(a2, .int)] s := hK
  refine W.widen (k := 1) (n := 8) (by decide) (by decide) ?_
  refine va_putF (D := D) (ci := 2) (v := .ref q1) (ty := .array .int) (C := RX2) (T := TX2) (N := 4) hx hb hts (ab_hin 2 (by decide)) tyX2 tyX2_ok nmX2 hown hK hP hD hS 0 rfl rfl 0 (by decide) (hts (.fieldLink RX2 9 "MoreEven$Coins" "due" "[I") (by decide +kernel)) (fun _ h9 => h9) rfl hin rfl (by decide +kernel) rfl rfl (Nat.le_of_ble_eq_true rfl) dX2_init_9 (fun H locs hP hD hS => ?_)
  have hP : va_P D clz [(h0, .inr (2, [.ref q1, .null, .null, .null])), (q1, .inl (a2, 8, .inl (fun _ => 0)))] H := hP
  have hD : va_D A [(h0, .inr (2, [.ref q1, .null, .null, .null])), (q1, .inl (a2, 8, .inl (fun _ => 0)))] := hD
  refine lv_aload_n hx hb dX2_init_12 rfl (lv_at hl 0 rfl) ?_
  refine lv_sipush (v := 256) hx hb dX2_init_13 (by decide) ?_
  refine va_newa (atype := .int) (ty := .int) (n := 256) (N' := 256) (a0 := (256, .inl (fun _ => 0))) hx hb (hts (.arrayClass .int) (by decide +kernel)) rfl hK hP hD hS hA (fun _ => rfl) (by decide) (by decide) (by decide) (Nat.le_of_ble_eq_true rfl) (Nat.le_of_ble_eq_true rfl) dX2_init_16 (fun q3 a4 H hK hP hD hS => ?_)
  have hP : va_P D clz [(h0, .inr (2, [.ref q1, .null, .null, .null])), (q1, .inl (a2, 8, .inl (fun _ => 0))), (q3, .inl (a4, 256, .inl (fun _ => 0)))] H := hP
  have hD : va_D A [(h0, .inr (2, [.ref q1, .null, .null, .null])), (q1, .inl (a2, 8, .inl (fun _ => 0))), (q3, .inl (a4, 256, .inl (fun _ => 0)))] := hD
  have hK : va_K D clz [(a2, .int), (a4, .int)] s := hK
  refine W.widen (k := 2) (n := 264) (by decide) (by decide) ?_
  refine va_putF (D := D) (ci := 2) (v := .ref q3) (ty := .array .int) (C := RX2) (T := TX2) (N := 4) hx hb hts (ab_hin 2 (by decide)) tyX2 tyX2_ok nmX2 hown hK hP hD hS 0 rfl rfl 1 (by decide) (hts (.fieldLink RX2 15 "MoreEven$Coins" "sum" "[I") (by decide +kernel)) (fun _ h9 => h9) rfl hin rfl (by decide +kernel) rfl rfl (Nat.le_of_ble_eq_true rfl) dX2_init_18 (fun H locs hP hD hS => ?_)
  have hP : va_P D clz [(h0, .inr (2, [.ref q1, .ref q3, .null, .null])), (q1, .inl (a2, 8, .inl (fun _ => 0))), (q3, .inl (a4, 256, .inl (fun _ => 0)))] H := hP
  have hD : va_D A [(h0, .inr (2, [.ref q1, .ref q3, .null, .null])), (q1, .inl (a2, 8, .inl (fun _ => 0))), (q3, .inl (a4, 256, .inl (fun _ => 0)))] := hD
  refine lv_aload_n hx hb dX2_init_21 rfl (lv_at hl 0 rfl) ?_
  refine lv_sipush (v := 256) hx hb dX2_init_22 (by decide) ?_
  refine va_newa (atype := .boolean) (ty := .boolean) (n := 256) (N' := 256) (a0 := (256, .inl (fun _ => 0))) hx hb (hts (.arrayClass .boolean) (by decide +kernel)) rfl hK hP hD hS hA (fun _ => rfl) (by decide) (by decide) (by decide) (Nat.le_of_ble_eq_true rfl) (Nat.le_of_ble_eq_true rfl) dX2_init_25 (fun q5 a6 H hK hP hD hS => ?_)
  have hP : va_P D clz [(h0, .inr (2, [.ref q1, .ref q3, .null, .null])), (q1, .inl (a2, 8, .inl (fun _ => 0))), (q3, .inl (a4, 256, .inl (fun _ => 0))), (q5, .inl (a6, 256, .inl (fun _ => 0)))] H := hP
  have hD : va_D A [(h0, .inr (2, [.ref q1, .ref q3, .null, .null])), (q1, .inl (a2, 8, .inl (fun _ => 0))), (q3, .inl (a4, 256, .inl (fun _ => 0))), (q5, .inl (a6, 256, .inl (fun _ => 0)))] := hD
  have hK : va_K D clz [(a2, .int), (a4, .int), (a6, .boolean)] s := hK
  refine W.widen (k := 3) (n := 520) (by decide) (by decide) ?_
  refine va_putF (D := D) (ci := 2) (v := .ref q5) (ty := .array .boolean) (C := RX2) (T := TX2) (N := 4) hx hb hts (ab_hin 2 (by decide)) tyX2 tyX2_ok nmX2 hown hK hP hD hS 0 rfl rfl 2 (by decide) (hts (.fieldLink RX2 18 "MoreEven$Coins" "canBe" "[Z") (by decide +kernel)) (fun _ h9 => h9) rfl hin rfl (by decide +kernel) rfl rfl (Nat.le_of_ble_eq_true rfl) dX2_init_27 (fun H locs hP hD hS => ?_)
  have hP : va_P D clz [(h0, .inr (2, [.ref q1, .ref q3, .ref q5, .null])), (q1, .inl (a2, 8, .inl (fun _ => 0))), (q3, .inl (a4, 256, .inl (fun _ => 0))), (q5, .inl (a6, 256, .inl (fun _ => 0)))] H := hP
  have hD : va_D A [(h0, .inr (2, [.ref q1, .ref q3, .ref q5, .null])), (q1, .inl (a2, 8, .inl (fun _ => 0))), (q3, .inl (a4, 256, .inl (fun _ => 0))), (q5, .inl (a6, 256, .inl (fun _ => 0)))] := hD
  refine lv_aload_n hx hb dX2_init_30 rfl (lv_at hl 0 rfl) ?_
  refine lv_sipush (v := 256) hx hb dX2_init_31 (by decide) ?_
  refine va_newa (atype := .int) (ty := .int) (n := 256) (N' := 256) (a0 := (256, .inl (fun _ => 0))) hx hb (hts (.arrayClass .int) (by decide +kernel)) rfl hK hP hD hS hA (fun _ => rfl) (by decide) (by decide) (by decide) (Nat.le_of_ble_eq_true rfl) (Nat.le_of_ble_eq_true rfl) dX2_init_34 (fun q7 a8 H hK hP hD hS => ?_)
  have hP : va_P D clz [(h0, .inr (2, [.ref q1, .ref q3, .ref q5, .null])), (q1, .inl (a2, 8, .inl (fun _ => 0))), (q3, .inl (a4, 256, .inl (fun _ => 0))), (q5, .inl (a6, 256, .inl (fun _ => 0))), (q7, .inl (a8, 256, .inl (fun _ => 0)))] H := hP
  have hD : va_D A [(h0, .inr (2, [.ref q1, .ref q3, .ref q5, .null])), (q1, .inl (a2, 8, .inl (fun _ => 0))), (q3, .inl (a4, 256, .inl (fun _ => 0))), (q5, .inl (a6, 256, .inl (fun _ => 0))), (q7, .inl (a8, 256, .inl (fun _ => 0)))] := hD
  have hK : va_K D clz [(a2, .int), (a4, .int), (a6, .boolean), (a8, .int)] s := hK
  refine W.widen (k := 4) (n := 776) (by decide) (by decide) ?_
  refine va_putF (D := D) (ci := 2) (v := .ref q7) (ty := .array .int) (C := RX2) (T := TX2) (N := 4) hx hb hts (ab_hin 2 (by decide)) tyX2 tyX2_ok nmX2 hown hK hP hD hS 0 rfl rfl 3 (by decide) (hts (.fieldLink RX2 22 "MoreEven$Coins" "groups" "[I") (by decide +kernel)) (fun _ h9 => h9) rfl hin rfl (by decide +kernel) rfl rfl (Nat.le_of_ble_eq_true rfl) dX2_init_36 (fun H locs hP hD hS => ?_)
  have hP : va_P D clz [(h0, .inr (2, [.ref q1, .ref q3, .ref q5, .ref q7])), (q1, .inl (a2, 8, .inl (fun _ => 0))), (q3, .inl (a4, 256, .inl (fun _ => 0))), (q5, .inl (a6, 256, .inl (fun _ => 0))), (q7, .inl (a8, 256, .inl (fun _ => 0)))] H := hP
  have hD : va_D A [(h0, .inr (2, [.ref q1, .ref q3, .ref q5, .ref q7])), (q1, .inl (a2, 8, .inl (fun _ => 0))), (q3, .inl (a4, 256, .inl (fun _ => 0))), (q5, .inl (a6, 256, .inl (fun _ => 0))), (q7, .inl (a8, 256, .inl (fun _ => 0)))] := hD
  exact W.vret hx hb hr (fun t ht hW => ⟨⟨(), rfl, trivial, q1, q3, q5, q7, a2, a4, a6, a8, by rw [ht]; exact hP, va_K.moved hW.alike hK, hD⟩, hS.F ht⟩) hS.2.2 dX2_init_39
def at_3 (D : va_G) (A : Nat → Prop) (h0 : Nat) (t : State) : Prop := ∃ (q1 q3 : Nat) (a2 a4 : ClassId), va_P D clz [(h0, .inr (3, [.int 0, .long 0, .long 0, .int 0, .long 0, .long 0, .ref q1, .ref q3])), (q1, .inl (a2, 8, .inr (.inl (fun _ => 0)))), (q3, .inl (a4, 8, .inr (.inl (fun _ => 0))))] t.heap ∧ va_K D clz [(a2, .long), (a4, .long)] t ∧ va_D A [(h0, .inr (3, [.int 0, .long 0, .long 0, .int 0, .long 0, .long 0, .ref q1, .ref q3])), (q1, .inl (a2, 8, .inr (.inl (fun _ => 0)))), (q3, .inl (a4, 8, .inr (.inl (fun _ => 0))))]
abbrev rm_3 : Room := { frames := 1, cells := 2, slots := 16, locals := 12 }
theorem cn_g3 : GoodIn lw_g (.code yX3_init cX3_init 1 none :: lw_g) := by
  intro w hw
  rcases List.mem_cons.mp hw with rfl | h
  · exact lw_gg _ (by decide +kernel)
  · exact lw_gg _ h
set_option maxHeartbeats 8000000 in
set_option maxRecDepth 100000 in
theorem c3_init (l : Launch) (D : va_G) (h0 : Nat) (sz : Nat) : Met l yX3_init (.code yX3_init cX3_init 1 none :: lw_g) rm_3 (cn_P D [(h0, .inr (3, [.int 0, .long 0, .long 0, .int 0, .long 0, .long 0, .null, .null]))] h0 sz) (va_Qv (fun _ : Unit => True) (fun _ t => at_3 D (va_A [(h0, .inr (3, [.int 0, .long 0, .long 0, .int 0, .long 0, .long 0, .null, .null]))] sz) h0 t) (va_A [(h0, .inr (3, [.int 0, .long 0, .long 0, .int 0, .long 0, .long 0, .null, .null]))] sz)) 2 16 (va_A [(h0, .inr (3, [.int 0, .long 0, .long 0, .int 0, .long 0, .long 0, .null, .null]))] sz) := by
  refine Met.ofW (cc := cX3_init) (maxL := 1) (ret := none) (by decide) rfl ?_
  intro p e s m args below meth c s₁ B hml hv
  obtain ⟨rfl, hsz, hP, hK, hD0, hnk⟩ := hv
  have hx := B.exec
  have hb := B.bytes
  have hr := B.returns
  have hts0 := atoms_spec (ws := .code yX3_init cX3_init 1 none :: lw_g) B.pre
  have hts : ∀ w ∈ lw_g, w.before _ s = true := fun w hw => hts0 w (List.mem_cons_of_mem _ hw)
  have hown : s.vm.findClass RX3 = some m.cls := findClass_of_methodNamed B.named
  have hlocks := B.notSynchronized
  have hin : meth.name = "<init>" := (name_of_methodNamed B.named B.method).1
  subst hsz
  have hD := hD0.self (sz := s.heap.size)
  generalize hAe : va_A [(h0, .inr (3, [.int 0, .long 0, .long 0, .int 0, .long 0, .long 0, .null, .null]))] s.heap.size = A at hD ⊢
  have hA : ∀ q : Nat, s.heap.size ≤ q → A q := fun q h => by rw [← hAe]; exact Or.inr h
  have hS : va_S A s.heap s.heap [] := va_S.rf
  have hP : va_P D clz [(h0, .inr (3, [.int 0, .long 0, .long 0, .int 0, .long 0, .long 0, .null, .null]))] s.heap := hP
  have hl := lv_entry ([.ref h0]) (n := 1) (Nat.le_of_ble_eq_true rfl)
  rw [lg_entry_eq]
  generalize (lg_sl ([.ref h0]) ++ List.replicate (1 - (lg_sl ([.ref h0])).length) Slot.unset).toArray = ls at hl ⊢
  have hl : lv_has ls 1 [(0, .ref h0)] := hl
  refine lv_aload_n hx hb dX3_init_0 rfl (lv_at hl 0 rfl) ?_
  refine W.objInit hx hb hown (hts (.methodLink RX3 3 objectInit) (by decide +kernel)) (hts (.instanceMethod objectInit) (by decide +kernel)) (hts (.code objectInit ⟨#[0xb1]⟩ 1 none) (by decide +kernel)) rfl (by rw [hml]; exact hl.1) rfl dX3_init_1 (Nat.le_of_ble_eq_true rfl) (Nat.le_of_ble_eq_true rfl) ?_
  refine W.eq (g2 := F0 m 4 ls []) rfl ?_
  refine lv_aload_n hx hb dX3_init_4 rfl (lv_at hl 0 rfl) ?_
  refine lv_bipush (v := 8) hx hb dX3_init_5 (by decide) ?_
  refine va_newa (atype := .long) (ty := .long) (n := 8) (N' := 8) (a0 := (8, .inr (.inl (fun _ => 0)))) hx hb (hts (.arrayClass .long) (by decide +kernel)) rfl hK hP hD hS hA (fun _ => rfl) (by decide) (by decide) (by decide) (Nat.le_of_ble_eq_true rfl) (Nat.le_of_ble_eq_true rfl) dX3_init_7 (fun q1 a2 H hK hP hD hS => ?_)
  have hP : va_P D clz [(h0, .inr (3, [.int 0, .long 0, .long 0, .int 0, .long 0, .long 0, .null, .null])), (q1, .inl (a2, 8, .inr (.inl (fun _ => 0))))] H := hP
  have hD : va_D A [(h0, .inr (3, [.int 0, .long 0, .long 0, .int 0, .long 0, .long 0, .null, .null])), (q1, .inl (a2, 8, .inr (.inl (fun _ => 0))))] := hD
  have hK : va_K D clz [(a2, .long)] s := hK
  refine W.widen (k := 1) (n := 8) (by decide) (by decide) ?_
  refine va_putF (D := D) (ci := 3) (v := .ref q1) (ty := .array .long) (C := RX3) (T := TX3) (N := 8) hx hb hts (ab_hin 3 (by decide)) tyX3 tyX3_ok nmX3 hown hK hP hD hS 0 rfl rfl 6 (by decide) (hts (.fieldLink RX3 9 "MoreEven$Curve" "weight" "[J") (by decide +kernel)) (fun _ h9 => h9) rfl hin rfl (by decide +kernel) rfl rfl (Nat.le_of_ble_eq_true rfl) dX3_init_9 (fun H locs hP hD hS => ?_)
  have hP : va_P D clz [(h0, .inr (3, [.int 0, .long 0, .long 0, .int 0, .long 0, .long 0, .ref q1, .null])), (q1, .inl (a2, 8, .inr (.inl (fun _ => 0))))] H := hP
  have hD : va_D A [(h0, .inr (3, [.int 0, .long 0, .long 0, .int 0, .long 0, .long 0, .ref q1, .null])), (q1, .inl (a2, 8, .inr (.inl (fun _ => 0))))] := hD
  refine lv_aload_n hx hb dX3_init_12 rfl (lv_at hl 0 rfl) ?_
  refine lv_bipush (v := 8) hx hb dX3_init_13 (by decide) ?_
  refine va_newa (atype := .long) (ty := .long) (n := 8) (N' := 8) (a0 := (8, .inr (.inl (fun _ => 0)))) hx hb (hts (.arrayClass .long) (by decide +kernel)) rfl hK hP hD hS hA (fun _ => rfl) (by decide) (by decide) (by decide) (Nat.le_of_ble_eq_true rfl) (Nat.le_of_ble_eq_true rfl) dX3_init_15 (fun q3 a4 H hK hP hD hS => ?_)
  have hP : va_P D clz [(h0, .inr (3, [.int 0, .long 0, .long 0, .int 0, .long 0, .long 0, .ref q1, .null])), (q1, .inl (a2, 8, .inr (.inl (fun _ => 0)))), (q3, .inl (a4, 8, .inr (.inl (fun _ => 0))))] H := hP
  have hD : va_D A [(h0, .inr (3, [.int 0, .long 0, .long 0, .int 0, .long 0, .long 0, .ref q1, .null])), (q1, .inl (a2, 8, .inr (.inl (fun _ => 0)))), (q3, .inl (a4, 8, .inr (.inl (fun _ => 0))))] := hD
  have hK : va_K D clz [(a2, .long), (a4, .long)] s := hK
  refine W.widen (k := 2) (n := 16) (by decide) (by decide) ?_
  refine va_putF (D := D) (ci := 3) (v := .ref q3) (ty := .array .long) (C := RX3) (T := TX3) (N := 8) hx hb hts (ab_hin 3 (by decide)) tyX3 tyX3_ok nmX3 hown hK hP hD hS 0 rfl rfl 7 (by decide) (hts (.fieldLink RX3 15 "MoreEven$Curve" "each" "[J") (by decide +kernel)) (fun _ h9 => h9) rfl hin rfl (by decide +kernel) rfl rfl (Nat.le_of_ble_eq_true rfl) dX3_init_17 (fun H locs hP hD hS => ?_)
  have hP : va_P D clz [(h0, .inr (3, [.int 0, .long 0, .long 0, .int 0, .long 0, .long 0, .ref q1, .ref q3])), (q1, .inl (a2, 8, .inr (.inl (fun _ => 0)))), (q3, .inl (a4, 8, .inr (.inl (fun _ => 0))))] H := hP
  have hD : va_D A [(h0, .inr (3, [.int 0, .long 0, .long 0, .int 0, .long 0, .long 0, .ref q1, .ref q3])), (q1, .inl (a2, 8, .inr (.inl (fun _ => 0)))), (q3, .inl (a4, 8, .inr (.inl (fun _ => 0))))] := hD
  exact W.vret hx hb hr (fun t ht hW => ⟨⟨(), rfl, trivial, q1, q3, a2, a4, by rw [ht]; exact hP, va_K.moved hW.alike hK, hD⟩, hS.F ht⟩) hS.2.2 dX3_init_20
def at_5 (D : va_G) (A : Nat → Prop) (h0 : Nat) (t : State) : Prop := ∃ (q1 q3 q5 q7 q9 : Nat) (a2 a4 a6 a8 a10 : ClassId), va_P D clz [(h0, .inr (5, [.int 0, .ref q1, .ref q3, .ref q5, .ref q7, .ref q9])), (q1, .inl (a2, 8, .inl (fun _ => 0))), (q3, .inl (a4, 8, .inl (fun _ => 0))), (q5, .inl (a6, 8, .inl (fun _ => 0))), (q7, .inl (a8, 8, .inl (fun _ => 0))), (q9, .inl (a10, 8, .inl (fun _ => 0)))] t.heap ∧ va_K D clz [(a2, .int), (a4, .int), (a6, .int), (a8, .int), (a10, .int)] t ∧ va_D A [(h0, .inr (5, [.int 0, .ref q1, .ref q3, .ref q5, .ref q7, .ref q9])), (q1, .inl (a2, 8, .inl (fun _ => 0))), (q3, .inl (a4, 8, .inl (fun _ => 0))), (q5, .inl (a6, 8, .inl (fun _ => 0))), (q7, .inl (a8, 8, .inl (fun _ => 0))), (q9, .inl (a10, 8, .inl (fun _ => 0)))]
abbrev rm_5 : Room := { frames := 1, cells := 5, slots := 40, locals := 12 }
theorem cn_g5 : GoodIn lw_g (.code yX5_init cX5_init 1 none :: lw_g) := by
  intro w hw
  rcases List.mem_cons.mp hw with rfl | h
  · exact lw_gg _ (by decide +kernel)
  · exact lw_gg _ h
set_option maxHeartbeats 8000000 in
set_option maxRecDepth 100000 in
theorem c5_init (l : Launch) (D : va_G) (h0 : Nat) (sz : Nat) : Met l yX5_init (.code yX5_init cX5_init 1 none :: lw_g) rm_5 (cn_P D [(h0, .inr (5, [.int 0, .null, .null, .null, .null, .null]))] h0 sz) (va_Qv (fun _ : Unit => True) (fun _ t => at_5 D (va_A [(h0, .inr (5, [.int 0, .null, .null, .null, .null, .null]))] sz) h0 t) (va_A [(h0, .inr (5, [.int 0, .null, .null, .null, .null, .null]))] sz)) 5 40 (va_A [(h0, .inr (5, [.int 0, .null, .null, .null, .null, .null]))] sz) := by
  refine Met.ofW (cc := cX5_init) (maxL := 1) (ret := none) (by decide) rfl ?_
  intro p e s m args below meth c s₁ B hml hv
  obtain ⟨rfl, hsz, hP, hK, hD0, hnk⟩ := hv
  have hx := B.exec
  have hb := B.bytes
  have hr := B.returns
  have hts0 := atoms_spec (ws := .code yX5_init cX5_init 1 none :: lw_g) B.pre
  have hts : ∀ w ∈ lw_g, w.before _ s = true := fun w hw => hts0 w (List.mem_cons_of_mem _ hw)
  have hown : s.vm.findClass RX5 = some m.cls := findClass_of_methodNamed B.named
  have hlocks := B.notSynchronized
  have hin : meth.name = "<init>" := (name_of_methodNamed B.named B.method).1
  subst hsz
  have hD := hD0.self (sz := s.heap.size)
  generalize hAe : va_A [(h0, .inr (5, [.int 0, .null, .null, .null, .null, .null]))] s.heap.size = A at hD ⊢
  have hA : ∀ q : Nat, s.heap.size ≤ q → A q := fun q h => by rw [← hAe]; exact Or.inr h
  have hS : va_S A s.heap s.heap [] := va_S.rf
  have hP : va_P D clz [(h0, .inr (5, [.int 0, .null, .null, .null, .null, .null]))] s.heap := hP
  have hl := lv_entry ([.ref h0]) (n := 1) (Nat.le_of_ble_eq_true rfl)
  rw [lg_entry_eq]
  generalize (lg_sl ([.ref h0]) ++ List.replicate (1 - (lg_sl ([.ref h0])).length) Slot.unset).toArray = ls at hl ⊢
  have hl : lv_has ls 1 [(0, .ref h0)] := hl
  refine lv_aload_n hx hb dX5_init_0 rfl (lv_at hl 0 rfl) ?_
  refine W.objInit hx hb hown (hts (.methodLink RX5 3 objectInit) (by decide +kernel)) (hts (.instanceMethod objectInit) (by decide +kernel)) (hts (.code objectInit ⟨#[0xb1]⟩ 1 none) (by decide +kernel)) rfl (by rw [hml]; exact hl.1) rfl dX5_init_1 (Nat.le_of_ble_eq_true rfl) (Nat.le_of_ble_eq_true rfl) ?_
  refine W.eq (g2 := F0 m 4 ls []) rfl ?_
  refine lv_aload_n hx hb dX5_init_4 rfl (lv_at hl 0 rfl) ?_
  refine lv_bipush (v := 8) hx hb dX5_init_5 (by decide) ?_
  refine va_newa (atype := .int) (ty := .int) (n := 8) (N' := 8) (a0 := (8, .inl (fun _ => 0))) hx hb (hts (.arrayClass .int) (by decide +kernel)) rfl hK hP hD hS hA (fun _ => rfl) (by decide) (by decide) (by decide) (Nat.le_of_ble_eq_true rfl) (Nat.le_of_ble_eq_true rfl) dX5_init_7 (fun q1 a2 H hK hP hD hS => ?_)
  have hP : va_P D clz [(h0, .inr (5, [.int 0, .null, .null, .null, .null, .null])), (q1, .inl (a2, 8, .inl (fun _ => 0)))] H := hP
  have hD : va_D A [(h0, .inr (5, [.int 0, .null, .null, .null, .null, .null])), (q1, .inl (a2, 8, .inl (fun _ => 0)))] := hD
  have hK : va_K D clz [(a2, .int)] s := hK
  refine W.widen (k := 1) (n := 8) (by decide) (by decide) ?_
  refine va_putF (D := D) (ci := 5) (v := .ref q1) (ty := .array .int) (C := RX5) (T := TX5) (N := 6) hx hb hts (ab_hin 5 (by decide)) tyX5 tyX5_ok nmX5 hown hK hP hD hS 0 rfl rfl 1 (by decide) (hts (.fieldLink RX5 9 "MoreEven$Town" "low" "[I") (by decide +kernel)) (fun _ h9 => h9) rfl hin rfl (by decide +kernel) rfl rfl (Nat.le_of_ble_eq_true rfl) dX5_init_9 (fun H locs hP hD hS => ?_)
  have hP : va_P D clz [(h0, .inr (5, [.int 0, .ref q1, .null, .null, .null, .null])), (q1, .inl (a2, 8, .inl (fun _ => 0)))] H := hP
  have hD : va_D A [(h0, .inr (5, [.int 0, .ref q1, .null, .null, .null, .null])), (q1, .inl (a2, 8, .inl (fun _ => 0)))] := hD
  refine lv_aload_n hx hb dX5_init_12 rfl (lv_at hl 0 rfl) ?_
  refine lv_bipush (v := 8) hx hb dX5_init_13 (by decide) ?_
  refine va_newa (atype := .int) (ty := .int) (n := 8) (N' := 8) (a0 := (8, .inl (fun _ => 0))) hx hb (hts (.arrayClass .int) (by decide +kernel)) rfl hK hP hD hS hA (fun _ => rfl) (by decide) (by decide) (by decide) (Nat.le_of_ble_eq_true rfl) (Nat.le_of_ble_eq_true rfl) dX5_init_15 (fun q3 a4 H hK hP hD hS => ?_)
  have hP : va_P D clz [(h0, .inr (5, [.int 0, .ref q1, .null, .null, .null, .null])), (q1, .inl (a2, 8, .inl (fun _ => 0))), (q3, .inl (a4, 8, .inl (fun _ => 0)))] H := hP
  have hD : va_D A [(h0, .inr (5, [.int 0, .ref q1, .null, .null, .null, .null])), (q1, .inl (a2, 8, .inl (fun _ => 0))), (q3, .inl (a4, 8, .inl (fun _ => 0)))] := hD
  have hK : va_K D clz [(a2, .int), (a4, .int)] s := hK
  refine W.widen (k := 2) (n := 16) (by decide) (by decide) ?_
  refine va_putF (D := D) (ci := 5) (v := .ref q3) (ty := .array .int) (C := RX5) (T := TX5) (N := 6) hx hb hts (ab_hin 5 (by decide)) tyX5 tyX5_ok nmX5 hown hK hP hD hS 0 rfl rfl 2 (by decide) (hts (.fieldLink RX5 15 "MoreEven$Town" "high" "[I") (by decide +kernel)) (fun _ h9 => h9) rfl hin rfl (by decide +kernel) rfl rfl (Nat.le_of_ble_eq_true rfl) dX5_init_17 (fun H locs hP hD hS => ?_)
  have hP : va_P D clz [(h0, .inr (5, [.int 0, .ref q1, .ref q3, .null, .null, .null])), (q1, .inl (a2, 8, .inl (fun _ => 0))), (q3, .inl (a4, 8, .inl (fun _ => 0)))] H := hP
  have hD : va_D A [(h0, .inr (5, [.int 0, .ref q1, .ref q3, .null, .null, .null])), (q1, .inl (a2, 8, .inl (fun _ => 0))), (q3, .inl (a4, 8, .inl (fun _ => 0)))] := hD
  refine lv_aload_n hx hb dX5_init_20 rfl (lv_at hl 0 rfl) ?_
  refine lv_bipush (v := 8) hx hb dX5_init_21 (by decide) ?_
  refine va_newa (atype := .int) (ty := .int) (n := 8) (N' := 8) (a0 := (8, .inl (fun _ => 0))) hx hb (hts (.arrayClass .int) (by decide +kernel)) rfl hK hP hD hS hA (fun _ => rfl) (by decide) (by decide) (by decide) (Nat.le_of_ble_eq_true rfl) (Nat.le_of_ble_eq_true rfl) dX5_init_23 (fun q5 a6 H hK hP hD hS => ?_)
  have hP : va_P D clz [(h0, .inr (5, [.int 0, .ref q1, .ref q3, .null, .null, .null])), (q1, .inl (a2, 8, .inl (fun _ => 0))), (q3, .inl (a4, 8, .inl (fun _ => 0))), (q5, .inl (a6, 8, .inl (fun _ => 0)))] H := hP
  have hD : va_D A [(h0, .inr (5, [.int 0, .ref q1, .ref q3, .null, .null, .null])), (q1, .inl (a2, 8, .inl (fun _ => 0))), (q3, .inl (a4, 8, .inl (fun _ => 0))), (q5, .inl (a6, 8, .inl (fun _ => 0)))] := hD
  have hK : va_K D clz [(a2, .int), (a4, .int), (a6, .int)] s := hK
  refine W.widen (k := 3) (n := 24) (by decide) (by decide) ?_
  refine va_putF (D := D) (ci := 5) (v := .ref q5) (ty := .array .int) (C := RX5) (T := TX5) (N := 6) hx hb hts (ab_hin 5 (by decide)) tyX5 tyX5_ok nmX5 hown hK hP hD hS 0 rfl rfl 3 (by decide) (hts (.fieldLink RX5 18 "MoreEven$Town" "size" "[I") (by decide +kernel)) (fun _ h9 => h9) rfl hin rfl (by decide +kernel) rfl rfl (Nat.le_of_ble_eq_true rfl) dX5_init_25 (fun H locs hP hD hS => ?_)
  have hP : va_P D clz [(h0, .inr (5, [.int 0, .ref q1, .ref q3, .ref q5, .null, .null])), (q1, .inl (a2, 8, .inl (fun _ => 0))), (q3, .inl (a4, 8, .inl (fun _ => 0))), (q5, .inl (a6, 8, .inl (fun _ => 0)))] H := hP
  have hD : va_D A [(h0, .inr (5, [.int 0, .ref q1, .ref q3, .ref q5, .null, .null])), (q1, .inl (a2, 8, .inl (fun _ => 0))), (q3, .inl (a4, 8, .inl (fun _ => 0))), (q5, .inl (a6, 8, .inl (fun _ => 0)))] := hD
  refine lv_aload_n hx hb dX5_init_28 rfl (lv_at hl 0 rfl) ?_
  refine lv_bipush (v := 8) hx hb dX5_init_29 (by decide) ?_
  refine va_newa (atype := .int) (ty := .int) (n := 8) (N' := 8) (a0 := (8, .inl (fun _ => 0))) hx hb (hts (.arrayClass .int) (by decide +kernel)) rfl hK hP hD hS hA (fun _ => rfl) (by decide) (by decide) (by decide) (Nat.le_of_ble_eq_true rfl) (Nat.le_of_ble_eq_true rfl) dX5_init_31 (fun q7 a8 H hK hP hD hS => ?_)
  have hP : va_P D clz [(h0, .inr (5, [.int 0, .ref q1, .ref q3, .ref q5, .null, .null])), (q1, .inl (a2, 8, .inl (fun _ => 0))), (q3, .inl (a4, 8, .inl (fun _ => 0))), (q5, .inl (a6, 8, .inl (fun _ => 0))), (q7, .inl (a8, 8, .inl (fun _ => 0)))] H := hP
  have hD : va_D A [(h0, .inr (5, [.int 0, .ref q1, .ref q3, .ref q5, .null, .null])), (q1, .inl (a2, 8, .inl (fun _ => 0))), (q3, .inl (a4, 8, .inl (fun _ => 0))), (q5, .inl (a6, 8, .inl (fun _ => 0))), (q7, .inl (a8, 8, .inl (fun _ => 0)))] := hD
  have hK : va_K D clz [(a2, .int), (a4, .int), (a6, .int), (a8, .int)] s := hK
  refine W.widen (k := 4) (n := 32) (by decide) (by decide) ?_
  refine va_putF (D := D) (ci := 5) (v := .ref q7) (ty := .array .int) (C := RX5) (T := TX5) (N := 6) hx hb hts (ab_hin 5 (by decide)) tyX5 tyX5_ok nmX5 hown hK hP hD hS 0 rfl rfl 4 (by decide) (hts (.fieldLink RX5 21 "MoreEven$Town" "part" "[I") (by decide +kernel)) (fun _ h9 => h9) rfl hin rfl (by decide +kernel) rfl rfl (Nat.le_of_ble_eq_true rfl) dX5_init_33 (fun H locs hP hD hS => ?_)
  have hP : va_P D clz [(h0, .inr (5, [.int 0, .ref q1, .ref q3, .ref q5, .ref q7, .null])), (q1, .inl (a2, 8, .inl (fun _ => 0))), (q3, .inl (a4, 8, .inl (fun _ => 0))), (q5, .inl (a6, 8, .inl (fun _ => 0))), (q7, .inl (a8, 8, .inl (fun _ => 0)))] H := hP
  have hD : va_D A [(h0, .inr (5, [.int 0, .ref q1, .ref q3, .ref q5, .ref q7, .null])), (q1, .inl (a2, 8, .inl (fun _ => 0))), (q3, .inl (a4, 8, .inl (fun _ => 0))), (q5, .inl (a6, 8, .inl (fun _ => 0))), (q7, .inl (a8, 8, .inl (fun _ => 0)))] := hD
  refine lv_aload_n hx hb dX5_init_36 rfl (lv_at hl 0 rfl) ?_
  refine lv_bipush (v := 8) hx hb dX5_init_37 (by decide) ?_
  refine va_newa (atype := .int) (ty := .int) (n := 8) (N' := 8) (a0 := (8, .inl (fun _ => 0))) hx hb (hts (.arrayClass .int) (by decide +kernel)) rfl hK hP hD hS hA (fun _ => rfl) (by decide) (by decide) (by decide) (Nat.le_of_ble_eq_true rfl) (Nat.le_of_ble_eq_true rfl) dX5_init_39 (fun q9 a10 H hK hP hD hS => ?_)
  have hP : va_P D clz [(h0, .inr (5, [.int 0, .ref q1, .ref q3, .ref q5, .ref q7, .null])), (q1, .inl (a2, 8, .inl (fun _ => 0))), (q3, .inl (a4, 8, .inl (fun _ => 0))), (q5, .inl (a6, 8, .inl (fun _ => 0))), (q7, .inl (a8, 8, .inl (fun _ => 0))), (q9, .inl (a10, 8, .inl (fun _ => 0)))] H := hP
  have hD : va_D A [(h0, .inr (5, [.int 0, .ref q1, .ref q3, .ref q5, .ref q7, .null])), (q1, .inl (a2, 8, .inl (fun _ => 0))), (q3, .inl (a4, 8, .inl (fun _ => 0))), (q5, .inl (a6, 8, .inl (fun _ => 0))), (q7, .inl (a8, 8, .inl (fun _ => 0))), (q9, .inl (a10, 8, .inl (fun _ => 0)))] := hD
  have hK : va_K D clz [(a2, .int), (a4, .int), (a6, .int), (a8, .int), (a10, .int)] s := hK
  refine W.widen (k := 5) (n := 40) (by decide) (by decide) ?_
  refine va_putF (D := D) (ci := 5) (v := .ref q9) (ty := .array .int) (C := RX5) (T := TX5) (N := 6) hx hb hts (ab_hin 5 (by decide)) tyX5 tyX5_ok nmX5 hown hK hP hD hS 0 rfl rfl 5 (by decide) (hts (.fieldLink RX5 24 "MoreEven$Town" "filling" "[I") (by decide +kernel)) (fun _ h9 => h9) rfl hin rfl (by decide +kernel) rfl rfl (Nat.le_of_ble_eq_true rfl) dX5_init_41 (fun H locs hP hD hS => ?_)
  have hP : va_P D clz [(h0, .inr (5, [.int 0, .ref q1, .ref q3, .ref q5, .ref q7, .ref q9])), (q1, .inl (a2, 8, .inl (fun _ => 0))), (q3, .inl (a4, 8, .inl (fun _ => 0))), (q5, .inl (a6, 8, .inl (fun _ => 0))), (q7, .inl (a8, 8, .inl (fun _ => 0))), (q9, .inl (a10, 8, .inl (fun _ => 0)))] H := hP
  have hD : va_D A [(h0, .inr (5, [.int 0, .ref q1, .ref q3, .ref q5, .ref q7, .ref q9])), (q1, .inl (a2, 8, .inl (fun _ => 0))), (q3, .inl (a4, 8, .inl (fun _ => 0))), (q5, .inl (a6, 8, .inl (fun _ => 0))), (q7, .inl (a8, 8, .inl (fun _ => 0))), (q9, .inl (a10, 8, .inl (fun _ => 0)))] := hD
  exact W.vret hx hb hr (fun t ht hW => ⟨⟨(), rfl, trivial, q1, q3, q5, q7, q9, a2, a4, a6, a8, a10, by rw [ht]; exact hP, va_K.moved hW.alike hK, hD⟩, hS.F ht⟩) hS.2.2 dX5_init_44
