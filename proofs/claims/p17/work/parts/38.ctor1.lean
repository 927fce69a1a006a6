def at_6 (D : va_G) (A : Nat → Prop) (h0 : Nat) (t : State) : Prop := ∃ (q1 q2 q3 q6 q7 q8 : Nat) (a4 a5 a9 a10 : ClassId), va_P D clz [(h0, .inr (6, [.ref q1, .ref q6, .long 0, .long 0, .long 0, .int 0])), (q1, .inr (3, [.int 0, .long 0, .long 0, .int 0, .long 0, .long 0, .ref q2, .ref q3])), (q2, .inl (a4, 8, .inr (.inl (fun _ => 0)))), (q3, .inl (a5, 8, .inr (.inl (fun _ => 0)))), (q6, .inr (3, [.int 0, .long 0, .long 0, .int 0, .long 0, .long 0, .ref q7, .ref q8])), (q7, .inl (a9, 8, .inr (.inl (fun _ => 0)))), (q8, .inl (a10, 8, .inr (.inl (fun _ => 0))))] t.heap ∧ va_K D clz [(a4, .long), (a5, .long), (a9, .long), (a10, .long)] t ∧ va_D A [(h0, .inr (6, [.ref q1, .ref q6, .long 0, .long 0, .long 0, .int 0])), (q1, .inr (3, [.int 0, .long 0, .long 0, .int 0, .long 0, .long 0, .ref q2, .ref q3])), (q2, .inl (a4, 8, .inr (.inl (fun _ => 0)))), (q3, .inl (a5, 8, .inr (.inl (fun _ => 0)))), (q6, .inr (3, [.int 0, .long 0, .long 0, .int 0, .long 0, .long 0, .ref q7, .ref q8])), (q7, .inl (a9, 8, .inr (.inl (fun _ => 0)))), (q8, .inl (a10, 8, .inr (.inl (fun _ => 0))))]
abbrev rm_6 : Room := { frames := 2, cells := 6, slots := 48, locals := 32 }
theorem cn_g6 : GoodIn lw_g (.code yX6_init cX6_init 1 none :: lw_g) := by
  intro w hw
  rcases List.mem_cons.mp hw with rfl | h
  · exact lw_gg _ (by decide +kernel)
  · exact lw_gg _ h
set_option maxHeartbeats 8000000 in
set_option maxRecDepth 100000 in
theorem c6_init (l : Launch) (D : va_G) (h0 : Nat) (sz : Nat) : Met l yX6_init (.code yX6_init cX6_init 1 none :: lw_g) rm_6 (cn_P D [(h0, .inr (6, [.null, .null, .long 0, .long 0, .long 0, .int 0]))] h0 sz) (va_Qv (fun _ : Unit => True) (fun _ t => at_6 D (va_A [(h0, .inr (6, [.null, .null, .long 0, .long 0, .long 0, .int 0]))] sz) h0 t) (va_A [(h0, .inr (6, [.null, .null, .long 0, .long 0, .long 0, .int 0]))] sz)) 6 48 (va_A [(h0, .inr (6, [.null, .null, .long 0, .long 0, .long 0, .int 0]))] sz) := by
  refine Met.ofW (cc := cX6_init) (maxL := 1) (ret := none) (by decide) rfl ?_
  intro p e s m args below meth c s₁ B hml hv
  obtain ⟨rfl, hsz, hP, hK, hD0, hnk⟩ := hv
  have hx := B.exec
  have hb := B.bytes
  have hr := B.returns
  have hts0 := atoms_spec (ws := .code yX6_init cX6_init 1 none :: lw_g) B.pre
  have hts : ∀ w ∈ lw_g, w.before _ s = true := fun w hw => hts0 w (List.mem_cons_of_mem _ hw)
  have hown : s.vm.findClass RX6 = some m.cls := findClass_of_methodNamed B.named
  have hlocks := B.notSynchronized
  have hin : meth.name = "<init>" := (name_of_methodNamed B.named B.method).1
  subst hsz
  have hD := hD0.self (sz := s.heap.size)
  generalize hAe : va_A [(h0, .inr (6, [.null, .null, .long 0, .long 0, .long 0, .int 0]))] s.heap.size = A at hD ⊢
  have hA : ∀ q : Nat, s.heap.size ≤ q → A q := fun q h => by rw [← hAe]; exact Or.inr h
  have hS : va_S A s.heap s.heap [] := va_S.rf
  have hP : va_P D clz [(h0, .inr (6, [.null, .null, .long 0, .long 0, .long 0, .int 0]))] s.heap := hP
  have hl := lv_entry ([.ref h0]) (n := 1) (Nat.le_of_ble_eq_true rfl)
  rw [lg_entry_eq]
  generalize (lg_sl ([.ref h0]) ++ List.replicate (1 - (lg_sl ([.ref h0])).length) Slot.unset).toArray = ls at hl ⊢
  have hl : lv_has ls 1 [(0, .ref h0)] := hl
  refine lv_aload_n hx hb dX6_init_0 rfl (lv_at hl 0 rfl) ?_
  refine W.objInit hx hb hown (hts (.methodLink RX6 3 objectInit) (by decide +kernel)) (hts (.instanceMethod objectInit) (by decide +kernel)) (hts (.code objectInit ⟨#[0xb1]⟩ 1 none) (by decide +kernel)) rfl (by rw [hml]; exact hl.1) rfl dX6_init_1 (Nat.le_of_ble_eq_true rfl) (Nat.le_of_ble_eq_true rfl) ?_
  refine W.eq (g2 := F0 m 4 ls []) rfl ?_
  refine lv_aload_n hx hb dX6_init_4 rfl (lv_at hl 0 rfl) ?_
  refine va_new (ci := 3) (fs := [.int 0, .long 0, .long 0, .int 0, .long 0, .long 0, .null, .null]) (C := RX3) (T := TX3) (N := 8) hx hb hts (ab_hin 3 (by decide)) tyX3 tyX3_ok hown (hts (.classLink RX6 9 RX3) (by decide +kernel)) (hts (.instantiable RX3 8) (by decide +kernel)) (hts (.initialized RX3) (by decide +kernel)) hK hP hD hS hA rfl (cn_d3) (Nat.le_of_ble_eq_true rfl) (Nat.le_of_ble_eq_true rfl) dX6_init_5 (fun q1 H hP hD hS => ?_)
  have hP : va_P D clz [(h0, .inr (6, [.null, .null, .long 0, .long 0, .long 0, .int 0])), (q1, .inr (3, [.int 0, .long 0, .long 0, .int 0, .long 0, .long 0, .null, .null]))] H := hP
  have hD : va_D A [(h0, .inr (6, [.null, .null, .long 0, .long 0, .long 0, .int 0])), (q1, .inr (3, [.int 0, .long 0, .long 0, .int 0, .long 0, .long 0, .null, .null]))] := hD
  refine W.widen (k := 1) (n := 8) (by decide) (by decide) ?_
  refine lv_dup hx hb dX6_init_8 rfl ?_
  have hPc := hP.sub (ws' := [(q1, .inr (3, [.int 0, .long 0, .long 0, .int 0, .long 0, .long 0, .null, .null]))]) [1] rfl
  have hDc := hD.sub (ws' := [(q1, .inr (3, [.int 0, .long 0, .long 0, .int 0, .long 0, .long 0, .null, .null]))]) [1] (by decide) rfl
  have hKc := hK.sub (tys' := []) [] rfl
  have hFc := va_free (wc := [(q1, .inr (3, [.int 0, .long 0, .long 0, .int 0, .long 0, .long 0, .null, .null]))]) hD hS hA [1] rfl
  refine va_callv (va_runIN (As := []) (rest := [.ref q1, .ref h0]) ⟨hx, hb, hml, hown, hts⟩ (c3_init l D q1 H.size) ⟨va_cnB 0 hts cn_g3 rfl rfl rfl (hnk.2.2.2.2.2.1) (hts (.initialized RX3) (by decide +kernel)) (by decide +kernel) ⟨Nat.le_of_ble_eq_true rfl, Nat.le_of_ble_eq_true rfl⟩, rfl, hts (.instanceMethod yX3_init) (by decide +kernel)⟩ ⟨cn_blind, fun U hU hW => ⟨rfl, by rw [hU], by rw [hU]; exact hPc, va_K.moved hW.alike hKc, hDc.weaken (fun _ _ _ _ => trivial), cn_nt_warm hW hnk⟩⟩ rfl rfl hl.1 rfl (lv_room (Nat.le_of_ble_eq_true rfl)) dX6_init_9 ⟨Nat.le_of_ble_eq_true rfl, Nat.le_of_ble_eq_true rfl⟩) hS (fun q _ h => hFc q h) hFc (fun u t H1 locs ht hvm hw hB hz1 hk1 hS => ?_)
  obtain ⟨q2, q3, a4, a5, hP1, hK1, hD1⟩ := hB
  rw [ht] at hP1
  have hK1 := va_K.moved hvm.symm hK1
  obtain ⟨hP, hD⟩ := va_join (wr := [(h0, .inr (6, [.null, .null, .long 0, .long 0, .long 0, .int 0]))]) (w1 := [(q1, .inr (3, [.int 0, .long 0, .long 0, .int 0, .long 0, .long 0, .ref q2, .ref q3])), (q2, .inl (a4, 8, .inr (.inl (fun _ => 0)))), (q3, .inl (a5, 8, .inr (.inl (fun _ => 0))))]) hP hD [1] [0] rfl rfl (by decide) (by decide) hk1 hFc hP1 hD1
  have hK := (hK.sub (tys' := []) [] rfl).app hK1
  generalize H1 = H at hP hS ⊢
  have hP : va_P D clz [(h0, .inr (6, [.null, .null, .long 0, .long 0, .long 0, .int 0])), (q1, .inr (3, [.int 0, .long 0, .long 0, .int 0, .long 0, .long 0, .ref q2, .ref q3])), (q2, .inl (a4, 8, .inr (.inl (fun _ => 0)))), (q3, .inl (a5, 8, .inr (.inl (fun _ => 0))))] H := hP
  have hD : va_D A [(h0, .inr (6, [.null, .null, .long 0, .long 0, .long 0, .int 0])), (q1, .inr (3, [.int 0, .long 0, .long 0, .int 0, .long 0, .long 0, .ref q2, .ref q3])), (q2, .inl (a4, 8, .inr (.inl (fun _ => 0)))), (q3, .inl (a5, 8, .inr (.inl (fun _ => 0))))] := hD
  have hK : va_K D clz [(a4, .long), (a5, .long)] s := hK
  refine W.widen (k := 3) (n := 24) (by decide) (by decide) ?_
  refine va_putF (D := D) (ci := 6) (v := .ref q1) (ty := .object "MoreEven$Curve") (C := RX6) (T := TX6) (N := 6) hx hb hts (ab_hin 6 (by decide)) tyX6 tyX6_ok nmX6 hown hK hP hD hS 0 rfl rfl 0 (by decide) (hts (.fieldLink RX6 12 "MoreEven$Walk" "first" "LMoreEven$Curve;") (by decide +kernel)) (fun _ h9 => h9) rfl hin rfl (by decide +kernel) rfl rfl (Nat.le_of_ble_eq_true rfl) dX6_init_12 (fun H locs hP hD hS => ?_)
  have hP : va_P D clz [(h0, .inr (6, [.ref q1, .null, .long 0, .long 0, .long 0, .int 0])), (q1, .inr (3, [.int 0, .long 0, .long 0, .int 0, .long 0, .long 0, .ref q2, .ref q3])), (q2, .inl (a4, 8, .inr (.inl (fun _ => 0)))), (q3, .inl (a5, 8, .inr (.inl (fun _ => 0))))] H := hP
  have hD : va_D A [(h0, .inr (6, [.ref q1, .null, .long 0, .long 0, .long 0, .int 0])), (q1, .inr (3, [.int 0, .long 0, .long 0, .int 0, .long 0, .long 0, .ref q2, .ref q3])), (q2, .inl (a4, 8, .inr (.inl (fun _ => 0)))), (q3, .inl (a5, 8, .inr (.inl (fun _ => 0))))] := hD
  refine lv_aload_n hx hb dX6_init_15 rfl (lv_at hl 0 rfl) ?_
  refine va_new (ci := 3) (fs := [.int 0, .long 0, .long 0, .int 0, .long 0, .long 0, .null, .null]) (C := RX3) (T := TX3) (N := 8) hx hb hts (ab_hin 3 (by decide)) tyX3 tyX3_ok hown (hts (.classLink RX6 9 RX3) (by decide +kernel)) (hts (.instantiable RX3 8) (by decide +kernel)) (hts (.initialized RX3) (by decide +kernel)) hK hP hD hS hA rfl (cn_d3) (Nat.le_of_ble_eq_true rfl) (Nat.le_of_ble_eq_true rfl) dX6_init_16 (fun q6 H hP hD hS => ?_)
  have hP : va_P D clz [(h0, .inr (6, [.ref q1, .null, .long 0, .long 0, .long 0, .int 0])), (q1, .inr (3, [.int 0, .long 0, .long 0, .int 0, .long 0, .long 0, .ref q2, .ref q3])), (q2, .inl (a4, 8, .inr (.inl (fun _ => 0)))), (q3, .inl (a5, 8, .inr (.inl (fun _ => 0)))), (q6, .inr (3, [.int 0, .long 0, .long 0, .int 0, .long 0, .long 0, .null, .null]))] H := hP
  have hD : va_D A [(h0, .inr (6, [.ref q1, .null, .long 0, .long 0, .long 0, .int 0])), (q1, .inr (3, [.int 0, .long 0, .long 0, .int 0, .long 0, .long 0, .ref q2, .ref q3])), (q2, .inl (a4, 8, .inr (.inl (fun _ => 0)))), (q3, .inl (a5, 8, .inr (.inl (fun _ => 0)))), (q6, .inr (3, [.int 0, .long 0, .long 0, .int 0, .long 0, .long 0, .null, .null]))] := hD
  refine W.widen (k := 4) (n := 32) (by decide) (by decide) ?_
  refine lv_dup hx hb dX6_init_19 rfl ?_
  have hPc := hP.sub (ws' := [(q6, .inr (3, [.int 0, .long 0, .long 0, .int 0, .long 0, .long 0, .null, .null]))]) [4] rfl
  have hDc := hD.sub (ws' := [(q6, .inr (3, [.int 0, .long 0, .long 0, .int 0, .long 0, .long 0, .null, .null]))]) [4] (by decide) rfl
  have hKc := hK.sub (tys' := []) [] rfl
  have hFc := va_free (wc := [(q6, .inr (3, [.int 0, .long 0, .long 0, .int 0, .long 0, .long 0, .null, .null]))]) hD hS hA [4] rfl
  refine va_callv (va_runIN (As := []) (rest := [.ref q6, .ref h0]) ⟨hx, hb, hml, hown, hts⟩ (c3_init l D q6 H.size) ⟨va_cnB 0 hts cn_g3 rfl rfl rfl (hnk.2.2.2.2.2.1) (hts (.initialized RX3) (by decide +kernel)) (by decide +kernel) ⟨Nat.le_of_ble_eq_true rfl, Nat.le_of_ble_eq_true rfl⟩, rfl, hts (.instanceMethod yX3_init) (by decide +kernel)⟩ ⟨cn_blind, fun U hU hW => ⟨rfl, by rw [hU], by rw [hU]; exact hPc, va_K.moved hW.alike hKc, hDc.weaken (fun _ _ _ _ => trivial), cn_nt_warm hW hnk⟩⟩ rfl rfl hl.1 rfl (lv_room (Nat.le_of_ble_eq_true rfl)) dX6_init_20 ⟨Nat.le_of_ble_eq_true rfl, Nat.le_of_ble_eq_true rfl⟩) hS (fun q _ h => hFc q h) hFc (fun u t H1 locs ht hvm hw hB hz1 hk1 hS => ?_)
  obtain ⟨q7, q8, a9, a10, hP1, hK1, hD1⟩ := hB
  rw [ht] at hP1
  have hK1 := va_K.moved hvm.symm hK1
  obtain ⟨hP, hD⟩ := va_join (wr := [(h0, .inr (6, [.ref q1, .null, .long 0, .long 0, .long 0, .int 0])), (q1, .inr (3, [.int 0, .long 0, .long 0, .int 0, .long 0, .long 0, .ref q2, .ref q3])), (q2, .inl (a4, 8, .inr (.inl (fun _ => 0)))), (q3, .inl (a5, 8, .inr (.inl (fun _ => 0))))]) (w1 := [(q6, .inr (3, [.int 0, .long 0, .long 0, .int 0, .long 0, .long 0, .ref q7, .ref q8])), (q7, .inl (a9, 8, .inr (.inl (fun _ => 0)))), (q8, .inl (a10, 8, .inr (.inl (fun _ => 0))))]) hP hD [4] [0, 1, 2, 3] rfl rfl (by decide) (by decide) hk1 hFc hP1 hD1
  have hK := (hK.sub (tys' := [(a4, .long), (a5, .long)]) [0, 1] rfl).app hK1
  generalize H1 = H at hP hS ⊢
  have hP : va_P D clz [(h0, .inr (6, [.ref q1, .null, .long 0, .long 0, .long 0, .int 0])), (q1, .inr (3, [.int 0, .long 0, .long 0, .int 0, .long 0, .long 0, .ref q2, .ref q3])), (q2, .inl (a4, 8, .inr (.inl (fun _ => 0)))), (q3, .inl (a5, 8, .inr (.inl (fun _ => 0)))), (q6, .inr (3, [.int 0, .long 0, .long 0, .int 0, .long 0, .long 0, .ref q7, .ref q8])), (q7, .inl (a9, 8, .inr (.inl (fun _ => 0)))), (q8, .inl (a10, 8, .inr (.inl (fun _ => 0))))] H := hP
  have hD : va_D A [(h0, .inr (6, [.ref q1, .null, .long 0, .long 0, .long 0, .int 0])), (q1, .inr (3, [.int 0, .long 0, .long 0, .int 0, .long 0, .long 0, .ref q2, .ref q3])), (q2, .inl (a4, 8, .inr (.inl (fun _ => 0)))), (q3, .inl (a5, 8, .inr (.inl (fun _ => 0)))), (q6, .inr (3, [.int 0, .long 0, .long 0, .int 0, .long 0, .long 0, .ref q7, .ref q8])), (q7, .inl (a9, 8, .inr (.inl (fun _ => 0)))), (q8, .inl (a10, 8, .inr (.inl (fun _ => 0))))] := hD
  have hK : va_K D clz [(a4, .long), (a5, .long), (a9, .long), (a10, .long)] s := hK
  refine W.widen (k := 6) (n := 48) (by decide) (by decide) ?_
  refine va_putF (D := D) (ci := 6) (v := .ref q6) (ty := .object "MoreEven$Curve") (C := RX6) (T := TX6) (N := 6) hx hb hts (ab_hin 6 (by decide)) tyX6 tyX6_ok nmX6 hown hK hP hD hS 0 rfl rfl 1 (by decide) (hts (.fieldLink RX6 18 "MoreEven$Walk" "second" "LMoreEven$Curve;") (by decide +kernel)) (fun _ h9 => h9) rfl hin rfl (by decide +kernel) rfl rfl (Nat.le_of_ble_eq_true rfl) dX6_init_23 (fun H locs hP hD hS => ?_)
  have hP : va_P D clz [(h0, .inr (6, [.ref q1, .ref q6, .long 0, .long 0, .long 0, .int 0])), (q1, .inr (3, [.int 0, .long 0, .long 0, .int 0, .long 0, .long 0, .ref q2, .ref q3])), (q2, .inl (a4, 8, .inr (.inl (fun _ => 0)))), (q3, .inl (a5, 8, .inr (.inl (fun _ => 0)))), (q6, .inr (3, [.int 0, .long 0, .long 0, .int 0, .long 0, .long 0, .ref q7, .ref q8])), (q7, .inl (a9, 8, .inr (.inl (fun _ => 0)))), (q8, .inl (a10, 8, .inr (.inl (fun _ => 0))))] H := hP
  have hD : va_D A [(h0, .inr (6, [.ref q1, .ref q6, .long 0, .long 0, .long 0, .int 0])), (q1, .inr (3, [.int 0, .long 0, .long 0, .int 0, .long 0, .long 0, .ref q2, .ref q3])), (q2, .inl (a4, 8, .inr (.inl (fun _ => 0)))), (q3, .inl (a5, 8, .inr (.inl (fun _ => 0)))), (q6, .inr (3, [.int 0, .long 0, .long 0, .int 0, .long 0, .long 0, .ref q7, .ref q8])), (q7, .inl (a9, 8, .inr (.inl (fun _ => 0)))), (q8, .inl (a10, 8, .inr (.inl (fun _ => 0))))] := hD
  exact W.vret hx hb hr (fun t ht hW => ⟨⟨(), rfl, trivial, q1, q2, q3, q6, q7, q8, a4, a5, a9, a10, by rw [ht]; exact hP, va_K.moved hW.alike hK, hD⟩, hS.F ht⟩) hS.2.2 dX6_init_26
