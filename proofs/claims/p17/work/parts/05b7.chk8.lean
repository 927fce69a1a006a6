section
variable {T : ck_T} {M : ab_M} {J : ab_S → Prop} {ρ : Nat → Int} {n pc : Nat} {e : ck_E} {A : ck_C} {st : List ck_A} {L : ab_L} {u : List ab_V} {σ : ab_S} {K : Nat → ck_S → Bool} {R : Option ck_A → ck_E → Bool} {K' : ab_K} {P : ab_P}
set_option maxHeartbeats 4000000 in
theorem ck_ex_ok (H : ck_H T M J) {i : Instr} {len : Nat} (h : ck_ex T M i len pc n e A st K R = true) (hm : ck_m ρ (n, e, A, st) L u) (hJ : J σ) (hK : ∀ pc' s' ρ' L' u' σ', K pc' s' = true → ck_x n s'.1 ρ ρ' → ck_m ρ' s' L' u' → J σ' → K' pc' L' u' σ') (hR : ∀ a v, R a e = true → ck_o2 ρ n a v → P v σ) : ab_ex M none i len pc L u σ K' P := by
  have hn := hm.1
  have h0 := hm.2.1
  have he := hm.2.2.1
  have hL := hm.2.2.2.1
  have hu := hm.2.2.2.2
  have hms : ∀ {r : List ck_A} {w : List ab_V}, ck_k ρ n r w → ck_m ρ (n, e, A, r) L w := fun k => ⟨hn, h0, he, hL, k⟩
  have hc0 : ∀ z : Int, ck_q ρ n (0, z) z := fun z => ⟨hn, by show z = ρ 0 + z; omega⟩
  cases i with
  | iconst c =>
    obtain ⟨h, hk⟩ := ck_an h; obtain ⟨hl, h⟩ := ck_an h; obtain ⟨h1, h2⟩ := ck_an h
    have h1 : -2147483648 ≤ c := of_decide_eq_true h1
    have h2 : c ≤ 2147483647 := of_decide_eq_true h2
    exact ⟨eq_of_beq hl, hK _ _ ρ _ _ _ hk ck_x.rf (hm.push ⟨_, rfl, by rw [Int32.toInt_ofInt_of_le (by omega) (by omega)]; exact hc0 c⟩) hJ⟩
  | bipush c =>
    obtain ⟨h, hk⟩ := ck_an h; obtain ⟨hl, h⟩ := ck_an h; obtain ⟨h1, h2⟩ := ck_an h
    have h1 : -128 ≤ c := of_decide_eq_true h1
    have h2 : c ≤ 127 := of_decide_eq_true h2
    exact ⟨eq_of_beq hl, hK _ _ ρ _ _ _ hk ck_x.rf (hm.push ⟨_, rfl, by rw [Int8.toInt_toInt32, Int8.toInt_ofInt_of_le (by omega) (by omega)]; exact hc0 c⟩) hJ⟩
  | sipush c =>
    obtain ⟨h, hk⟩ := ck_an h; obtain ⟨hl, h⟩ := ck_an h; obtain ⟨h1, h2⟩ := ck_an h
    have h1 : -32768 ≤ c := of_decide_eq_true h1
    have h2 : c ≤ 32767 := of_decide_eq_true h2
    exact ⟨eq_of_beq hl, hK _ _ ρ _ _ _ hk ck_x.rf (hm.push ⟨_, rfl, by rw [Int16.toInt_toInt32, Int16.toInt_ofInt_of_le (by omega) (by omega)]; exact hc0 c⟩) hJ⟩
  | lconst c =>
    obtain ⟨h, hk⟩ := ck_an h; obtain ⟨hl, h⟩ := ck_an h
    have h1 : (c : Nat) ≤ 9 := Nat.le_of_ble_eq_true h
    exact ⟨eq_of_beq hl, hK _ _ ρ _ _ _ hk ck_x.rf (hm.push ⟨_, rfl, by rw [Int64.toInt_ofNat_of_lt (by omega)]; exact hc0 _⟩) hJ⟩
  | ldc j =>
    obtain ⟨hl, h⟩ := ck_an h
    refine ⟨eq_of_beq hl, ?_⟩
    revert h
    rcases ab_kl M j with _ | (v | v) <;> intro h <;> first | (cases h; done) | skip
    dsimp only at h
    rw [ck_fI_eq] at h
    exact hK _ _ ρ _ _ _ h ck_x.rf (hm.push ⟨_, rfl, hc0 _⟩) hJ
  | ldc_w j =>
    obtain ⟨hl, h⟩ := ck_an h
    refine ⟨eq_of_beq hl, ?_⟩
    revert h
    rcases ab_kl M j with _ | (v | v) <;> intro h <;> first | (cases h; done) | skip
    dsimp only at h
    rw [ck_fI_eq] at h
    exact hK _ _ ρ _ _ _ h ck_x.rf (hm.push ⟨_, rfl, hc0 _⟩) hJ
  | ldc2_w j =>
    obtain ⟨hl, h⟩ := ck_an h
    refine ⟨eq_of_beq hl, ?_⟩
    revert h
    rcases ab_kl M j with _ | (v | v) <;> intro h <;> first | (cases h; done) | skip
    dsimp only at h
    rw [ck_fI_eq] at h
    exact hK _ _ ρ _ _ _ h ck_x.rf (hm.push ⟨_, rfl, hc0 _⟩) hJ
  | aconst_null =>
    obtain ⟨hl, h⟩ := ck_an h
    exact ⟨eq_of_beq hl, hK _ _ ρ _ _ _ h ck_x.rf (hm.push rfl) hJ⟩
  | iload_n k =>
    obtain ⟨hl, h⟩ := ck_an h
    exact ⟨eq_of_beq hl, ck_li h hL (fun q x h hx => hK _ _ ρ _ _ _ h ck_x.rf (hm.push ⟨x, rfl, hx⟩) hJ)⟩
  | iload k =>
    obtain ⟨hl, h⟩ := ck_an h
    exact ⟨eq_of_beq hl, ck_li h hL (fun q x h hx => hK _ _ ρ _ _ _ h ck_x.rf (hm.push ⟨x, rfl, hx⟩) hJ)⟩
  | lload_n k =>
    obtain ⟨hl, h⟩ := ck_an h
    exact ⟨eq_of_beq hl, ck_ll h hL (fun q x h hx => hK _ _ ρ _ _ _ h ck_x.rf (hm.push ⟨x, rfl, hx⟩) hJ)⟩
  | lload k =>
    obtain ⟨hl, h⟩ := ck_an h
    exact ⟨eq_of_beq hl, ck_ll h hL (fun q x h hx => hK _ _ ρ _ _ _ h ck_x.rf (hm.push ⟨x, rfl, hx⟩) hJ)⟩
  | aload_n k =>
    obtain ⟨hl, h⟩ := ck_an h
    exact ⟨eq_of_beq hl, ck_la h hL (fun q x h hx => hK _ _ ρ _ _ _ h ck_x.rf (hm.push hx) hJ)⟩
  | aload k =>
    obtain ⟨hl, h⟩ := ck_an h
    exact ⟨eq_of_beq hl, ck_la h hL (fun q x h hx => hK _ _ ρ _ _ _ h ck_x.rf (hm.push hx) hJ)⟩
  | istore_n k =>
    obtain ⟨h, hk⟩ := ck_an h; obtain ⟨hl, h⟩ := ck_an h
    obtain ⟨q, r, x, w, hk, rfl, hx, hw⟩ := ck_i1_ok hk hu
    exact ⟨eq_of_beq hl, Nat.le_of_ble_eq_true h, hK _ _ ρ _ _ _ hk ck_x.rf ⟨hn, h0, he, ck_s1_ok (a := .inl (.inl q)) ⟨x, rfl, hx⟩ hL, hw⟩ hJ⟩
  | istore k =>
    obtain ⟨h, hk⟩ := ck_an h; obtain ⟨hl, h⟩ := ck_an h
    obtain ⟨q, r, x, w, hk, rfl, hx, hw⟩ := ck_i1_ok hk hu
    exact ⟨eq_of_beq hl, Nat.le_of_ble_eq_true h, hK _ _ ρ _ _ _ hk ck_x.rf ⟨hn, h0, he, ck_s1_ok (a := .inl (.inl q)) ⟨x, rfl, hx⟩ hL, hw⟩ hJ⟩
  | lstore_n k =>
    obtain ⟨h, hk⟩ := ck_an h; obtain ⟨hl, h⟩ := ck_an h
    obtain ⟨q, r, x, w, hk, rfl, hx, hw⟩ := ck_l1_ok hk hu
    exact ⟨eq_of_beq hl, Nat.le_of_ble_eq_true h, hK _ _ ρ _ _ _ hk ck_x.rf ⟨hn, h0, he, ck_s2_ok (a := .inl (.inr (.inl q))) ⟨x, rfl, hx⟩ hL, hw⟩ hJ⟩
  | lstore k =>
    obtain ⟨h, hk⟩ := ck_an h; obtain ⟨hl, h⟩ := ck_an h
    obtain ⟨q, r, x, w, hk, rfl, hx, hw⟩ := ck_l1_ok hk hu
    exact ⟨eq_of_beq hl, Nat.le_of_ble_eq_true h, hK _ _ ρ _ _ _ hk ck_x.rf ⟨hn, h0, he, ck_s2_ok (a := .inl (.inr (.inl q))) ⟨x, rfl, hx⟩ hL, hw⟩ hJ⟩
  | astore_n k =>
    obtain ⟨h, hk⟩ := ck_an h; obtain ⟨hl, h⟩ := ck_an h
    refine ⟨eq_of_beq hl, Nat.le_of_ble_eq_true h, ?_⟩
    rcases st with _ | ⟨(q | q | q) | o, r⟩ <;> first | (cases hk; done) | skip
    obtain ⟨v, w, rfl, hv, hw⟩ := ck_k_cons hu
    have hs := hK _ _ ρ _ _ σ hk ck_x.rf ⟨hn, h0, he, ck_s1_ok hv hL, hw⟩ hJ
    rcases o with _ | o
    · have hv : v = .inr none := hv
      subst hv
      exact hs
    · obtain ⟨i, rfl, hi⟩ := hv
      exact hs
  | astore k =>
    obtain ⟨h, hk⟩ := ck_an h; obtain ⟨hl, h⟩ := ck_an h
    refine ⟨eq_of_beq hl, Nat.le_of_ble_eq_true h, ?_⟩
    rcases st with _ | ⟨(q | q | q) | o, r⟩ <;> first | (cases hk; done) | skip
    obtain ⟨v, w, rfl, hv, hw⟩ := ck_k_cons hu
    have hs := hK _ _ ρ _ _ σ hk ck_x.rf ⟨hn, h0, he, ck_s1_ok hv hL, hw⟩ hJ
    rcases o with _ | o
    · have hv : v = .inr none := hv
      subst hv
      exact hs
    · obtain ⟨i, rfl, hi⟩ := hv
      exact hs
  | iinc k c =>
    obtain ⟨h, hk⟩ := ck_an h; obtain ⟨h, h12⟩ := ck_an h; obtain ⟨hl, h⟩ := ck_an h; obtain ⟨h1, h2⟩ := ck_an h12
    have h1 : -2147483648 ≤ c := of_decide_eq_true h1
    have h2 : c ≤ 2147483647 := of_decide_eq_true h2
    refine ⟨eq_of_beq hl, Nat.le_of_ble_eq_true h, ?_⟩
    obtain ⟨a, v, hk, hv, hva⟩ := ck_ld_ok hk hL
    rcases a with (q | q | q) | (_ | q) <;> first | (cases hk; done) | skip
    obtain ⟨x, rfl, hx⟩ := hva
    unfold ab_li
    rw [hv]
    have ec : (Int32.ofInt c).toInt = c := Int32.toInt_ofInt_of_le (by omega) (by omega)
    have hc : ck_q ρ n (0, c) (Int32.ofInt c).toInt := by rw [ec]; exact hc0 c
    obtain ⟨r, hk, hr⟩ := ck_add_ok (z := (x + Int32.ofInt c).toInt) hk h0 he hx hc (i32_lo _) (i32_hi _) (fun a b => i32_add a b)
    obtain ⟨s', ρ', k1, k2, k3⟩ := ck_pu_i hk (hms (r := []) (w := []) trivial) hr
    obtain ⟨n', e', A', st'⟩ := s'
    rcases st' with _ | ⟨a', st'⟩
    · cases k1
    · obtain ⟨hv', _⟩ := k3.2.2.2.2
      exact hK _ _ ρ' _ _ σ k1 k2 ⟨k3.1, k3.2.1, k3.2.2.1, ck_s1_ok hv' (hL.up k2), hu.up k2⟩ hJ
  | iadd => obtain ⟨hl, h⟩ := ck_an h; exact ⟨eq_of_beq hl, ck_b2 hm hJ hK h (fun q1 q2 x y f hf hx hy => ck_add_ok hf h0 he hx hy (i32_lo _) (i32_hi _) (fun a b => i32_add a b))⟩
  | isub => obtain ⟨hl, h⟩ := ck_an h; exact ⟨eq_of_beq hl, ck_b2 hm hJ hK h (fun q1 q2 x y f hf hx hy => ck_sub_ok hf h0 he hx hy (i32_lo _) (i32_hi _) (fun a b => i32_sub a b))⟩
  | imul => obtain ⟨hl, h⟩ := ck_an h; exact ⟨eq_of_beq hl, ck_b2 hm hJ hK h (fun q1 q2 x y f hf hx hy => ck_mul_ok hf he hx hy (by decide) (i32_lo _) (i32_hi _) (fun a b => i32_mul a b))⟩
  | idiv => obtain ⟨hl, h⟩ := ck_an h; exact ⟨eq_of_beq hl, ck_b2d (g := fun x y => x / y) hm hJ hK h (fun q1 q2 x y f hf hx hy => ck_div_ok hf he hx hy (by decide) (i32_lo _) (i32_hi _) (fun a b _ => i32_div a b))⟩
  | irem => obtain ⟨hl, h⟩ := ck_an h; exact ⟨eq_of_beq hl, ck_b2d (g := fun x y => x - x / y * y) hm hJ hK h (fun q1 q2 x y f hf hx hy => ck_rem_ok hf he hx hy (i32_lo _) (i32_hi _) (fun a b => i32_rem a b))⟩
  | iand => obtain ⟨hl, h⟩ := ck_an h; exact ⟨eq_of_beq hl, ck_b2 (g := fun x y => x &&& y) hm hJ hK h (fun q1 q2 x y f hf hx hy => ck_and_ok hf he hx hy (i32_lo _) (i32_hi _) (fun a => i32_andl a) (fun a => i32_andr a))⟩
  | ior => obtain ⟨hl, h⟩ := ck_an h; exact ⟨eq_of_beq hl, ck_b2 (OP := fun _ _ => ck_full ck_mn ck_mx) (g := fun x y => x ||| y) hm hJ hK h (fun q1 q2 x y f hf hx hy => ⟨_, hf, i32_lo _, i32_hi _⟩)⟩
  | ixor => obtain ⟨hl, h⟩ := ck_an h; exact ⟨eq_of_beq hl, ck_b2 (OP := fun _ _ => ck_full ck_mn ck_mx) (g := fun x y => x ^^^ y) hm hJ hK h (fun q1 q2 x y f hf hx hy => ⟨_, hf, i32_lo _, i32_hi _⟩)⟩
  | ishr => obtain ⟨hl, h⟩ := ck_an h; exact ⟨eq_of_beq hl, ck_b2 (OP := fun _ _ => ck_full ck_mn ck_mx) (g := fun x y => x >>> (y &&& 31)) hm hJ hK h (fun q1 q2 x y f hf hx hy => ⟨_, hf, i32_lo _, i32_hi _⟩)⟩
  | ishl => obtain ⟨hl, h⟩ := ck_an h; exact ⟨eq_of_beq hl, ck_b2 (g := fun x y => x <<< (y &&& 31)) hm hJ hK h (fun q1 q2 x y f hf hx hy => ck_shl_ok hf h0 he hx hy (i32_lo _) (i32_hi _) (fun a b c => i32_shl a b c))⟩
  | ineg =>
    obtain ⟨hl, h⟩ := ck_an h
    obtain ⟨q, r, x, w, h, rfl, hx, hw⟩ := ck_i1_ok h hu
    obtain ⟨s', ρ', k1, k2, k3⟩ := ck_pu_i (x := -x) (r := .inr (ck_mn, ck_mx)) h (hms hw) ⟨i32_lo _, i32_hi _⟩
    exact ⟨eq_of_beq hl, hK _ s' ρ' _ _ _ k1 k2 k3 hJ⟩
  | ladd => obtain ⟨hl, h⟩ := ck_an h; exact ⟨eq_of_beq hl, ck_bl2 hm hJ hK h (fun q1 q2 x y f hf hx hy => ck_add_ok hf h0 he hx hy (i64_lo _) (i64_hi _) (fun a b => i64_add a b))⟩
  | lsub => obtain ⟨hl, h⟩ := ck_an h; exact ⟨eq_of_beq hl, ck_bl2 hm hJ hK h (fun q1 q2 x y f hf hx hy => ck_sub_ok hf h0 he hx hy (i64_lo _) (i64_hi _) (fun a b => i64_sub a b))⟩
  | lmul => obtain ⟨hl, h⟩ := ck_an h; exact ⟨eq_of_beq hl, ck_bl2 hm hJ hK h (fun q1 q2 x y f hf hx hy => ck_mul_ok hf he hx hy (by decide) (i64_lo _) (i64_hi _) (fun a b => i64_mul a b))⟩
  | ldiv => obtain ⟨hl, h⟩ := ck_an h; exact ⟨eq_of_beq hl, ck_bl2d (g := fun x y => x / y) hm hJ hK h (fun q1 q2 x y f hf hx hy => ck_div_ok hf he hx hy (by decide) (i64_lo _) (i64_hi _) (fun a b _ => i64_div a b))⟩
  | lrem => obtain ⟨hl, h⟩ := ck_an h; exact ⟨eq_of_beq hl, ck_bl2d (g := fun x y => x - x / y * y) hm hJ hK h (fun q1 q2 x y f hf hx hy => ck_rem_ok hf he hx hy (i64_lo _) (i64_hi _) (fun a b => i64_rem a b))⟩
  | lneg =>
    obtain ⟨hl, h⟩ := ck_an h
    obtain ⟨q, r, x, w, h, rfl, hx, hw⟩ := ck_l1_ok h hu
    obtain ⟨s', ρ', k1, k2, k3⟩ := ck_pu_l (x := -x) (r := .inr (ck_ln, ck_lx)) h (hms hw) ⟨i64_lo _, i64_hi _⟩
    exact ⟨eq_of_beq hl, hK _ s' ρ' _ _ _ k1 k2 k3 hJ⟩
  | lcmp =>
    obtain ⟨hl, h⟩ := ck_an h
    obtain ⟨q1, q2, r, x, y, w, h, rfl, hx, hy, hw⟩ := ck_l2_ok h hu
    exact ⟨eq_of_beq hl, hK _ _ ρ _ _ _ h ck_x.rf ((hms hw).push (a := .inl (.inr (.inr (q1, q2)))) ⟨x, y, rfl, hx, hy⟩) hJ⟩
  | i2l =>
    obtain ⟨hl, h⟩ := ck_an h
    obtain ⟨q, r, x, w, h, rfl, hx, hw⟩ := ck_i1_ok h hu
    exact ⟨eq_of_beq hl, hK _ _ ρ _ _ _ h ck_x.rf ((hms hw).push (a := .inl (.inr (.inl q))) ⟨_, rfl, by rw [Int32.toInt_toInt64]; exact hx⟩) hJ⟩
  | l2i =>
    obtain ⟨hl, h⟩ := ck_an h
    refine ⟨eq_of_beq hl, ?_⟩
    obtain ⟨q, r, x, w, h, rfl, hx, hw⟩ := ck_l1_ok h hu
    cases hi : ck_in e (ck_mn, ck_mx, false) q with
    | true =>
      rw [hi] at h
      obtain ⟨b1, b2, _⟩ := ck_in_ok hi he hx
      exact hK _ _ ρ _ _ _ h ck_x.rf ((hms hw).push (a := .inl (.inl q)) ⟨_, rfl, by rw [i64_32 b1 b2]; exact hx⟩) hJ
    | false =>
      rw [hi] at h
      obtain ⟨s', ρ', k1, k2, k3⟩ := ck_pu_i (x := x.toInt32) (r := .inr (ck_mn, ck_mx)) h (hms hw) ⟨i32_lo _, i32_hi _⟩
      exact hK _ s' ρ' _ _ _ k1 k2 k3 hJ
  | dup =>
    obtain ⟨hl, h⟩ := ck_an h
    refine ⟨eq_of_beq hl, ?_⟩
    rcases st with _ | ⟨(q | q | q) | o, r⟩ <;> first | (cases h; done) | skip
    · obtain ⟨v, w, rfl, ⟨x, rfl, hx⟩, hw⟩ := ck_k_cons hu
      exact hK _ _ ρ _ _ _ h ck_x.rf ((hms hw).push (a := .inl (.inl q)) ⟨x, rfl, hx⟩ |>.push (a := .inl (.inl q)) ⟨x, rfl, hx⟩) hJ
    · obtain ⟨v, w, rfl, hv, hw⟩ := ck_k_cons hu
      have hs := hK _ _ ρ _ _ σ h ck_x.rf ((hms hw).push hv |>.push hv) hJ
      rcases o with _ | o
      · have hv : v = .inr none := hv
        subst hv
        exact hs
      · obtain ⟨i, rfl, hi⟩ := hv
        exact hs
  | dup2 =>
    obtain ⟨hl, h⟩ := ck_an h
    refine ⟨eq_of_beq hl, ?_⟩
    rcases st with _ | ⟨(q | q | q) | o, r⟩ <;> first | (cases h; done) | skip
    · rcases r with _ | ⟨(q' | q' | q') | o, r⟩ <;> first | (cases h; done) | skip
      · obtain ⟨v, w, rfl, ⟨y, rfl, hy⟩, hw⟩ := ck_k_cons hu
        obtain ⟨v, w2, rfl, ⟨x, rfl, hx⟩, hw2⟩ := ck_k_cons hw
        exact hK _ _ ρ _ _ _ h ck_x.rf ((hms hw2).push (a := .inl (.inl q')) ⟨x, rfl, hx⟩ |>.push (a := .inl (.inl q)) ⟨y, rfl, hy⟩ |>.push (a := .inl (.inl q')) ⟨x, rfl, hx⟩ |>.push (a := .inl (.inl q)) ⟨y, rfl, hy⟩) hJ
      · obtain ⟨v, w, rfl, ⟨y, rfl, hy⟩, hw⟩ := ck_k_cons hu
        obtain ⟨v, w2, rfl, hv, hw2⟩ := ck_k_cons hw
        have hs := hK _ _ ρ _ _ σ h ck_x.rf ((hms hw2).push hv |>.push (a := .inl (.inl q)) ⟨y, rfl, hy⟩ |>.push hv |>.push (a := .inl (.inl q)) ⟨y, rfl, hy⟩) hJ
        rcases o with _ | o
        · have hv : v = .inr none := hv
          subst hv
          exact hs
        · obtain ⟨i, rfl, hi⟩ := hv
          exact hs
    · obtain ⟨v, w, rfl, ⟨x, rfl, hx⟩, hw⟩ := ck_k_cons hu
      exact hK _ _ ρ _ _ _ h ck_x.rf ((hms hw).push (a := .inl (.inr (.inl q))) ⟨x, rfl, hx⟩ |>.push (a := .inl (.inr (.inl q))) ⟨x, rfl, hx⟩) hJ
  | goto off =>
    obtain ⟨h, hk⟩ := ck_an h; obtain ⟨hl, h⟩ := ck_an h
    exact ⟨eq_of_beq hl, of_decide_eq_true h, hK _ _ ρ _ _ _ hk ck_x.rf hm hJ⟩
  | ifCond c off =>
    obtain ⟨hl, h⟩ := ck_an h
    refine ⟨eq_of_beq hl, ?_⟩
    rcases st with _ | ⟨(q | q | q) | o, r⟩ <;> first | (cases h; done) | skip
    · obtain ⟨v, w, rfl, ⟨x, rfl, hx⟩, hw⟩ := ck_k_cons hu
      exact ck_bra_ok h he hx (hc0 0) ck_cc (fun p e' k ke => hK _ _ ρ _ _ _ k ck_x.rf ⟨hn, h0, ke, hL, hw⟩ hJ)
    · obtain ⟨v, w, rfl, ⟨x, y, rfl, hx, hy⟩, hw⟩ := ck_k_cons hu
      exact ck_bra_ok h he hx hy ck_cl (fun p e' k ke => hK _ _ ρ _ _ _ k ck_x.rf ⟨hn, h0, ke, hL, hw⟩ hJ)
  | if_icmp c off =>
    obtain ⟨hl, h⟩ := ck_an h
    obtain ⟨q1, q2, r, x, y, w, h, rfl, hx, hy, hw⟩ := ck_i2_ok h hu
    exact ⟨eq_of_beq hl, ck_bra_ok h he hx hy ck_cc (fun p e' k ke => hK _ _ ρ _ _ _ k ck_x.rf ⟨hn, h0, ke, hL, hw⟩ hJ)⟩
  | ifnull off =>
    obtain ⟨h9, hk⟩ := ck_an h; obtain ⟨hl, h8⟩ := ck_an h9
    refine ⟨eq_of_beq hl, ?_⟩
    rcases st with _ | ⟨(q | q | q) | (_ | o), r⟩ <;> first | (cases hk; done) | skip
    · obtain ⟨v, w, rfl, hv, hw⟩ := ck_k_cons hu
      have hv : v = .inr none := hv
      subst hv
      exact ⟨of_decide_eq_true h8, fun _ => hK _ _ ρ _ _ _ hk ck_x.rf (hms hw) hJ, fun c => absurd rfl c⟩
    · obtain ⟨v, w, rfl, ⟨i, rfl, hi⟩, hw⟩ := ck_k_cons hu
      exact ⟨of_decide_eq_true h8, (fun c => by cases c), fun _ => hK _ _ ρ _ _ _ hk ck_x.rf (hms hw) hJ⟩
  | ifnonnull off =>
    obtain ⟨h9, hk⟩ := ck_an h; obtain ⟨hl, h8⟩ := ck_an h9
    refine ⟨eq_of_beq hl, ?_⟩
    rcases st with _ | ⟨(q | q | q) | (_ | o), r⟩ <;> first | (cases hk; done) | skip
    · obtain ⟨v, w, rfl, hv, hw⟩ := ck_k_cons hu
      have hv : v = .inr none := hv
      subst hv
      exact ⟨of_decide_eq_true h8, fun c => absurd rfl c, fun _ => hK _ _ ρ _ _ _ hk ck_x.rf (hms hw) hJ⟩
    · obtain ⟨v, w, rfl, ⟨i, rfl, hi⟩, hw⟩ := ck_k_cons hu
      exact ⟨of_decide_eq_true h8, fun _ => hK _ _ ρ _ _ _ hk ck_x.rf (hms hw) hJ, fun c => absurd (fun h => by cases h) c⟩
  | tableswitch d lo hi os =>
    obtain ⟨h, hk⟩ := ck_an h; obtain ⟨h1, h2⟩ := ck_an h
    refine ⟨of_decide_eq_true h1, ?_⟩
    obtain ⟨q, r, x, w, hk, rfl, hx, hw⟩ := ck_i1_ok hk hu
    obtain ⟨k1, k2⟩ := ck_an hk
    exact ⟨fun _ => ⟨of_decide_eq_true h2, hK _ _ ρ _ _ _ k1 ck_x.rf (hms hw) hJ⟩, ck_tsw_ok (KK := fun p e => K p (n, e, A, r)) hn h0 he hx (fun p e' k ke => hK _ (n, e', A, r) ρ _ _ _ k ck_x.rf ⟨hn, h0, ke, hL, hw⟩ hJ) k2⟩
  | getfield j =>
    obtain ⟨hl, h⟩ := ck_an h
    refine ⟨eq_of_beq hl, ?_⟩
    revert h
    rcases ab_fl M j with _ | ⟨ci, f⟩ <;> intro h
    · cases h
    rcases st with _ | ⟨(q | q | q) | (_ | ⟨k, lo, hi⟩), r⟩ <;> first | (cases h; done) | skip
    obtain ⟨v, w, rfl, ⟨i, rfl, hi1, hi2⟩, hw⟩ := ck_k_cons hu
    obtain ⟨hb, h⟩ := ck_an h
    have hb : hi < ab_ct k := Nat.le_of_ble_eq_true hb
    have hi1 : lo ≤ i := hi1
    have hi2 : i ≤ hi := hi2
    refine ⟨by show i < ab_ct k; omega, ?_⟩
    rcases hg : ck_gf k lo hi ci f with _ | ((_ | _) | q) <;> rw [hg] at h
    · cases h
    · have hg := ck_gf_ok hg hi1 hi2
      have hg : ab_fd (ab_sh k i) ci f = some (.inl false) := hg
      rw [hg]
      obtain ⟨s', ρ', k1, k2, k3⟩ := ck_pu_l (x := σ.2 k i f) (r := .inr (ck_ln, ck_lx)) h (hms hw) ⟨i64_lo _, i64_hi _⟩
      exact hK _ s' ρ' _ _ _ k1 k2 k3 hJ
    · have hg := ck_gf_ok hg hi1 hi2
      have hg : ab_fd (ab_sh k i) ci f = some (.inl true) := hg
      rw [hg]
      obtain ⟨s', ρ', k1, k2, k3⟩ := ck_pu_i (x := σ.1 k i f) (r := .inr (T.1 k f)) h (hms hw) (H.1 σ hJ k i f)
      exact hK _ s' ρ' _ _ _ k1 k2 k3 hJ
    · obtain ⟨i', hg, h1, h2⟩ := ck_gf_ok hg hi1 hi2
      rw [hg]
      exact hK _ _ ρ _ _ _ h ck_x.rf ((hms hw).push (a := .inr (some q)) ⟨i', rfl, h1, h2⟩) hJ
  | putfield j =>
    obtain ⟨hl, h⟩ := ck_an h
    refine ⟨eq_of_beq hl, ?_⟩
    revert h
    rcases ab_fl M j with _ | ⟨ci, f⟩ <;> intro h
    · cases h
    rcases st with _ | ⟨(q | q | q) | o, _ | ⟨(q' | q' | q') | (_ | ⟨k, lo, hi⟩), r⟩⟩ <;> first | (cases h; done) | skip
    · obtain ⟨v, w, rfl, ⟨x, rfl, hx⟩, hw1⟩ := ck_k_cons hu
      obtain ⟨v, w, rfl, ⟨i, rfl, hi1, hi2⟩, hw⟩ := ck_k_cons hw1
      obtain ⟨hb, h⟩ := ck_an h
      have hb : hi < ab_ct k := Nat.le_of_ble_eq_true hb
      have hi1 : lo ≤ i := hi1
      have hi2 : i ≤ hi := hi2
      rcases hg : ck_gf k lo hi ci f with _ | ((_ | _) | q) <;> rw [hg] at h <;> first | (cases h; done) | skip
      obtain ⟨h, hk⟩ := ck_an h
      obtain ⟨h1, h2⟩ := ck_an h
      obtain ⟨b1, b2, _⟩ := ck_in_ok h2 he hx
      have hg := ck_gf_ok hg hi1 hi2
      have hg : ab_fd (ab_sh k i) ci f = some (.inl true) := hg
      exact ⟨by show i < ab_ct k; omega, hg, hK _ _ ρ _ _ _ hk ck_x.rf (hms hw) (H.2.1 σ hJ k i f x h1 b1 b2)⟩
    · obtain ⟨v, w, rfl, ⟨x, rfl, hx⟩, hw1⟩ := ck_k_cons hu
      obtain ⟨v, w, rfl, ⟨i, rfl, hi1, hi2⟩, hw⟩ := ck_k_cons hw1
      obtain ⟨hb, h⟩ := ck_an h
      have hb : hi < ab_ct k := Nat.le_of_ble_eq_true hb
      have hi1 : lo ≤ i := hi1
      have hi2 : i ≤ hi := hi2
      rcases hg : ck_gf k lo hi ci f with _ | ((_ | _) | q) <;> rw [hg] at h <;> first | (cases h; done) | skip
      obtain ⟨h1, hk⟩ := ck_an h
      have hg := ck_gf_ok hg hi1 hi2
      have hg : ab_fd (ab_sh k i) ci f = some (.inl false) := hg
      exact ⟨by show i < ab_ct k; omega, hg, hK _ _ ρ _ _ _ hk ck_x.rf (hms hw) (H.2.2.1 σ hJ k i f x h1)⟩
  | iaload =>
    obtain ⟨hl, h⟩ := ck_an h
    refine ⟨eq_of_beq hl, ?_⟩
    rcases st with _ | ⟨(q | q | q) | o, _ | ⟨(q' | q' | q') | (_ | ⟨k, lo, hi⟩), r⟩⟩ <;> first | (cases h; done) | skip
    obtain ⟨v, w, rfl, ⟨x, rfl, hx⟩, hw1⟩ := ck_k_cons hu
    obtain ⟨v, w, rfl, ⟨i, rfl, hi1, hi2⟩, hw⟩ := ck_k_cons hw1
    obtain ⟨hb, h⟩ := ck_an h
    have hb : hi < ab_ct k := Nat.le_of_ble_eq_true hb
    have hi2 : i ≤ hi := hi2
    rcases hg : ck_ar k with _ | ⟨t, m⟩ <;> rw [hg] at h
    · cases h
    obtain ⟨h, hk⟩ := ck_an h
    obtain ⟨ht, hj⟩ := ck_an h
    have ht : t = 0 := eq_of_beq ht
    obtain ⟨rs, hs⟩ := ck_ar_ok i hg
    have hv := ck_vp hj he hx
    have hr := (H.2.2.2.1 k t m x.toNatClampNeg hg).1
    have hb2 := H.1 σ hJ k i x.toNatClampNeg
    rw [hr] at hb2
    obtain ⟨s', ρ', k1, k2, k3⟩ := ck_pu_i (x := σ.1 k i x.toNatClampNeg) (r := .inr (T.1 k 0)) hk (hms hw) hb2
    exact ⟨by show i < ab_ct k; omega, by show ab_al (ab_sh k i) 0 x; rw [hs]; exact ⟨ht, hv⟩, hK _ s' ρ' _ _ _ k1 k2 k3 hJ⟩
  | baload =>
    obtain ⟨hl, h⟩ := ck_an h
    refine ⟨eq_of_beq hl, ?_⟩
    rcases st with _ | ⟨(q | q | q) | o, _ | ⟨(q' | q' | q') | (_ | ⟨k, lo, hi⟩), r⟩⟩ <;> first | (cases h; done) | skip
    obtain ⟨v, w, rfl, ⟨x, rfl, hx⟩, hw1⟩ := ck_k_cons hu
    obtain ⟨v, w, rfl, ⟨i, rfl, hi1, hi2⟩, hw⟩ := ck_k_cons hw1
    obtain ⟨hb, h⟩ := ck_an h
    have hb : hi < ab_ct k := Nat.le_of_ble_eq_true hb
    have hi2 : i ≤ hi := hi2
    rcases hg : ck_ar k with _ | ⟨t, m⟩ <;> rw [hg] at h
    · cases h
    obtain ⟨h, hk⟩ := ck_an h
    obtain ⟨ht, hj⟩ := ck_an h
    have ht : t = 2 := eq_of_beq ht
    obtain ⟨rs, hs⟩ := ck_ar_ok i hg
    have hv := ck_vp hj he hx
    have hr := (H.2.2.2.1 k t m x.toNatClampNeg hg).1
    have hb2 := H.1 σ hJ k i x.toNatClampNeg
    rw [hr] at hb2
    obtain ⟨s', ρ', k1, k2, k3⟩ := ck_pu_i (x := σ.1 k i x.toNatClampNeg) (r := .inr (T.1 k 0)) hk (hms hw) hb2
    exact ⟨by show i < ab_ct k; omega, by show ab_al (ab_sh k i) 2 x; rw [hs]; exact ⟨ht, hv⟩, hK _ s' ρ' _ _ _ k1 k2 k3 hJ⟩
  | laload =>
    obtain ⟨hl, h⟩ := ck_an h
    refine ⟨eq_of_beq hl, ?_⟩
    rcases st with _ | ⟨(q | q | q) | o, _ | ⟨(q' | q' | q') | (_ | ⟨k, lo, hi⟩), r⟩⟩ <;> first | (cases h; done) | skip
    obtain ⟨v, w, rfl, ⟨x, rfl, hx⟩, hw1⟩ := ck_k_cons hu
    obtain ⟨v, w, rfl, ⟨i, rfl, hi1, hi2⟩, hw⟩ := ck_k_cons hw1
    obtain ⟨hb, h⟩ := ck_an h
    have hb : hi < ab_ct k := Nat.le_of_ble_eq_true hb
    have hi2 : i ≤ hi := hi2
    rcases hg : ck_ar k with _ | ⟨t, m⟩ <;> rw [hg] at h
    · cases h
    obtain ⟨h, hk⟩ := ck_an h
    obtain ⟨ht, hj⟩ := ck_an h
    have ht : t = 1 := eq_of_beq ht
    obtain ⟨rs, hs⟩ := ck_ar_ok i hg
    have hv := ck_vp hj he hx
    obtain ⟨s', ρ', k1, k2, k3⟩ := ck_pu_l (x := σ.2 k i x.toNatClampNeg) (r := .inr (ck_ln, ck_lx)) hk (hms hw) ⟨i64_lo _, i64_hi _⟩
    exact ⟨by show i < ab_ct k; omega, by show ab_al (ab_sh k i) 1 x; rw [hs]; exact ⟨ht, hv⟩, hK _ s' ρ' _ _ _ k1 k2 k3 hJ⟩
  | aaload =>
    obtain ⟨hl, h⟩ := ck_an h
    refine ⟨eq_of_beq hl, ?_⟩
    rcases st with _ | ⟨(q | q | q) | o, _ | ⟨(q' | q' | q') | (_ | ⟨k, lo, hi⟩), r⟩⟩ <;> first | (cases h; done) | skip
    obtain ⟨v, w, rfl, ⟨x, rfl, hx⟩, hw1⟩ := ck_k_cons hu
    obtain ⟨v, w, rfl, ⟨i, rfl, hi1, hi2⟩, hw⟩ := ck_k_cons hw1
    obtain ⟨h, hk⟩ := ck_an h
    obtain ⟨h, hj⟩ := ck_an h
    obtain ⟨h, hb⟩ := ck_an h
    have hb : hi < ab_ct k := Nat.le_of_ble_eq_true hb
    have hi2 : i ≤ hi := hi2
    have hk1 : k = 1 := eq_of_beq h
    subst hk1
    have hv : vp_in x 4 := ck_vp (m := 4) hj he hx
    obtain ⟨b1, b2⟩ := vp_in_iff.mp hv
    have hc : x.toNatClampNeg = x.toInt.toNat := rfl
    exact ⟨by show i < ab_ct 1; omega, ⟨rfl, hv⟩, hK _ _ ρ _ _ _ hk ck_x.rf ((hms hw).push (a := .inr (some (20, 0, 3))) ⟨x.toNatClampNeg, rfl, Nat.zero_le _, by show x.toNatClampNeg ≤ 3; omega⟩) hJ⟩
  | iastore =>
    obtain ⟨hl, h⟩ := ck_an h
    refine ⟨eq_of_beq hl, ?_⟩
    rcases st with _ | ⟨(q0 | q0 | q0) | o0, _ | ⟨(q | q | q) | o, _ | ⟨(q' | q' | q') | (_ | ⟨k, lo, hi⟩), r⟩⟩⟩ <;> first | (cases h; done) | skip
    obtain ⟨v, w, rfl, ⟨y, rfl, hy⟩, hw0⟩ := ck_k_cons hu
    obtain ⟨v, w, rfl, ⟨x, rfl, hx⟩, hw1⟩ := ck_k_cons hw0
    obtain ⟨v, w, rfl, ⟨i, rfl, hi1, hi2⟩, hw⟩ := ck_k_cons hw1
    obtain ⟨hb, h⟩ := ck_an h
    have hb : hi < ab_ct k := Nat.le_of_ble_eq_true hb
    have hi2 : i ≤ hi := hi2
    rcases hg : ck_ar k with _ | ⟨t, m⟩ <;> rw [hg] at h
    · cases h
    obtain ⟨h, hk⟩ := ck_an h
    obtain ⟨h, hvx⟩ := ck_an h
    obtain ⟨h, hwr⟩ := ck_an h
    obtain ⟨ht, hj⟩ := ck_an h
    have ht : t = 0 := eq_of_beq ht
    obtain ⟨rs, hs⟩ := ck_ar_ok i hg
    have hv := ck_vp hj he hx
    have hr := H.2.2.2.1 k t m x.toNatClampNeg hg
    obtain ⟨b1, b2, _⟩ := ck_in_ok hvx he hy
    exact ⟨by show i < ab_ct k; omega, by show ab_al (ab_sh k i) 0 x; rw [hs]; exact ⟨ht, hv⟩, hK _ _ ρ _ _ _ hk ck_x.rf (hms hw) (H.2.1 σ hJ k i _ y (by rw [hr.2]; exact hwr) (by rw [hr.1]; exact b1) (by rw [hr.1]; exact b2))⟩
  | bastore =>
    obtain ⟨hl, h⟩ := ck_an h
    refine ⟨eq_of_beq hl, ?_⟩
    rcases st with _ | ⟨(q0 | q0 | q0) | o0, _ | ⟨(q | q | q) | o, _ | ⟨(q' | q' | q') | (_ | ⟨k, lo, hi⟩), r⟩⟩⟩ <;> first | (cases h; done) | skip
    obtain ⟨v, w, rfl, ⟨y, rfl, hy⟩, hw0⟩ := ck_k_cons hu
    obtain ⟨v, w, rfl, ⟨x, rfl, hx⟩, hw1⟩ := ck_k_cons hw0
    obtain ⟨v, w, rfl, ⟨i, rfl, hi1, hi2⟩, hw⟩ := ck_k_cons hw1
    obtain ⟨hb, h⟩ := ck_an h
    have hb : hi < ab_ct k := Nat.le_of_ble_eq_true hb
    have hi2 : i ≤ hi := hi2
    rcases hg : ck_ar k with _ | ⟨t, m⟩ <;> rw [hg] at h
    · cases h
    obtain ⟨h, hk⟩ := ck_an h
    obtain ⟨h, hvx⟩ := ck_an h
    obtain ⟨h, hwr⟩ := ck_an h
    obtain ⟨ht, hj⟩ := ck_an h
    obtain ⟨c1, c2⟩ := ck_an hvx
    have c1 : (T.1 k 0).1 ≤ -2147483648 := of_decide_eq_true c1
    have c2 : 2147483647 ≤ (T.1 k 0).2 := of_decide_eq_true c2
    have ht : t = 2 := eq_of_beq ht
    obtain ⟨rs, hs⟩ := ck_ar_ok i hg
    have hv := ck_vp hj he hx
    have hr := H.2.2.2.1 k t m x.toNatClampNeg hg
    exact ⟨by show i < ab_ct k; omega, by show ab_al (ab_sh k i) 2 x; rw [hs]; exact ⟨ht, hv⟩, hK _ _ ρ _ _ _ hk ck_x.rf (hms hw) (H.2.1 σ hJ k i _ (vp_nar .boolean y) (by rw [hr.2]; exact hwr) (by rw [hr.1]; exact Int.le_trans c1 (i32_lo _)) (by rw [hr.1]; exact Int.le_trans (i32_hi _) c2))⟩
  | lastore =>
    obtain ⟨hl, h⟩ := ck_an h
    refine ⟨eq_of_beq hl, ?_⟩
    rcases st with _ | ⟨(q0 | q0 | q0) | o0, _ | ⟨(q | q | q) | o, _ | ⟨(q' | q' | q') | (_ | ⟨k, lo, hi⟩), r⟩⟩⟩ <;> first | (cases h; done) | skip
    obtain ⟨v, w, rfl, ⟨y, rfl, hy⟩, hw0⟩ := ck_k_cons hu
    obtain ⟨v, w, rfl, ⟨x, rfl, hx⟩, hw1⟩ := ck_k_cons hw0
    obtain ⟨v, w, rfl, ⟨i, rfl, hi1, hi2⟩, hw⟩ := ck_k_cons hw1
    obtain ⟨hb, h⟩ := ck_an h
    have hb : hi < ab_ct k := Nat.le_of_ble_eq_true hb
    have hi2 : i ≤ hi := hi2
    rcases hg : ck_ar k with _ | ⟨t, m⟩ <;> rw [hg] at h
    · cases h
    obtain ⟨h, hk⟩ := ck_an h
    obtain ⟨h, hwr⟩ := ck_an h
    obtain ⟨ht, hj⟩ := ck_an h
    have ht : t = 1 := eq_of_beq ht
    obtain ⟨rs, hs⟩ := ck_ar_ok i hg
    have hv := ck_vp hj he hx
    have hr := H.2.2.2.1 k t m x.toNatClampNeg hg
    exact ⟨by show i < ab_ct k; omega, by show ab_al (ab_sh k i) 1 x; rw [hs]; exact ⟨ht, hv⟩, hK _ _ ρ _ _ _ hk ck_x.rf (hms hw) (H.2.2.1 σ hJ k i _ y (by rw [hr.2]; exact hwr))⟩
  | arraylength =>
    obtain ⟨hl, h⟩ := ck_an h
    refine ⟨eq_of_beq hl, ?_⟩
    rcases st with _ | ⟨(q | q | q) | (_ | ⟨k, lo, hi⟩), r⟩ <;> first | (cases h; done) | skip
    obtain ⟨v, w, rfl, ⟨i, rfl, hi1, hi2⟩, hw⟩ := ck_k_cons hu
    obtain ⟨hb, h⟩ := ck_an h
    have hb : hi < ab_ct k := Nat.le_of_ble_eq_true hb
    have hi2 : i ≤ hi := hi2
    rcases hg : ck_ar k with _ | ⟨t, m⟩ <;> rw [hg] at h
    · cases h
    obtain ⟨h, hk⟩ := ck_an h
    obtain ⟨ht, hmm⟩ := ck_an h
    have ht : t < 4 := Nat.le_of_ble_eq_true ht
    have hmm : m ≤ 100000 := Nat.le_of_ble_eq_true hmm
    obtain ⟨rs, hs⟩ := ck_ar_ok i hg
    refine ⟨by show i < ab_ct k; omega, ?_⟩
    have hln : ab_ln (ab_sh k i) = some m := by rw [hs]; exact if_pos ht
    show match ab_ln (ab_sh k i) with
      | some n => K' (pc + 1) L (.inl (.inl (Int32.ofNat n)) :: w) σ
      | none => False
    rw [hln]
    exact hK _ _ ρ _ _ _ hk ck_x.rf ((hms hw).push (a := .inl (.inl (0, (m : Int)))) ⟨_, rfl, by rw [Int32.toInt_ofNat_of_lt (by omega)]; exact hc0 _⟩) hJ
  | invokestatic j =>
    obtain ⟨hl, h⟩ := ck_an h
    refine ⟨eq_of_beq hl, ?_⟩
    have hcc := H.2.2.2.2 j
    revert h hcc
    rcases ab_ml M j with _ | ⟨m, ci, sp⟩ <;> rcases ck_lk T.2.2 j with _ | cs <;> intro h hcc <;> first | (cases h; done) | skip
    · rcases ci with _ | ci <;> cases h
    rcases ci with _ | ci
    · have h : (match ck_pop m st [] with
        | some (as, r) => Nat.ble (r.map ck_cat).sum 8 && ck_call n e A r as cs (K (pc + 3))
        | none => false) = true := h
      rcases hp : ck_pop m st [] with _ | ⟨as, r⟩ <;> rw [hp] at h
      · cases h
      obtain ⟨hc, h⟩ := ck_an h
      obtain ⟨vs, w, hq, ha, hw⟩ := ck_pop_ok hp hu (ac := []) trivial
      show match ab_pop m u [] with
        | some (as, r) => (r.map ab_cat).sum ≤ 8 ∧ sp as σ (fun v σ' => K' (pc + 3) L (v.toList ++ r) σ')
        | none => False
      rw [hq]
      exact ⟨by rw [ck_cat_ok hw]; exact Nat.le_of_ble_eq_true hc, ck_call_ok (hms hw) ha hJ (fun s' ρ' v σ' k1 k2 k3 k4 => hK _ s' ρ' _ _ _ k1 k2 k3 k4) (fun c hc => hcc cs m 0 sp rfl rfl c hc) h⟩
    · cases h
  | invokevirtual j =>
    obtain ⟨hl, h⟩ := ck_an h
    refine ⟨eq_of_beq hl, ?_⟩
    have hcc := H.2.2.2.2 j
    revert h hcc
    rcases ab_ml M j with _ | ⟨m, ci, sp⟩ <;> rcases ck_lk T.2.2 j with _ | cs <;> intro h hcc <;> first | (cases h; done) | skip
    · rcases ci with _ | ci <;> cases h
    rcases ci with _ | ci
    · cases h
    · have h : (match ck_pop m st [] with
        | some (.inr (some (k, lo, hi)) :: as, r) => Nat.blt hi (ab_ct k) && ck_io k ci && Nat.ble (r.map ck_cat).sum 8 && ck_call n e A r (.inr (some (k, lo, hi)) :: as) cs (K (pc + 3))
        | _ => false) = true := h
      rcases hp : ck_pop m st [] with _ | ⟨as, r⟩ <;> rw [hp] at h
      · cases h
      rcases as with _ | ⟨(q | q | q) | (_ | ⟨k, lo, hi⟩), as⟩ <;> first | (cases h; done) | skip
      obtain ⟨h, hk⟩ := ck_an h
      obtain ⟨h, hc⟩ := ck_an h
      obtain ⟨hb, hio⟩ := ck_an h
      have hb : hi < ab_ct k := Nat.le_of_ble_eq_true hb
      obtain ⟨vs, w, hq, ha, hw⟩ := ck_pop_ok hp hu (ac := []) trivial
      obtain ⟨v, vs', rfl, ⟨i, rfl, hi1, hi2⟩, hvs⟩ := ck_k_cons ha
      have hi2 : i ≤ hi := hi2
      show match ab_pop m u [] with
        | some (.inr (some (k, i)) :: as, r) => i < ab_ct k ∧ ab_isO (ab_sh k i) ci ∧ (r.map ab_cat).sum ≤ 8 ∧ sp (.inr (some (k, i)) :: as) σ (fun v σ' => K' (pc + 3) L (v.toList ++ r) σ')
        | _ => False
      rw [hq]
      exact ⟨by show i < ab_ct k; omega, ck_io_ok i hio, by rw [ck_cat_ok hw]; exact Nat.le_of_ble_eq_true hc, ck_call_ok (hms hw) ha hJ (fun s' ρ' v σ' k1 k2 k3 k4 => hK _ s' ρ' _ _ _ k1 k2 k3 k4) (fun c hc => hcc cs m _ sp rfl rfl c hc) hk⟩
  | ireturn =>
    obtain ⟨hl, h⟩ := ck_an h
    refine ⟨eq_of_beq hl, ?_⟩
    rcases st with _ | ⟨(q | q | q) | o, _ | ⟨a, r⟩⟩ <;> first | (cases h; done) | skip
    obtain ⟨v, w, rfl, ⟨x, rfl, hx⟩, hw⟩ := ck_k_cons hu
    have hw := ck_k_nil hw
    subst hw
    obtain ⟨h, hk⟩ := ck_an h
    refine ⟨?_, hR _ _ hk ⟨_, rfl, x, rfl, hx⟩⟩
    rcases (Bool.or_eq_true _ _).mp h with h | h
    · exact Or.inl (eq_of_beq h)
    · obtain ⟨h1, h2⟩ := ck_an h
      obtain ⟨b1, b2, _⟩ := ck_in_ok h2 he hx
      have b1 : 0 ≤ x.toInt := b1
      have b2 : x.toInt ≤ 1 := b2
      refine Or.inr ⟨eq_of_beq h1, ?_⟩
      rcases (show x.toInt = 0 ∨ x.toInt = 1 by omega) with e1 | e1
      · exact Or.inl (Int32.toInt_inj.mp e1)
      · exact Or.inr (Int32.toInt_inj.mp e1)
  | lreturn =>
    obtain ⟨hl, h⟩ := ck_an h
    refine ⟨eq_of_beq hl, ?_⟩
    rcases st with _ | ⟨(q | q | q) | o, _ | ⟨a, r⟩⟩ <;> first | (cases h; done) | skip
    obtain ⟨v, w, rfl, ⟨x, rfl, hx⟩, hw⟩ := ck_k_cons hu
    have hw := ck_k_nil hw
    subst hw
    obtain ⟨h, hk⟩ := ck_an h
    exact ⟨eq_of_beq h, hR _ _ hk ⟨_, rfl, x, rfl, hx⟩⟩
  | return_ =>
    obtain ⟨hl, h⟩ := ck_an h
    rcases st with _ | ⟨a, r⟩
    · obtain ⟨h, hk⟩ := ck_an h
      exact ⟨eq_of_beq hl, ck_k_nil hu, eq_of_beq h, hR _ _ hk rfl⟩
    · cases h
  | areturn =>
    obtain ⟨hl, h⟩ := ck_an h
    refine ⟨eq_of_beq hl, ?_⟩
    rcases st with _ | ⟨(q | q | q) | o, _ | ⟨a, r⟩⟩ <;> first | (cases h; done) | skip
    obtain ⟨v, w, rfl, hv, hw⟩ := ck_k_cons hu
    have hw := ck_k_nil hw
    subst hw
    obtain ⟨h8, hk⟩ := ck_an h
    have hs := hR _ (some v) hk ⟨_, rfl, hv⟩
    rcases o with _ | o
    · have hv : v = .inr none := hv
      subst hv
      exact ⟨eq_of_beq h8, hs⟩
    · obtain ⟨i, rfl, hi⟩ := hv
      exact ⟨eq_of_beq h8, hs⟩
  | _ => exact absurd (show false = true from h) Bool.false_ne_true
end
