/-! ===== one instruction, in the abstract ===== -/
def ab_lk {β : Type} (l : List (Nat × β)) (i : Nat) : Option β := match l with
  | [] => none
  | q :: t => if q.1 = i then some q.2 else ab_lk t i
def ab_fl (M : ab_M) (i : Nat) : Option (Nat × Nat) := ab_lk M.1 i
def ab_ml (M : ab_M) (i : Nat) : Option (Nat × Nat × ab_Sp) := ab_lk M.2.1 i
def ab_kl (M : ab_M) (i : Nat) : Option (Int32 ⊕ Int64) := ab_lk M.2.2.1 i
def ab_rk (M : ab_M) : Nat := M.2.2.2.1
def ab_nL (M : ab_M) : Nat := M.2.2.2.2
def ab_i1 (st : List ab_V) (f : Int32 → List ab_V → Prop) : Prop := match st with
  | .inl (.inl x) :: r => f x r
  | _ => False
def ab_i2 (st : List ab_V) (f : Int32 → Int32 → List ab_V → Prop) : Prop := match st with
  | .inl (.inl y) :: .inl (.inl x) :: r => f x y r
  | _ => False
def ab_l1 (st : List ab_V) (f : Int64 → List ab_V → Prop) : Prop := match st with
  | .inl (.inr x) :: r => f x r
  | _ => False
def ab_l2 (st : List ab_V) (f : Int64 → Int64 → List ab_V → Prop) : Prop := match st with
  | .inl (.inr y) :: .inl (.inr x) :: r => f x y r
  | _ => False
def ab_q1 (st : List ab_V) (f : Option ab_Nm → List ab_V → Prop) : Prop := match st with
  | .inr o :: r => f o r
  | _ => False
def ab_r1 (st : List ab_V) (f : Nat → Nat → List ab_V → Prop) : Prop := match st with
  | .inr (some (k, i)) :: r => f k i r
  | _ => False
def ab_at (L : ab_L) (k : Nat) : Option ab_V := match L, k with
  | [], _ => none
  | a :: _, 0 => a
  | _ :: t, k + 1 => ab_at t k
def ab_li (L : ab_L) (k : Nat) (f : Int32 → Prop) : Prop := match ab_at L k with
  | some (.inl (.inl x)) => f x
  | _ => False
def ab_ll (L : ab_L) (k : Nat) (f : Int64 → Prop) : Prop := match ab_at L k with
  | some (.inl (.inr x)) => f x
  | _ => False
def ab_la (L : ab_L) (k : Nat) (f : Option ab_Nm → Prop) : Prop := match ab_at L k with
  | some (.inr o) => f o
  | _ => False
def ab_kil (a : Option ab_V) : Option ab_V := match a with
  | some (.inl (.inr _)) => none
  | some (.inl (.inl x)) => some (.inl (.inl x))
  | some (.inr o) => some (.inr o)
  | none => none
def ab_s1 (L : ab_L) (k : Nat) (v : ab_V) : ab_L := match L, k with
  | [], _ => []
  | _ :: t, 0 => some v :: t
  | a :: t, k + 1 => (if k = 0 then ab_kil a else a) :: ab_s1 t k v
def ab_s2 (L : ab_L) (k : Nat) (v : ab_V) : ab_L := match L, k with
  | [], _ => []
  | _ :: [], 0 => []
  | _ :: _ :: t, 0 => some v :: none :: t
  | a :: t, k + 1 => (if k = 0 then ab_kil a else a) :: ab_s2 t k v
def ab_pop (n : Nat) (st acc : List ab_V) : Option (List ab_V × List ab_V) := match n, st with
  | 0, st => some (acc, st)
  | _ + 1, [] => none
  | n + 1, v :: st => ab_pop n st (v :: acc)
def ab_cc (c : Jvm.ClassFile.Cond) (x y : Int32) : Prop := match c with
  | .eq => x = y
  | .ne => ¬ x = y
  | .lt => x < y
  | .ge => y ≤ x
  | .gt => y < x
  | .le => x ≤ y
def ab_br (c : Prop) (pc : Nat) (off : Int) (K : Nat → Prop) : Prop := 0 ≤ (pc : Int) + off ∧ (c → K ((pc : Int) + off).toNat) ∧ (¬ c → K (pc + 3))
def ab_jp (pc : Nat) (off : Int) (K : Nat → Prop) : Prop := 0 ≤ (pc : Int) + off ∧ K ((pc : Int) + off).toNat
def ab_tsw (os : List Int) (lo x : Int) (F : Int → Prop) : Prop := match os with
  | [] => True
  | o :: t => (x = lo → F o) ∧ ab_tsw t (lo + 1) x F
/-- a field: of which kind -/
def ab_fd (s : ab_Sh) (ci j : Nat) : Option (Bool ⊕ ab_Nm) := match s with
  | .inl (c, fs) => if c = ci then fs[j]? else none
  | .inr _ => none
def ab_isO (s : ab_Sh) (ci : Nat) : Prop := match s with
  | .inl (c, _) => c = ci
  | .inr _ => False
def ab_al (s : ab_Sh) (t : Nat) (i : Int32) : Prop := match s with
  | .inl _ => False
  | .inr (t', n, _) => t' = t ∧ vp_in i n
def ab_ln (s : ab_Sh) : Option Nat := match s with
  | .inl _ => none
  | .inr (t, n, _) => if t < 4 then some n else none
def ab_rf (s : ab_Sh) (j : Nat) : ab_Nm := match s with
  | .inl _ => (0, 0)
  | .inr (_, _, rs) => rs j
def ab_ex (M : ab_M) (X : Option (Nat × (Nat → Int32))) (i : Instr) (len pc : Nat) (L : ab_L) (st : List ab_V) (σ : ab_S) (K : ab_K) (P : ab_P) : Prop := match i with
  | .iconst n => len = 1 ∧ K (pc + 1) L (.inl (.inl (Int32.ofInt n)) :: st) σ
  | .bipush n => len = 2 ∧ K (pc + 2) L (.inl (.inl (Int8.ofInt n).toInt32) :: st) σ
  | .sipush n => len = 3 ∧ K (pc + 3) L (.inl (.inl (Int16.ofInt n).toInt32) :: st) σ
  | .lconst n => len = 1 ∧ K (pc + 1) L (.inl (.inr (Int64.ofNat (n : Nat))) :: st) σ
  | .ldc j => len = 2 ∧ match ab_kl M j with
    | some (.inl v) => K (pc + 2) L (.inl (.inl v) :: st) σ
    | _ => False
  | .ldc_w j => len = 3 ∧ match ab_kl M j with
    | some (.inl v) => K (pc + 3) L (.inl (.inl v) :: st) σ
    | _ => False
  | .ldc2_w j => len = 3 ∧ match ab_kl M j with
    | some (.inr v) => K (pc + 3) L (.inl (.inr v) :: st) σ
    | _ => False
  | .aconst_null => len = 1 ∧ K (pc + 1) L (.inr none :: st) σ
  | .iload_n n => len = 1 ∧ ab_li L (n : Nat) (fun x => K (pc + 1) L (.inl (.inl x) :: st) σ)
  | .iload n => len = 2 ∧ ab_li L n (fun x => K (pc + 2) L (.inl (.inl x) :: st) σ)
  | .lload_n n => len = 1 ∧ ab_ll L (n : Nat) (fun x => K (pc + 1) L (.inl (.inr x) :: st) σ)
  | .lload n => len = 2 ∧ ab_ll L n (fun x => K (pc + 2) L (.inl (.inr x) :: st) σ)
  | .aload_n n => len = 1 ∧ ab_la L (n : Nat) (fun x => K (pc + 1) L (.inr x :: st) σ)
  | .aload n => len = 2 ∧ ab_la L n (fun x => K (pc + 2) L (.inr x :: st) σ)
  | .istore_n n => len = 1 ∧ (n : Nat) < ab_nL M ∧ ab_i1 st (fun x r => K (pc + 1) (ab_s1 L (n : Nat) (.inl (.inl x))) r σ)
  | .istore n => len = 2 ∧ n < ab_nL M ∧ ab_i1 st (fun x r => K (pc + 2) (ab_s1 L n (.inl (.inl x))) r σ)
  | .lstore_n n => len = 1 ∧ (n : Nat) + 1 < ab_nL M ∧ ab_l1 st (fun x r => K (pc + 1) (ab_s2 L (n : Nat) (.inl (.inr x))) r σ)
  | .lstore n => len = 2 ∧ n + 1 < ab_nL M ∧ ab_l1 st (fun x r => K (pc + 2) (ab_s2 L n (.inl (.inr x))) r σ)
  | .astore_n n => len = 1 ∧ (n : Nat) < ab_nL M ∧ ab_q1 st (fun x r => K (pc + 1) (ab_s1 L (n : Nat) (.inr x)) r σ)
  | .astore n => len = 2 ∧ n < ab_nL M ∧ ab_q1 st (fun x r => K (pc + 2) (ab_s1 L n (.inr x)) r σ)
  | .iinc n k => len = 3 ∧ n < ab_nL M ∧ ab_li L n (fun x => K (pc + 3) (ab_s1 L n (.inl (.inl (x + Int32.ofInt k)))) st σ)
  | .iadd => len = 1 ∧ ab_i2 st (fun x y r => K (pc + 1) L (.inl (.inl (x + y)) :: r) σ)
  | .isub => len = 1 ∧ ab_i2 st (fun x y r => K (pc + 1) L (.inl (.inl (x - y)) :: r) σ)
  | .imul => len = 1 ∧ ab_i2 st (fun x y r => K (pc + 1) L (.inl (.inl (x * y)) :: r) σ)
  | .idiv => len = 1 ∧ ab_i2 st (fun x y r => ¬ y = 0 ∧ K (pc + 1) L (.inl (.inl (x / y)) :: r) σ)
  | .irem => len = 1 ∧ ab_i2 st (fun x y r => ¬ y = 0 ∧ K (pc + 1) L (.inl (.inl (x - x / y * y)) :: r) σ)
  | .iand => len = 1 ∧ ab_i2 st (fun x y r => K (pc + 1) L (.inl (.inl (x &&& y)) :: r) σ)
  | .ior => len = 1 ∧ ab_i2 st (fun x y r => K (pc + 1) L (.inl (.inl (x ||| y)) :: r) σ)
  | .ixor => len = 1 ∧ ab_i2 st (fun x y r => K (pc + 1) L (.inl (.inl (x ^^^ y)) :: r) σ)
  | .ishl => len = 1 ∧ ab_i2 st (fun x y r => K (pc + 1) L (.inl (.inl (x <<< (y &&& 31))) :: r) σ)
  | .ishr => len = 1 ∧ ab_i2 st (fun x y r => K (pc + 1) L (.inl (.inl (x >>> (y &&& 31))) :: r) σ)
  | .iushr => len = 1 ∧ ab_i2 st (fun x y r => K (pc + 1) L (.inl (.inl (x.toUInt32 >>> (y.toUInt32 &&& Int32.toUInt32 31)).toInt32) :: r) σ)
  | .ineg => len = 1 ∧ ab_i1 st (fun x r => K (pc + 1) L (.inl (.inl (-x)) :: r) σ)
  | .ladd => len = 1 ∧ ab_l2 st (fun x y r => K (pc + 1) L (.inl (.inr (x + y)) :: r) σ)
  | .lsub => len = 1 ∧ ab_l2 st (fun x y r => K (pc + 1) L (.inl (.inr (x - y)) :: r) σ)
  | .lmul => len = 1 ∧ ab_l2 st (fun x y r => K (pc + 1) L (.inl (.inr (x * y)) :: r) σ)
  | .ldiv => len = 1 ∧ ab_l2 st (fun x y r => ¬ y = 0 ∧ K (pc + 1) L (.inl (.inr (x / y)) :: r) σ)
  | .lrem => len = 1 ∧ ab_l2 st (fun x y r => ¬ y = 0 ∧ K (pc + 1) L (.inl (.inr (x - x / y * y)) :: r) σ)
  | .lneg => len = 1 ∧ ab_l1 st (fun x r => K (pc + 1) L (.inl (.inr (-x)) :: r) σ)
  | .lcmp => len = 1 ∧ ab_l2 st (fun x y r => K (pc + 1) L (.inl (.inl (lg_cmp x y)) :: r) σ)
  | .i2l => len = 1 ∧ ab_i1 st (fun x r => K (pc + 1) L (.inl (.inr x.toInt64) :: r) σ)
  | .l2i => len = 1 ∧ ab_l1 st (fun x r => K (pc + 1) L (.inl (.inl x.toInt32) :: r) σ)
  | .dup => len = 1 ∧ (match st with
    | .inl (.inl x) :: r => K (pc + 1) L (.inl (.inl x) :: .inl (.inl x) :: r) σ
    | .inr x :: r => K (pc + 1) L (.inr x :: .inr x :: r) σ
    | _ => False)
  | .dup2 => len = 1 ∧ (match st with
    | .inl (.inr x) :: r => K (pc + 1) L (.inl (.inr x) :: .inl (.inr x) :: r) σ
    | .inl (.inl y) :: .inl (.inl x) :: r => K (pc + 1) L (.inl (.inl y) :: .inl (.inl x) :: .inl (.inl y) :: .inl (.inl x) :: r) σ
    | .inl (.inl y) :: .inr x :: r => K (pc + 1) L (.inl (.inl y) :: .inr x :: .inl (.inl y) :: .inr x :: r) σ
    | _ => False)
  | .pop => len = 1 ∧ (match st with
    | .inl (.inl _) :: r => K (pc + 1) L r σ
    | _ => False)
  | .pop2 => len = 1 ∧ (match st with
    | .inl (.inr _) :: r => K (pc + 1) L r σ
    | _ => False)
  | .goto off => len = 3 ∧ ab_jp pc off (fun t => K t L st σ)
  | .ifCond c off => len = 3 ∧ ab_i1 st (fun x r => ab_br (ab_cc c x 0) pc off (fun t => K t L r σ))
  | .if_icmp c off => len = 3 ∧ ab_i2 st (fun x y r => ab_br (ab_cc c x y) pc off (fun t => K t L r σ))
  | .ifnull off => len = 3 ∧ ab_q1 st (fun x r => ab_br (x = none) pc off (fun t => K t L r σ))
  | .ifnonnull off => len = 3 ∧ ab_q1 st (fun x r => ab_br (¬ x = none) pc off (fun t => K t L r σ))
  | .tableswitch d lo hi os => hi + 1 = lo + os.toList.length ∧ ab_i1 st (fun x r => ((x.toInt < lo ∨ hi < x.toInt) → ab_jp pc d (fun t => K t L r σ)) ∧ ab_tsw os.toList lo x.toInt (fun o => ab_jp pc o (fun t => K t L r σ)))
  | .getfield j => len = 3 ∧ (match ab_fl M j with
    | some (ci, f) => ab_r1 st (fun k i r => i < ab_ct k ∧ (match ab_fd (ab_sh k i) ci f with
      | some (.inl true) => K (pc + 3) L (.inl (.inl (σ.1 k i f)) :: r) σ
      | some (.inl false) => K (pc + 3) L (.inl (.inr (σ.2 k i f)) :: r) σ
      | some (.inr n) => K (pc + 3) L (.inr (some n) :: r) σ
      | none => False))
    | none => False)
  | .putfield j => len = 3 ∧ (match ab_fl M j with
    | some (ci, f) => (match st with
      | .inl (.inl x) :: .inr (some (k, i)) :: r => i < ab_ct k ∧ ab_fd (ab_sh k i) ci f = some (.inl true) ∧ K (pc + 3) L r (ab_si σ k i f x)
      | .inl (.inr x) :: .inr (some (k, i)) :: r => i < ab_ct k ∧ ab_fd (ab_sh k i) ci f = some (.inl false) ∧ K (pc + 3) L r (ab_sl σ k i f x)
      | _ => False)
    | none => False)
  | .iaload => len = 1 ∧ (match st with
    | .inl (.inl j) :: .inr (some (k, i)) :: r => (match X with
      | none => i < ab_ct k ∧ ab_al (ab_sh k i) 0 j ∧ K (pc + 1) L (.inl (.inl (σ.1 k i j.toNatClampNeg)) :: r) σ
      | some (n, xs) => k = 99 ∧ i = 0 ∧ vp_in j n ∧ K (pc + 1) L (.inl (.inl (xs j.toNatClampNeg)) :: r) σ)
    | _ => False)
  | .laload => len = 1 ∧ (match st with
    | .inl (.inl j) :: .inr (some (k, i)) :: r => i < ab_ct k ∧ ab_al (ab_sh k i) 1 j ∧ K (pc + 1) L (.inl (.inr (σ.2 k i j.toNatClampNeg)) :: r) σ
    | _ => False)
  | .baload => len = 1 ∧ (match st with
    | .inl (.inl j) :: .inr (some (k, i)) :: r => i < ab_ct k ∧ ab_al (ab_sh k i) 2 j ∧ K (pc + 1) L (.inl (.inl (σ.1 k i j.toNatClampNeg)) :: r) σ
    | _ => False)
  | .aaload => len = 1 ∧ (match st with
    | .inl (.inl j) :: .inr (some (k, i)) :: r => i < ab_ct k ∧ ab_al (ab_sh k i) 3 j ∧ K (pc + 1) L (.inr (some (ab_rf (ab_sh k i) j.toNatClampNeg)) :: r) σ
    | _ => False)
  | .iastore => len = 1 ∧ (match st with
    | .inl (.inl x) :: .inl (.inl j) :: .inr (some (k, i)) :: r => i < ab_ct k ∧ ab_al (ab_sh k i) 0 j ∧ K (pc + 1) L r (ab_si σ k i j.toNatClampNeg x)
    | _ => False)
  | .lastore => len = 1 ∧ (match st with
    | .inl (.inr x) :: .inl (.inl j) :: .inr (some (k, i)) :: r => i < ab_ct k ∧ ab_al (ab_sh k i) 1 j ∧ K (pc + 1) L r (ab_sl σ k i j.toNatClampNeg x)
    | _ => False)
  | .bastore => len = 1 ∧ (match st with
    | .inl (.inl x) :: .inl (.inl j) :: .inr (some (k, i)) :: r => i < ab_ct k ∧ ab_al (ab_sh k i) 2 j ∧ K (pc + 1) L r (ab_si σ k i j.toNatClampNeg (vp_nar .boolean x))
    | _ => False)
  | .arraylength => len = 1 ∧ ab_r1 st (fun k i r => match X with
    | none => i < ab_ct k ∧ (match ab_ln (ab_sh k i) with
      | some n => K (pc + 1) L (.inl (.inl (Int32.ofNat n)) :: r) σ
      | none => False)
    | some (n, _) => k = 99 ∧ i = 0 ∧ K (pc + 1) L (.inl (.inl (Int32.ofNat n)) :: r) σ)
  | .invokestatic j => len = 3 ∧ (match ab_ml M j with
    | some (n, 0, sp) => (match ab_pop n st [] with
      | some (as, r) => (r.map ab_cat).sum ≤ 8 ∧ sp as σ (fun v σ' => K (pc + 3) L (v.toList ++ r) σ')
      | none => False)
    | _ => False)
  | .invokevirtual j => len = 3 ∧ (match ab_ml M j with
    | some (n, ci + 1, sp) => (match ab_pop n st [] with
      | some (.inr (some (k, i)) :: as, r) => i < ab_ct k ∧ ab_isO (ab_sh k i) ci ∧ (r.map ab_cat).sum ≤ 8 ∧ sp (.inr (some (k, i)) :: as) σ (fun v σ' => K (pc + 3) L (v.toList ++ r) σ')
      | _ => False)
    | _ => False)
  | .ireturn => len = 1 ∧ (match st with
    | [.inl (.inl x)] => (ab_rk M = 0 ∨ (ab_rk M = 1 ∧ (x = 0 ∨ x = 1))) ∧ P (some (.inl (.inl x))) σ
    | _ => False)
  | .lreturn => len = 1 ∧ (match st with
    | [.inl (.inr x)] => ab_rk M = 2 ∧ P (some (.inl (.inr x))) σ
    | _ => False)
  | .return_ => len = 1 ∧ st = [] ∧ ab_rk M = 3 ∧ P none σ
  | .areturn => len = 1 ∧ (match st with
    | [.inr x] => ab_rk M = 4 ∧ P (some (.inr x)) σ
    | _ => False)
  | _ => False
/-- one step at pc -/
def ab_st (M : ab_M) (cc : ByteArray) (X : Option (Nat × (Nat → Int32))) (pc : Nat) (L : ab_L) (st : List ab_V) (σ : ab_S) (K : ab_K) (P : ab_P) : Prop := match decode cc pc with
  | .ok (i, len) => ab_ex M X i len pc L st σ K P
  | .error _ => False
/-- comes to an end with P: the least one that the steps close -/
def ab_wp (M : ab_M) (cc : ByteArray) (X : Option (Nat × (Nat → Int32))) (P : ab_P) (pc : Nat) (L : ab_L) (st : List ab_V) (σ : ab_S) : Prop := ∀ K : ab_K, (∀ pc L st σ, ab_st M cc X pc L st σ K P → K pc L st σ) → K pc L st σ
def ab_ins (cs : List Nat) (pc : Nat) : Bool := match cs with
  | [] => false
  | c :: t => if c = pc then true else ab_ins t pc
/-- n steps, but not beyond a cut -/
def ab_rn (M : ab_M) (cc : ByteArray) (X : Option (Nat × (Nat → Int32))) (P : ab_P) (cs : List Nat) (K : ab_K) (n : Nat) (pc : Nat) (L : ab_L) (st : List ab_V) (σ : ab_S) : Prop := match n with
  | 0 => K pc L st σ
  | n + 1 => if ab_ins cs pc = true then K pc L st σ else ab_st M cc X pc L st σ (fun pc L st σ => ab_rn M cc X P cs K n pc L st σ) P
def ab_mo (M : ab_M) : Prop := ∀ q ∈ M.2.1, ∀ (as : List ab_V) (σ : ab_S) (P P' : ab_P), (∀ r σ, P r σ → P' r σ) → q.2.2.2 as σ P → q.2.2.2 as σ P'
def ab_loc (n : Nat) (as : List ab_V) : ab_L := match n, as with
  | 0, _ => []
  | n + 1, [] => none :: ab_loc n []
  | n + 1, v :: as => some v :: (if ab_cat v = 2 then (match n with
    | 0 => []
    | n + 1 => none :: ab_loc n as) else ab_loc n as)
def ab_sp (M : ab_M) (cc : ByteArray) : ab_Sp := fun as σ P => (as.map ab_cat).sum ≤ ab_nL M ∧ ab_wp M cc none P 0 (ab_loc (ab_nL M) as) [] σ
theorem ab_lk_mem {β : Type} {l : List (Nat × β)} {i : Nat} {b : β} (h : ab_lk l i = some b) : (i, b) ∈ l := by
  induction l with
  | nil => cases h
  | cons q t ih =>
    unfold ab_lk at h
    by_cases hq : q.1 = i
    · rw [if_pos hq] at h
      cases h
      subst hq
      exact List.mem_cons_self
    · rw [if_neg hq] at h
      exact List.mem_cons_of_mem _ (ih h)
theorem ab_br_mono {c : Prop} {pc : Nat} {off : Int} {K K' : Nat → Prop} (h : ∀ t, K t → K' t) (q : ab_br c pc off K) : ab_br c pc off K' := ⟨q.1, fun a => h _ (q.2.1 a), fun a => h _ (q.2.2 a)⟩
theorem ab_jp_mono {pc : Nat} {off : Int} {K K' : Nat → Prop} (h : ∀ t, K t → K' t) (q : ab_jp pc off K) : ab_jp pc off K' := ⟨q.1, h _ q.2⟩
theorem ab_tsw_mono {F F' : Int → Prop} (h : ∀ t, F t → F' t) : ∀ {os : List Int} {lo x : Int}, ab_tsw os lo x F → ab_tsw os lo x F'
  | [], _, _, _ => trivial
  | o :: t, lo, x, q => ⟨fun e => h _ (q.1 e), ab_tsw_mono h q.2⟩
