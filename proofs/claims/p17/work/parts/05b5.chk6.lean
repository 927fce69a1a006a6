def ck_mn : Int := -2147483648
def ck_mx : Int := 2147483647
def ck_ln : Int := -9223372036854775808
def ck_lx : Int := 9223372036854775807
def ck_full (mn mx : Int) (f : ck_R → Bool) : Bool := f (.inr (mn, mx))
def ck_bra (c : Jvm.ClassFile.Cond) (e : ck_E) (q1 q2 : ck_I) (pc : Nat) (off : Int) (K : Nat → ck_E → Bool) : Bool := decide (0 ≤ (pc : Int) + off) && ck_cp c e q1 q2 (fun e => K ((pc : Int) + off).toNat e) (fun e => K (pc + 3) e)
def ck_tsw (os : List Int) (lo : Int) (e : ck_E) (q : ck_I) (pc : Nat) (K : Nat → ck_E → Bool) : Bool := match os with
  | [] => true
  | o :: t => decide (0 ≤ (pc : Int) + o) && ck_le e q (0, lo) 0 (fun e => ck_le e (0, lo) q 0 (fun e => K ((pc : Int) + o).toNat e)) && ck_tsw t (lo + 1) e q pc K
def ck_ld (A : ck_C) (k : Nat) (f : ck_A → Bool) : Bool := match ck_at A k with
  | some a => f a
  | none => false
def ck_aI (a : ck_A) : Bool := match a with
  | .inl (.inl _) => true
  | _ => false
def ck_aL (a : ck_A) : Bool := match a with
  | .inl (.inr (.inl _)) => true
  | _ => false
def ck_aR (a : ck_A) : Bool := match a with
  | .inr _ => true
  | _ => false
/-- one instruction -/
def ck_ex (T : ck_T) (M : ab_M) (i : Instr) (len pc : Nat) (n : Nat) (e : ck_E) (A : ck_C) (st : List ck_A) (K : Nat → ck_S → Bool) (R : Option ck_A → ck_E → Bool) : Bool := match i with
  | .iconst c => len == 1 && (decide (ck_mn ≤ c) && decide (c ≤ ck_mx)) && K (pc + 1) (n, e, A, .inl (.inl (0, c)) :: st)
  | .bipush c => len == 2 && (decide (-128 ≤ c) && decide (c ≤ 127)) && K (pc + 2) (n, e, A, .inl (.inl (0, c)) :: st)
  | .sipush c => len == 3 && (decide (-32768 ≤ c) && decide (c ≤ 32767)) && K (pc + 3) (n, e, A, .inl (.inl (0, c)) :: st)
  | .lconst c => len == 1 && Nat.ble (c : Nat) 9 && K (pc + 1) (n, e, A, .inl (.inr (.inl (0, ((c : Nat) : Int)))) :: st)
  | .ldc j => len == 2 && (match ab_kl M j with
    | some (.inl v) => ck_fI v.toInt (fun z => K (pc + 2) (n, e, A, .inl (.inl (0, z)) :: st))
    | _ => false)
  | .ldc_w j => len == 3 && (match ab_kl M j with
    | some (.inl v) => ck_fI v.toInt (fun z => K (pc + 3) (n, e, A, .inl (.inl (0, z)) :: st))
    | _ => false)
  | .ldc2_w j => len == 3 && (match ab_kl M j with
    | some (.inr v) => ck_fI v.toInt (fun z => K (pc + 3) (n, e, A, .inl (.inr (.inl (0, z))) :: st))
    | _ => false)
  | .aconst_null => len == 1 && K (pc + 1) (n, e, A, .inr none :: st)
  | .iload_n k => len == 1 && ck_ld A (k : Nat) (fun a => ck_aI a && K (pc + 1) (n, e, A, a :: st))
  | .iload k => len == 2 && ck_ld A k (fun a => ck_aI a && K (pc + 2) (n, e, A, a :: st))
  | .lload_n k => len == 1 && ck_ld A (k : Nat) (fun a => ck_aL a && K (pc + 1) (n, e, A, a :: st))
  | .lload k => len == 2 && ck_ld A k (fun a => ck_aL a && K (pc + 2) (n, e, A, a :: st))
  | .aload_n k => len == 1 && ck_ld A (k : Nat) (fun a => ck_aR a && K (pc + 1) (n, e, A, a :: st))
  | .aload k => len == 2 && ck_ld A k (fun a => ck_aR a && K (pc + 2) (n, e, A, a :: st))
  | .istore_n k => len == 1 && Nat.blt (k : Nat) (ab_nL M) && ck_i1 st (fun x r => K (pc + 1) (n, e, ck_s1 A (k : Nat) (.inl (.inl x)), r))
  | .istore k => len == 2 && Nat.blt k (ab_nL M) && ck_i1 st (fun x r => K (pc + 2) (n, e, ck_s1 A k (.inl (.inl x)), r))
  | .lstore_n k => len == 1 && Nat.blt ((k : Nat) + 1) (ab_nL M) && ck_l1 st (fun x r => K (pc + 1) (n, e, ck_s2 A (k : Nat) (.inl (.inr (.inl x))), r))
  | .lstore k => len == 2 && Nat.blt (k + 1) (ab_nL M) && ck_l1 st (fun x r => K (pc + 2) (n, e, ck_s2 A k (.inl (.inr (.inl x))), r))
  | .astore_n k => len == 1 && Nat.blt (k : Nat) (ab_nL M) && (match st with
    | .inr o :: r => K (pc + 1) (n, e, ck_s1 A (k : Nat) (.inr o), r)
    | _ => false)
  | .astore k => len == 2 && Nat.blt k (ab_nL M) && (match st with
    | .inr o :: r => K (pc + 2) (n, e, ck_s1 A k (.inr o), r)
    | _ => false)
  | .iinc k c => len == 3 && Nat.blt k (ab_nL M) && (decide (ck_mn ≤ c) && decide (c ≤ ck_mx)) && ck_ld A k (fun a => (match a with
    | .inl (.inl q) => ck_add e q (0, c) ck_mn ck_mx (fun r => ck_pu r false n e A [] (fun s => (match s with
      | (n', e', _, a' :: _) => K (pc + 3) (n', e', ck_s1 A k a', st)
      | _ => false)))
    | _ => false))
  | .iadd => len == 1 && ck_i2 st (fun x y r => ck_add e x y ck_mn ck_mx (fun w => ck_pu w false n e A r (K (pc + 1))))
  | .isub => len == 1 && ck_i2 st (fun x y r => ck_sub e x y ck_mn ck_mx (fun w => ck_pu w false n e A r (K (pc + 1))))
  | .imul => len == 1 && ck_i2 st (fun x y r => ck_mul e x y ck_mn ck_mx (fun w => ck_pu w false n e A r (K (pc + 1))))
  | .idiv => len == 1 && ck_i2 st (fun x y r => ck_nz e y && ck_div e x y ck_mn ck_mx (fun w => ck_pu w false n e A r (K (pc + 1))))
  | .irem => len == 1 && ck_i2 st (fun x y r => ck_nz e y && ck_rem e x y ck_mn ck_mx (fun w => ck_pu w false n e A r (K (pc + 1))))
  | .iand => len == 1 && ck_i2 st (fun x y r => ck_and e x y ck_mn ck_mx (fun w => ck_pu w false n e A r (K (pc + 1))))
  | .ior => len == 1 && ck_i2 st (fun _ _ r => ck_full ck_mn ck_mx (fun w => ck_pu w false n e A r (K (pc + 1))))
  | .ishl => len == 1 && ck_i2 st (fun x y r => ck_shl e x y ck_mn ck_mx (fun w => ck_pu w false n e A r (K (pc + 1))))
  | .ishr => len == 1 && ck_i2 st (fun _ _ r => ck_full ck_mn ck_mx (fun w => ck_pu w false n e A r (K (pc + 1))))
  | .ixor => len == 1 && ck_i2 st (fun _ _ r => ck_full ck_mn ck_mx (fun w => ck_pu w false n e A r (K (pc + 1))))
  | .ineg => len == 1 && ck_i1 st (fun _ r => ck_full ck_mn ck_mx (fun w => ck_pu w false n e A r (K (pc + 1))))
  | .ladd => len == 1 && ck_l2 st (fun x y r => ck_add e x y ck_ln ck_lx (fun w => ck_pu w true n e A r (K (pc + 1))))
  | .lsub => len == 1 && ck_l2 st (fun x y r => ck_sub e x y ck_ln ck_lx (fun w => ck_pu w true n e A r (K (pc + 1))))
  | .lmul => len == 1 && ck_l2 st (fun x y r => ck_mul e x y ck_ln ck_lx (fun w => ck_pu w true n e A r (K (pc + 1))))
  | .ldiv => len == 1 && ck_l2 st (fun x y r => ck_nz e y && ck_div e x y ck_ln ck_lx (fun w => ck_pu w true n e A r (K (pc + 1))))
  | .lrem => len == 1 && ck_l2 st (fun x y r => ck_nz e y && ck_rem e x y ck_ln ck_lx (fun w => ck_pu w true n e A r (K (pc + 1))))
  | .lneg => len == 1 && ck_l1 st (fun _ r => ck_full ck_ln ck_lx (fun w => ck_pu w true n e A r (K (pc + 1))))
  | .lcmp => len == 1 && ck_l2 st (fun x y r => K (pc + 1) (n, e, A, .inl (.inr (.inr (x, y))) :: r))
  | .i2l => len == 1 && ck_i1 st (fun x r => K (pc + 1) (n, e, A, .inl (.inr (.inl x)) :: r))
  | .l2i => len == 1 && ck_l1 st (fun x r => (match ck_in e (ck_mn, ck_mx, false) x with
    | true => K (pc + 1) (n, e, A, .inl (.inl x) :: r)
    | false => ck_full ck_mn ck_mx (fun w => ck_pu w false n e A r (K (pc + 1)))))
  | .dup => len == 1 && (match st with
    | .inl (.inl x) :: r => K (pc + 1) (n, e, A, .inl (.inl x) :: .inl (.inl x) :: r)
    | .inr x :: r => K (pc + 1) (n, e, A, .inr x :: .inr x :: r)
    | _ => false)
  | .dup2 => len == 1 && (match st with
    | .inl (.inr (.inl x)) :: r => K (pc + 1) (n, e, A, .inl (.inr (.inl x)) :: .inl (.inr (.inl x)) :: r)
    | .inl (.inl y) :: .inl (.inl x) :: r => K (pc + 1) (n, e, A, .inl (.inl y) :: .inl (.inl x) :: .inl (.inl y) :: .inl (.inl x) :: r)
    | .inl (.inl y) :: .inr x :: r => K (pc + 1) (n, e, A, .inl (.inl y) :: .inr x :: .inl (.inl y) :: .inr x :: r)
    | _ => false)
  | .goto off => len == 3 && decide (0 ≤ (pc : Int) + off) && K ((pc : Int) + off).toNat (n, e, A, st)
  | .ifCond c off => len == 3 && (match st with
    | .inl (.inl x) :: r => ck_bra c e x (0, 0) pc off (fun p e => K p (n, e, A, r))
    | .inl (.inr (.inr x)) :: r => ck_bra c e x.1 x.2 pc off (fun p e => K p (n, e, A, r))
    | _ => false)
  | .if_icmp c off => len == 3 && ck_i2 st (fun x y r => ck_bra c e x y pc off (fun p e => K p (n, e, A, r)))
  | .ifnull off => len == 3 && decide (0 ≤ (pc : Int) + off) && (match st with
    | .inr none :: r => K ((pc : Int) + off).toNat (n, e, A, r)
    | .inr (some _) :: r => K (pc + 3) (n, e, A, r)
    | _ => false)
  | .ifnonnull off => len == 3 && decide (0 ≤ (pc : Int) + off) && (match st with
    | .inr none :: r => K (pc + 3) (n, e, A, r)
    | .inr (some _) :: r => K ((pc : Int) + off).toNat (n, e, A, r)
    | _ => false)
  | .tableswitch d lo hi os => decide (hi + 1 = lo + (os.toList.length : Int)) && decide (0 ≤ (pc : Int) + d) && ck_i1 st (fun x r => K ((pc : Int) + d).toNat (n, e, A, r) && ck_tsw os.toList lo e x pc (fun p e => K p (n, e, A, r)))
  | .getfield j => len == 3 && (match ab_fl M j with
    | some (ci, f) => (match st with
      | .inr (some (k, lo, hi)) :: r => Nat.blt hi (ab_ct k) && (match ck_gf k lo hi ci f with
        | some (.inl true) => ck_pu (.inr (T.1 k f)) false n e A r (K (pc + 3))
        | some (.inl false) => ck_pu (.inr (ck_ln, ck_lx)) true n e A r (K (pc + 3))
        | some (.inr q) => K (pc + 3) (n, e, A, .inr (some q) :: r)
        | none => false)
      | _ => false)
    | none => false)
  | .putfield j => len == 3 && (match ab_fl M j with
    | some (ci, f) => (match st with
      | .inl (.inl x) :: .inr (some (k, lo, hi)) :: r => Nat.blt hi (ab_ct k) && (match ck_gf k lo hi ci f with
        | some (.inl true) => T.2.1 k f && ck_in e ((T.1 k f).1, (T.1 k f).2, false) x && K (pc + 3) (n, e, A, r)
        | _ => false)
      | .inl (.inr (.inl _)) :: .inr (some (k, lo, hi)) :: r => Nat.blt hi (ab_ct k) && (match ck_gf k lo hi ci f with
        | some (.inl false) => T.2.1 k f && K (pc + 3) (n, e, A, r)
        | _ => false)
      | _ => false)
    | none => false)
  | .iaload => len == 1 && (match st with
    | .inl (.inl j) :: .inr (some (k, _, hi)) :: r => Nat.blt hi (ab_ct k) && (match ck_ar k with
      | some (t, m) => t == 0 && ck_in e (0, (m : Int) - 1, false) j && ck_pu (.inr (T.1 k 0)) false n e A r (K (pc + 1))
      | none => false)
    | _ => false)
  | .baload => len == 1 && (match st with
    | .inl (.inl j) :: .inr (some (k, _, hi)) :: r => Nat.blt hi (ab_ct k) && (match ck_ar k with
      | some (t, m) => t == 2 && ck_in e (0, (m : Int) - 1, false) j && ck_pu (.inr (T.1 k 0)) false n e A r (K (pc + 1))
      | none => false)
    | _ => false)
  | .laload => len == 1 && (match st with
    | .inl (.inl j) :: .inr (some (k, _, hi)) :: r => Nat.blt hi (ab_ct k) && (match ck_ar k with
      | some (t, m) => t == 1 && ck_in e (0, (m : Int) - 1, false) j && ck_pu (.inr (ck_ln, ck_lx)) true n e A r (K (pc + 1))
      | none => false)
    | _ => false)
  | .aaload => len == 1 && (match st with
    | .inl (.inl j) :: .inr (some (k, _, hi)) :: r => k == 1 && Nat.blt hi (ab_ct k) && ck_in e (0, 3, false) j && K (pc + 1) (n, e, A, .inr (some (20, 0, 3)) :: r)
    | _ => false)
  | .iastore => len == 1 && (match st with
    | .inl (.inl x) :: .inl (.inl j) :: .inr (some (k, _, hi)) :: r => Nat.blt hi (ab_ct k) && (match ck_ar k with
      | some (t, m) => t == 0 && ck_in e (0, (m : Int) - 1, false) j && T.2.1 k 0 && ck_in e ((T.1 k 0).1, (T.1 k 0).2, false) x && K (pc + 1) (n, e, A, r)
      | none => false)
    | _ => false)
  | .bastore => len == 1 && (match st with
    | .inl (.inl _) :: .inl (.inl j) :: .inr (some (k, _, hi)) :: r => Nat.blt hi (ab_ct k) && (match ck_ar k with
      | some (t, m) => t == 2 && ck_in e (0, (m : Int) - 1, false) j && T.2.1 k 0 && (decide ((T.1 k 0).1 ≤ ck_mn) && decide (ck_mx ≤ (T.1 k 0).2)) && K (pc + 1) (n, e, A, r)
      | none => false)
    | _ => false)
  | .lastore => len == 1 && (match st with
    | .inl (.inr (.inl _)) :: .inl (.inl j) :: .inr (some (k, _, hi)) :: r => Nat.blt hi (ab_ct k) && (match ck_ar k with
      | some (t, m) => t == 1 && ck_in e (0, (m : Int) - 1, false) j && T.2.1 k 0 && K (pc + 1) (n, e, A, r)
      | none => false)
    | _ => false)
  | .arraylength => len == 1 && (match st with
    | .inr (some (k, _, hi)) :: r => Nat.blt hi (ab_ct k) && (match ck_ar k with
      | some (t, m) => Nat.blt t 4 && Nat.ble m 100000 && K (pc + 1) (n, e, A, .inl (.inl (0, (m : Int))) :: r)
      | none => false)
    | _ => false)
  | .invokestatic j => len == 3 && (match ab_ml M j, ck_lk T.2.2 j with
    | some (m, 0, _), some cs => (match ck_pop m st [] with
      | some (as, r) => Nat.ble (r.map ck_cat).sum 8 && ck_call n e A r as cs (K (pc + 3))
      | none => false)
    | _, _ => false)
  | .invokevirtual j => len == 3 && (match ab_ml M j, ck_lk T.2.2 j with
    | some (m, ci + 1, _), some cs => (match ck_pop m st [] with
      | some (.inr (some (k, lo, hi)) :: as, r) => Nat.blt hi (ab_ct k) && ck_io k ci && Nat.ble (r.map ck_cat).sum 8 && ck_call n e A r (.inr (some (k, lo, hi)) :: as) cs (K (pc + 3))
      | _ => false)
    | _, _ => false)
  | .ireturn => len == 1 && (match st with
    | [.inl (.inl x)] => (ab_rk M == 0 || (ab_rk M == 1 && ck_in e (0, 1, false) x)) && R (some (.inl (.inl x))) e
    | _ => false)
  | .lreturn => len == 1 && (match st with
    | [.inl (.inr (.inl x))] => ab_rk M == 2 && R (some (.inl (.inr (.inl x)))) e
    | _ => false)
  | .return_ => len == 1 && (match st with
    | [] => ab_rk M == 3 && R none e
    | _ => false)
  | .areturn => len == 1 && (match st with
    | [.inr x] => ab_rk M == 4 && R (some (.inr x)) e
    | _ => false)
  | _ => false
