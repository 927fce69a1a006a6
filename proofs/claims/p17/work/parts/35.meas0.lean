/-! ===== the measures as numbers ===== -/
def mxI (g : Nat → Int) (n : Nat) : Int := match n with
  | 0 => 0
  | n + 1 => max (mxI g n) (g n)
def mnI (g : Nat → Int) (n : Nat) : Int := match n with
  | 0 => 99
  | n + 1 => min (mnI g n) (g n)
def adI (g : Nat → Int) (i j : Nat) : Int := if g j < g i then g i - g j else g j - g i
def ahf (g : Nat → Int) (i j : Nat) : Int := if g i < g j ∨ (g j = g i ∧ j < i) then 1 else 0
def tpf (g : Nat → Int) (n : Nat) (k : Int) (i : Nat) : Int := if isum (ahf g i) n < k then g i else 0
def ltf (g : Nat → Int) (k : Int) (j : Nat) : Int := if g j < k then 1 else 0
def lkfI (g : Nat → Int) (k : Int) (j : Nat) : Int := if g j < k then k - g j else 0
def sqf (g : Nat → Int) (j : Nat) : Int := g j * g j
def upI (kind k : Int) (g : Nat → Int) (n : Nat) : Int := if kind = 0 then mxI g n - mnI g n else if kind = 1 then isum (fun i => isum (adI g i) i) n else if kind = 2 then isum (tpf g n k) n else if kind = 3 then isum (ltf g k) n else if kind = 4 then isum (lkfI g k) n else n * isum (sqf g) n - isum g n * isum g n
def dnI (kind : Int) (g : Nat → Int) (n : Nat) : Int := if kind = 2 then max 1 (isum g n) else if kind = 3 ∨ kind = 4 then n else 1
theorem mx_b {g : Nat → Int} : ∀ {n : Nat}, (∀ j, j < n → 0 ≤ g j ∧ g j ≤ 99) → 0 ≤ mxI g n ∧ mxI g n ≤ 99
  | 0, _ => ⟨Int.le_refl 0, (by decide : (0 : Int) ≤ 99)⟩
  | n + 1, h => by
    have ih := mx_b (n := n) (fun j hj => h j (by omega))
    have q := h n (by omega)
    show 0 ≤ max (mxI g n) (g n) ∧ max (mxI g n) (g n) ≤ 99
    omega
theorem mn_b {g : Nat → Int} : ∀ {n : Nat}, (∀ j, j < n → 0 ≤ g j ∧ g j ≤ 99) → 0 ≤ mnI g n ∧ mnI g n ≤ 99
  | 0, _ => ⟨(by decide : (0 : Int) ≤ 99), Int.le_refl 99⟩
  | n + 1, h => by
    have ih := mn_b (n := n) (fun j hj => h j (by omega))
    have q := h n (by omega)
    show 0 ≤ min (mnI g n) (g n) ∧ min (mnI g n) (g n) ≤ 99
    omega
theorem ad_b {g : Nat → Int} {i j : Nat} (h1 : 0 ≤ g i ∧ g i ≤ 99) (h2 : 0 ≤ g j ∧ g j ≤ 99) : 0 ≤ adI g i j ∧ adI g i j ≤ 99 := by
  unfold adI
  split <;> omega
theorem ah_b {g : Nat → Int} {i j : Nat} : 0 ≤ ahf g i j ∧ ahf g i j ≤ 1 := by
  unfold ahf
  split <;> omega
theorem lt_b {g : Nat → Int} {k : Int} {j : Nat} : 0 ≤ ltf g k j ∧ ltf g k j ≤ 1 := by
  unfold ltf
  split <;> omega
theorem lk_b {g : Nat → Int} {k : Int} {j : Nat} (h1 : 0 ≤ g j) (hk : k ≤ 100) : 0 ≤ lkfI g k j ∧ lkfI g k j ≤ 100 := by
  unfold lkfI
  split <;> omega
theorem sq_b {g : Nat → Int} {j : Nat} (h1 : 0 ≤ g j ∧ g j ≤ 99) : 0 ≤ sqf g j ∧ sqf g j ≤ 9801 := by
  unfold sqf
  exact ⟨Int.mul_nonneg h1.1 h1.1, Int.le_trans (Int.mul_le_mul h1.2 h1.2 h1.1 (by decide)) (by decide)⟩
theorem l64 (x : Int32) : x.toInt64.toInt = x.toInt := Int32.toInt_toInt64 x
