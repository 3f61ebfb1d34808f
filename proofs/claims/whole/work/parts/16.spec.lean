/-! the mathematical state: books, land, choices; and what is asked of them -/
abbrev Bk : Type := Nat × (Nat → Nat → Int) × (Nat → Nat → Int)
abbrev Ld : Type := (Nat → Int) × (Nat → Nat → Int) × (Nat → Nat → Int)
abbrev Cs : Type := Nat → Nat → Int
/-- the references that stay; which land is ours -/
def PO (o d : Nat) (m : Mem) : Prop := ((o = 4 ∧ d = 17) ∨ (o = 17 ∧ d = 4)) ∧ ∀ a k r, mkP (o, d, none, none, none, none) a k = some r → m.2 a k = some r
def BkC (b p0 p1 p2 s0 s1 s2 s3 s4 : Nat) (m : Mem) (B : Bk) : Prop := m.1 b 0 = (B.1 : Int) ∧ (∀ k, k < B.1 → m.1 p0 k = B.2.1 0 k ∧ m.1 p1 k = B.2.1 1 k ∧ m.1 p2 k = B.2.1 2 k) ∧ (∀ k, k < 2 * B.1 → m.1 s0 k = B.2.2 0 k ∧ m.1 s1 k = B.2.2 1 k ∧ m.1 s2 k = B.2.2 2 k ∧ m.1 s3 k = B.2.2 3 k ∧ m.1 s4 k = B.2.2 4 k)
def Bk0 (m : Mem) (B : Bk) : Prop := BkC 30 32 33 34 36 37 38 39 40 m B
def BkOk (np : Int) (B : Bk) : Prop := B.1 ≤ 40 ∧ (∀ k, k < B.1 → 0 ≤ B.2.1 0 k ∧ B.2.1 0 k < np ∧ 0 ≤ B.2.1 1 k ∧ B.2.1 1 k ≤ 89 ∧ 0 ≤ B.2.1 2 k ∧ B.2.1 2 k ≤ 7) ∧ (∀ k, k < 2 * B.1 → (B.2.2 0 k = 0 ∨ B.2.2 0 k = 1) ∧ (B.2.2 1 k = 0 ∨ 16 ≤ B.2.2 1 k ∧ B.2.2 1 k ≤ 60) ∧ 0 ≤ B.2.2 2 k ∧ B.2.2 2 k ≤ 255 ∧ 0 ≤ B.2.2 3 k ∧ B.2.2 3 k ≤ 99 ∧ (B.2.2 4 k = 0 ∨ B.2.2 4 k = 1))
def LdR (o t p0 p1 p2 p3 c0 c1 c2 c3 c4 : Nat) (m : Mem) (L : Ld) : Prop := (m.1 o 0 = L.1 0 ∧ m.1 o 1 = L.1 1 ∧ m.1 o 2 = L.1 2 ∧ m.1 o 3 = L.1 3 ∧ m.1 o 4 = L.1 4 ∧ m.1 o 5 = L.1 5 ∧ m.1 o 6 = L.1 6)
  ∧ (m.1 t 0 = L.1 7 ∧ m.1 t 1 = L.1 8 ∧ m.1 t 2 = L.1 9 ∧ m.1 t 3 = L.1 10)
  ∧ (∀ p : Nat, (p : Int) < L.1 0 → m.1 p0 p = L.2.1 0 p ∧ m.1 p1 p = L.2.1 1 p ∧ m.1 p2 p = L.2.1 2 p ∧ m.1 p3 p = L.2.1 3 p)
  ∧ (∀ k : Nat, (k : Int) < L.1 1 → m.1 c0 k = L.2.2 0 k ∧ m.1 c1 k = L.2.2 1 k ∧ m.1 c2 k = L.2.2 2 k ∧ m.1 c3 k = L.2.2 3 k ∧ m.1 c4 k = L.2.2 4 k)
def LdC (o : Nat) (m : Mem) (L : Ld) : Prop := (o = 4 ∧ LdR 4 5 7 8 9 10 12 13 14 15 16 m L) ∨ (o = 17 ∧ LdR 17 18 20 21 22 23 25 26 27 28 29 m L)
def LdOk (L : Ld) : Prop := (0 ≤ L.1 0 ∧ L.1 0 ≤ 12 ∧ 0 ≤ L.1 1 ∧ L.1 1 ≤ 8 ∧ 5 ≤ L.1 2 ∧ L.1 2 ≤ 20 ∧ 16 ≤ L.1 3 ∧ L.1 3 ≤ L.1 4 ∧ L.1 4 ≤ 60 ∧ 0 ≤ L.1 5 ∧ L.1 5 ≤ 999 ∧ 0 ≤ L.1 6 ∧ L.1 6 ≤ 8)
  ∧ (0 ≤ L.1 7 ∧ L.1 7 ≤ L.1 8 ∧ 1 ≤ L.1 8 ∧ L.1 8 ≤ 999 ∧ 0 ≤ L.1 9 ∧ L.1 9 ≤ L.1 10 ∧ 1 ≤ L.1 10 ∧ L.1 10 ≤ 999)
  ∧ (∀ p : Nat, (p : Int) < L.1 0 → 1 ≤ L.2.1 0 p ∧ L.2.1 0 p ≤ 999 ∧ (L.2.1 1 p = 0 ∨ L.2.1 1 p = 1) ∧ (L.2.1 2 p = -4 ∨ 0 ≤ L.2.1 2 p ∧ L.2.1 2 p ≤ 89) ∧ (L.2.1 3 p = -4 ∨ 0 ≤ L.2.1 3 p ∧ L.2.1 3 p ≤ 89))
  ∧ (∀ k : Nat, (k : Int) < L.1 1 → 0 ≤ L.2.2 0 k ∧ L.2.2 0 k < L.1 0 ∧ 0 ≤ L.2.2 1 k ∧ L.2.2 1 k ≤ L.2.2 2 k ∧ L.2.2 2 k ≤ 89 ∧ 0 ≤ L.2.2 3 k ∧ L.2.2 3 k ≤ 255 ∧ 0 ≤ L.2.2 4 k ∧ L.2.2 4 k ≤ 4)
def ChR (c : Nat) (m : Mem) (f : Nat → Int) : Prop := m.1 c 0 = f 0 ∧ m.1 c 1 = f 1 ∧ m.1 c 2 = f 2 ∧ m.1 c 3 = f 3 ∧ m.1 c 4 = f 4
def ChC (m : Mem) (ch : Cs) : Prop := ChR 45 m (ch 0) ∧ ChR 46 m (ch 1)
def ChOk (ch : Cs) : Prop := ∀ c, c < 2 → 0 ≤ ch c 0 ∧ ch c 0 < 4096 ∧ 0 ≤ ch c 1 ∧ ch c 1 ≤ 89 ∧ 0 ≤ ch c 2 ∧ ch c 2 ≤ 89 ∧ 0 ≤ ch c 3 ∧ ch c 3 ≤ 3 ∧ 0 ≤ ch c 4 ∧ ch c 4 ≤ 255
/-! counting -/
def cnt (p : Nat → Bool) : Nat → Nat
  | 0 => 0
  | n + 1 => cnt p n + (if p n = true then 1 else 0)
theorem cnt_0 (p : Nat → Bool) : cnt p 0 = 0 := rfl
theorem cnt_y {p : Nat → Bool} {n : Nat} (h : p n = true) : cnt p (n + 1) = cnt p n + 1 := by simp [cnt, h]
theorem cnt_n {p : Nat → Bool} {n : Nat} (h : ¬ p n = true) : cnt p (n + 1) = cnt p n := by simp [cnt, h]
theorem cnt_le (p : Nat → Bool) (n : Nat) : cnt p n ≤ n := by
  induction n with
  | zero => exact Nat.le_refl 0
  | succ n ih => unfold cnt; split <;> omega
theorem cnt_congr {p q : Nat → Bool} {n : Nat} (h : ∀ k, k < n → p k = q k) : cnt p n = cnt q n := by
  induction n with
  | zero => rfl
  | succ n ih => unfold cnt; rw [ih (fun k hk => h k (by omega)), h n (by omega)]
theorem cnt_mono {p q : Nat → Bool} {n : Nat} (h : ∀ k, k < n → p k = true → q k = true) : cnt p n ≤ cnt q n := by
  induction n with
  | zero => exact Nat.le_refl 0
  | succ n ih =>
    have h1 := ih (fun k hk => h k (by omega))
    have h2 := h n (by omega)
    unfold cnt
    by_cases hp : p n = true
    · rw [if_pos hp, if_pos (h2 hp)]; omega
    · rw [if_neg hp]; split <;> omega
theorem cnt_pos {p : Nat → Bool} {n k : Nat} (hk : k < n) (h : p k = true) : 0 < cnt p n := by
  induction n with
  | zero => omega
  | succ n ih =>
    by_cases e : k = n
    · subst e; rw [cnt_y h]; omega
    · have := ih (by omega); unfold cnt; omega
theorem cnt_zero {p : Nat → Bool} {n : Nat} (h : cnt p n = 0) : ∀ k, k < n → ¬ p k = true := fun k hk hp => by have := cnt_pos hk hp; omega
/-! bits -/
def tb (b i : Int) : Bool := decide (b / 2 ^ i.toNat % 2 = 1)
def popU (x : Nat) : Nat → Nat
  | 0 => 0
  | j + 1 => popU x j + x / 2 ^ j % 2
def pop (x : Nat) : Nat := popU x 12
/-- how far two hands are apart -/
def ap (a b : Int) : Int := (pop (a.toNat ^^^ b.toNat) : Int)
theorem popU_le (x j : Nat) : popU x j ≤ j := by
  induction j with
  | zero => exact Nat.le_refl 0
  | succ j ih => unfold popU; omega
theorem ap_rg (a b : Int) : 0 ≤ ap a b ∧ ap a b ≤ 12 := by have := popU_le (a.toNat ^^^ b.toNat) 12; unfold ap pop; omega
theorem ap_comm (a b : Int) : ap a b = ap b a := by unfold ap; rw [Nat.xor_comm]
/-- the first of n that p takes; -4 -/
def fsA (p : Nat → Bool) : Nat → Nat → Int
  | _, 0 => -4
  | i, f + 1 => if p i = true then (i : Int) else fsA p (i + 1) f
def fs1 (p : Nat → Bool) (n : Nat) : Int := fsA p 0 n
theorem fsA_rg (p : Nat → Bool) (f : Nat) : ∀ i, fsA p i f = -4 ∨ ((i : Int) ≤ fsA p i f ∧ fsA p i f < i + f) := by
  induction f with
  | zero => intro i; left; rfl
  | succ f ih =>
    intro i
    unfold fsA
    split
    · right; omega
    · have := ih (i + 1); omega
theorem fs1_rg (p : Nat → Bool) (n : Nat) : fs1 p n = -4 ∨ (0 ≤ fs1 p n ∧ fs1 p n < n) := by have := fsA_rg p n 0; unfold fs1; omega
theorem fsA_none {p : Nat → Bool} {f : Nat} : ∀ {i : Nat}, (∀ k, i ≤ k → k < i + f → ¬ p k = true) → fsA p i f = -4 := by
  induction f with
  | zero => intro i _; rfl
  | succ f ih =>
    intro i h
    unfold fsA
    rw [if_neg (h i (by omega) (by omega))]
    exact ih (fun k h1 h2 => h k (by omega) (by omega))
/-- a loop: up to k nothing was found -/
theorem fs1_at {p : Nat → Bool} {n k : Nat} (hk : k < n) (h0 : ∀ j, j < k → ¬ p j = true) (h : p k = true) : fs1 p n = (k : Int) := by
  have key : ∀ (d i : Nat), i + d = k → fsA p i (n - i) = (k : Int) := by
    intro d
    induction d with
    | zero =>
      intro i hi
      have : i = k := by omega
      subst this
      rw [show n - i = (n - i - 1) + 1 by omega]
      unfold fsA
      rw [if_pos h]
    | succ d ih =>
      intro i hi
      rw [show n - i = (n - (i + 1)) + 1 by omega]
      unfold fsA
      rw [if_neg (h0 i (by omega))]
      exact ih (i + 1) (by omega)
  have := key k 0 (by omega)
  simpa [fs1] using this
theorem fs1_none {p : Nat → Bool} {n : Nat} (h : ∀ j, j < n → ¬ p j = true) : fs1 p n = -4 := fsA_none (fun k _ h2 => h k (by omega))
/-! kinds -/
def anyN (p : Nat → Bool) : Nat → Bool
  | 0 => false
  | n + 1 => anyN p n || p n
def allN (p : Nat → Bool) : Nat → Bool
  | 0 => true
  | n + 1 => allN p n && p n
theorem anyN_iff (p : Nat → Bool) (n : Nat) : anyN p n = true ↔ ∃ k, k < n ∧ p k = true := by
  induction n with
  | zero => simp [anyN]
  | succ n ih =>
    simp only [anyN, Bool.or_eq_true, ih]
    constructor
    · rintro (⟨k, h1, h2⟩ | h)
      · exact ⟨k, by omega, h2⟩
      · exact ⟨n, by omega, h⟩
    · rintro ⟨k, h1, h2⟩
      by_cases e : k = n
      · subst e; exact Or.inr h2
      · exact Or.inl ⟨k, by omega, h2⟩
theorem allN_iff (p : Nat → Bool) (n : Nat) : allN p n = true ↔ ∀ k, k < n → p k = true := by
  induction n with
  | zero => simp [allN]
  | succ n ih =>
    simp only [allN, Bool.and_eq_true, ih]
    constructor
    · rintro ⟨h1, h2⟩ k hk
      by_cases e : k = n
      · subst e; exact h2
      · exact h1 k (by omega)
    · intro h
      exact ⟨fun k hk => h k (by omega), h n (by omega)⟩
def wrP (L : Ld) (B : Bk) (k c : Nat) : Bool := decide (L.2.2 0 c = B.2.1 0 (k / 2)) && (decide (L.2.2 1 c ≤ B.2.1 1 (k / 2)) && decide (B.2.1 1 (k / 2) ≤ L.2.2 2 c)) && decide (ap (B.2.2 2 k) (L.2.2 3 c) ≤ L.2.2 4 c)
/-- the first clerk by whom a mark is written -/
def wr (L : Ld) (B : Bk) (k : Nat) : Int := if B.2.2 0 k = 1 then fs1 (wrP L B k) (L.1 1).toNat else -4
def ownN (L : Ld) (B : Bk) (k : Nat) : Bool := decide (B.2.2 0 k = 1) && decide (wr L B k = -4)
def sameP (L : Ld) (B : Bk) (k j : Nat) : Bool := !decide (j = k) && decide (B.2.2 3 j = B.2.2 3 k) && ownN L B j
def drawn (L : Ld) (B : Bk) (k : Nat) : Bool := decide (B.2.2 3 k ≠ 0) && anyN (fun j => sameP L B k j && !decide (j / 2 = k / 2)) (2 * B.1) && allN (fun j => !sameP L B k j || decide (ap (B.2.2 2 j) (B.2.2 2 k) ≤ L.1 6)) (2 * B.1)
def nkd (L : Ld) (B : Bk) (k : Nat) : Int := if wr L B k = -4 then (if drawn L B k = true then 4 else 3) else 5
def before (L : Ld) (B : Bk) (k : Nat) : Bool := decide (B.2.2 3 k ≠ 0) && anyN (fun j => decide (B.2.2 3 j = B.2.2 3 k) && decide (B.2.2 0 j = 1) && decide (B.2.1 1 (j / 2) < B.2.1 1 (k / 2)) && decide (nkd L B j = 3)) (2 * B.1)
def kd (L : Ld) (B : Bk) (k : Nat) : Int := if B.2.2 0 k = 1 then nkd L B k else if before L B k = true then 2 else 1
def abl (L : Ld) (B : Bk) (k : Nat) : Bool := decide (kd L B k = 2) || decide (kd L B k = 3)
theorem wr_rg {L : Ld} {B : Bk} (k : Nat) : wr L B k = -4 ∨ (0 ≤ wr L B k ∧ wr L B k < (L.1 1).toNat) := by
  unfold wr
  split
  · exact fs1_rg _ _
  · left; rfl
theorem nkd_rg (L : Ld) (B : Bk) (k : Nat) : 3 ≤ nkd L B k ∧ nkd L B k ≤ 5 := by unfold nkd; split <;> (try split) <;> omega
theorem kd_rg (L : Ld) (B : Bk) (k : Nat) : 1 ≤ kd L B k ∧ kd L B k ≤ 5 := by
  have := nkd_rg L B k
  unfold kd
  split
  · omega
  · split <;> omega
/-! choices -/
def inC (B : Bk) (ch : Cs) (c k : Nat) : Bool := tb (ch c 0) (B.2.1 0 (k / 2)) && (decide (ch c 1 ≤ B.2.1 1 (k / 2)) && decide (B.2.1 1 (k / 2) ≤ ch c 2)) && tb (ch c 3) ((k % 2 : Nat) : Int) && tb (ch c 4) (B.2.1 2 (k / 2))
