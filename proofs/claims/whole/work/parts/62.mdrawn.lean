/-- the parishes that have marks of choice 0 -/
def mkU (B : Bk) (ch : Cs) : Nat → Nat
  | 0 => 0
  | k + 1 => mkU B ch k ||| (if inC B ch 0 k = true then 2 ^ (B.2.1 0 (k / 2)).toNat else 0)
def mkd (B : Bk) (ch : Cs) : Nat := mkU B ch (2 * B.1)
theorem tb_bit (x p : Nat) : tb (x : Int) (p : Int) = x.testBit p := by
  rw [Nat.testBit_eq_decide_div_mod_eq]
  unfold tb
  congr 1
  rw [Int.toNat_natCast]
  apply propext
  constructor
  · intro h
    have h2 : ((x / 2 ^ p % 2 : Nat) : Int) = 1 := by rw [← h]; simp
    exact_mod_cast h2
  · intro h
    have h2 : ((x / 2 ^ p % 2 : Nat) : Int) = 1 := by rw [h]; rfl
    rw [← h2]; simp
theorem mkU_bit {B : Bk} {ch : Cs} {np : Int} (hO : BkOk np B) : ∀ n, n ≤ 2 * B.1 → ∀ p : Nat, (mkU B ch n).testBit p = true ↔ ∃ k, k < n ∧ inC B ch 0 k = true ∧ B.2.1 0 (k / 2) = (p : Int)
  | 0, _, p => by simp [mkU]
  | n + 1, hn, p => by
    have ih := mkU_bit (ch := ch) hO n (by omega) p
    have h := hO.2.1 (n / 2) (by omega)
    unfold mkU
    rw [Nat.testBit_or, Bool.or_eq_true, ih]
    constructor
    · rintro (⟨k, k1, k2⟩ | q)
      · exact ⟨k, by omega, k2⟩
      · split at q
        · rw [Nat.testBit_two_pow] at q
          have := of_decide_eq_true q
          exact ⟨n, by omega, by assumption, by omega⟩
        · simp at q
    · rintro ⟨k, k1, k2, k3⟩
      by_cases e : k = n
      · subst e
        right
        rw [if_pos k2, Nat.testBit_two_pow]
        exact decide_eq_true (by omega)
      · exact Or.inl ⟨k, by omega, k2, k3⟩
theorem mkU_lt {B : Bk} {ch : Cs} {n : Nat} (hO : BkOk (n : Int) B) : ∀ k, k ≤ 2 * B.1 → mkU B ch k < 2 ^ n
  | 0, _ => Nat.two_pow_pos n
  | k + 1, hk => by
    have h := hO.2.1 (k / 2) (by omega)
    unfold mkU
    refine Nat.or_lt_two_pow (mkU_lt hO k (by omega)) ?_
    split
    · exact Nat.pow_lt_pow_right (by omega) (by omega)
    · exact Nat.two_pow_pos n
theorem mkd_bit {B : Bk} {ch : Cs} {np : Int} (hO : BkOk np B) (p : Nat) : (mkd B ch).testBit p = true ↔ tgM B ch 0 0 p ≠ 0 := by
  rw [mkd, mkU_bit hO _ (Nat.le_refl _) p]
  constructor
  · rintro ⟨k, k1, k2, k3⟩
    have : 0 < cnt (tgP B ch 0 0 p) (2 * B.1) := cnt_pos k1 (by simp only [tgP, grp]; simp [k2, k3])
    unfold tgM
    omega
  · intro h
    apply Classical.byContradiction
    intro q
    refine h ?_
    unfold tgM
    have key : ∀ n, n ≤ 2 * B.1 → cnt (tgP B ch 0 0 p) n = 0 := by
      intro n
      induction n with
      | zero => intro _; rfl
      | succ n ih =>
        intro hn
        rw [cnt_n (fun w => q ⟨n, by omega, by simp only [tgP, grp] at w; simp at w; exact w⟩), ih (by omega)]
    rw [key _ (Nat.le_refl _)]
    rfl
theorem sub_bits {x y n : Nat} (hx : x < 2 ^ n) : x ^^^ (x &&& y) = 0 ↔ ∀ p, p < n → x.testBit p = true → y.testBit p = true := by
  constructor
  · intro h p _ hp
    have e : (x ^^^ (x &&& y)).testBit p = false := by rw [h]; simp
    rw [Nat.testBit_xor, Nat.testBit_and, hp] at e
    cases hy : y.testBit p with
    | true => rfl
    | false => rw [hy] at e; simp at e
  · intro h
    apply Nat.eq_of_testBit_eq
    intro p
    rw [Nat.testBit_xor, Nat.testBit_and]
    by_cases hp : p < n
    · cases hx2 : x.testBit p with
      | false => simp
      | true => rw [h p hp hx2]; simp
    · have : x.testBit p = false := Nat.testBit_lt_two_pow (Nat.lt_of_lt_of_le hx (Nat.pow_le_pow_right (by omega) (by omega)))
      rw [this]; simp
theorem aHM_bits {B : Bk} {ch : Cs} {np : Int} {x n : Nat} (hO : BkOk np B) (hx : x < 2 ^ n) : aHM (tgM B ch 0 0) (x : Int) n = true ↔ x ^^^ (x &&& mkd B ch) = 0 := by
  rw [sub_bits hx]
  unfold aHM
  rw [allN_iff]
  constructor
  · intro h p hp hb
    have := h p hp
    rw [tb_bit, hb] at this
    simp at this
    exact (mkd_bit hO p).mpr this
  · intro h p hp
    rw [tb_bit]
    cases hb : x.testBit p with
    | false => rfl
    | true =>
      have := (mkd_bit (ch := ch) hO p).mp (h p hp hb)
      simp [this]
