def vMk (mk w : Nat → Int) (n : Nat) (ms : Int) (x : Nat) : Prop := x < 2 ^ n ∧ (∀ p, p < n → x.testBit p = true → 0 < mk p) ∧ ms ≤ wS w (fun p => x.testBit p) n
def pcn (x n : Nat) : Nat := cnt (fun p => x.testBit p) n
def mkm (s : Nat → Bool) : Nat → Nat
  | 0 => 0
  | n + 1 => mkm s n ||| (if s n = true then 2 ^ n else 0)
theorem mkm_lt (s : Nat → Bool) : ∀ n, mkm s n < 2 ^ n
  | 0 => by simp [mkm]
  | n + 1 => by
    unfold mkm
    refine Nat.or_lt_two_pow (Nat.lt_of_lt_of_le (mkm_lt s n) (Nat.pow_le_pow_right (by omega) (by omega))) ?_
    split
    · exact Nat.pow_lt_pow_right (by omega) (by omega)
    · exact Nat.two_pow_pos _
theorem mkm_bit (s : Nat → Bool) : ∀ n p, p < n → (mkm s n).testBit p = s p
  | 0, p, h => by omega
  | n + 1, p, h => by
    unfold mkm
    rw [Nat.testBit_or]
    by_cases e : p = n
    · subst e
      rw [Nat.testBit_lt_two_pow (mkm_lt s p)]
      cases hs : s p with
      | true => simp
      | false => simp
    · rw [mkm_bit s n p (by omega)]
      split
      · rw [Nat.testBit_two_pow, decide_eq_false (fun q => e q.symm)]; simp
      · simp
theorem Sb_mask {mk w : Nat → Int} {n : Nat} {ms : Int} {c : Nat} : Sb w (frB mk 0) n ms c ↔ ∃ x, vMk mk w n ms x ∧ pcn x n = c := by
  constructor
  · rintro ⟨s, h1, h2, h3⟩
    refine ⟨mkm s n, ⟨mkm_lt s n, fun p hp q => ?_, ?_⟩, ?_⟩
    · rw [mkm_bit s n p hp] at q
      have := h1 p hp q
      simp [frB] at this
      exact this
    · rw [wS_congr (t := s) (fun p hp => mkm_bit s n p hp)]; exact h3
    · show cnt _ n = c
      rw [cnt_congr (q := s) (fun p hp => mkm_bit s n p hp)]; exact h2
  · rintro ⟨x, ⟨h1, h2, h3⟩, h4⟩
    exact ⟨fun p => x.testBit p, fun p hp q => by simp only [frB]; simp [h2 p hp q], h4, h3⟩
theorem fwB_sp (mk w : Nat → Int) (n : Nat) (hn : n ≤ 12) (ms : Int) : (fwB mk w n ms < 0 ∧ ∀ x, ¬ vMk mk w n ms x) ∨ (0 ≤ fwB mk w n ms ∧ (∃ x, vMk mk w n ms x ∧ pcn x n = (fwB mk w n ms).toNat) ∧ ∀ x, vMk mk w n ms x → (fwB mk w n ms).toNat ≤ pcn x n) := by
  have h := fwG_sp (mk := mk) (w := w) (n := n) 13 0 ms (by have := cnt_le (frB mk 0) n; omega)
  rcases h with ⟨h1, h2⟩ | ⟨h1, h2, h3⟩
  · exact Or.inl ⟨h1, fun x hx => h2 _ (Sb_mask.mpr ⟨x, hx, rfl⟩)⟩
  · exact Or.inr ⟨h1, Sb_mask.mp h2, fun x hx => h3 _ (Sb_mask.mpr ⟨x, hx, rfl⟩)⟩
/-- a mask without its last bit -/
theorem top_no {x p : Nat} (h : x < 2 ^ (p + 1)) (hb : ¬ x.testBit p = true) : x < 2 ^ p := by
  rw [Nat.testBit_eq_decide_div_mod_eq, decide_eq_true_eq] at hb
  have h2 : x / 2 ^ p < 2 := by
    rw [Nat.div_lt_iff_lt_mul (Nat.two_pow_pos p)]
    rw [Nat.pow_succ] at h
    omega
  have h3 : x / 2 ^ p = 0 := by generalize x / 2 ^ p = d at hb h2 ⊢; omega
  exact (Nat.div_eq_zero_iff.mp h3).resolve_left (by have := Nat.two_pow_pos p; omega)
theorem top_yes {x p : Nat} (h : x < 2 ^ (p + 1)) (hb : x.testBit p = true) : ∃ y, y < 2 ^ p ∧ x = 2 ^ p + y ∧ ∀ q, q < p → x.testBit q = y.testBit q := by
  have h1 : 2 ^ p ≤ x := Nat.ge_two_pow_of_testBit hb
  refine ⟨x - 2 ^ p, by rw [Nat.pow_succ] at h; omega, by omega, fun q hq => ?_⟩
  have e : x = 2 ^ p + (x - 2 ^ p) := by omega
  conv => lhs; rw [e]
  exact Nat.testBit_two_pow_add_gt hq (x - 2 ^ p)
theorem add_bit {y p : Nat} (h : y < 2 ^ p) : (2 ^ p + y).testBit p = true ∧ (∀ q, q < p → (2 ^ p + y).testBit q = y.testBit q) ∧ 2 ^ p + y < 2 ^ (p + 1) := by
  refine ⟨?_, fun q hq => Nat.testBit_two_pow_add_gt hq y, by rw [Nat.pow_succ]; omega⟩
  rw [Nat.testBit_two_pow_add_eq, Nat.testBit_lt_two_pow h]
  rfl
theorem vMk_up {mk w : Nat → Int} {p : Nat} {ms : Int} {x : Nat} (h : vMk mk w p ms x) : vMk mk w (p + 1) ms x ∧ pcn x (p + 1) = pcn x p := by
  have e : x.testBit p = false := Nat.testBit_lt_two_pow h.1
  refine ⟨⟨Nat.lt_of_lt_of_le h.1 (Nat.pow_le_pow_right (by omega) (by omega)), fun q hq hb => ?_, ?_⟩, ?_⟩
  · by_cases e2 : q = p
    · subst e2; rw [e] at hb; exact absurd hb (by decide)
    · exact h.2.1 q (by omega) hb
  · rw [wS_s, e]; simp; exact h.2.2
  · exact cnt_n (by rw [e]; simp)
theorem vMk_dn {mk w : Nat → Int} {p : Nat} {ms : Int} {x : Nat} (h : vMk mk w (p + 1) ms x) (hb : ¬ x.testBit p = true) : vMk mk w p ms x ∧ pcn x (p + 1) = pcn x p := by
  refine ⟨⟨top_no h.1 hb, fun q hq => h.2.1 q (by omega), ?_⟩, cnt_n hb⟩
  have := h.2.2
  rw [wS_s, if_neg hb] at this
  omega
theorem vMk_add {mk w : Nat → Int} {p : Nat} {ms : Int} {y : Nat} (hp : 0 < mk p) (h : vMk mk w p (ms - w p) y) : vMk mk w (p + 1) ms (2 ^ p + y) ∧ pcn (2 ^ p + y) (p + 1) = pcn y p + 1 := by
  obtain ⟨b1, b2, b3⟩ := add_bit h.1
  refine ⟨⟨b3, fun q hq hb => ?_, ?_⟩, ?_⟩
  · by_cases e2 : q = p
    · subst e2; exact hp
    · exact h.2.1 q (by omega) (by rw [b2 q (by omega)] at hb; exact hb)
  · rw [wS_s, if_pos b1, wS_congr (t := fun q => y.testBit q) (fun q hq => b2 q hq)]
    have := h.2.2
    omega
  · show cnt _ (p + 1) = _
    rw [cnt_y b1, cnt_congr (q := fun q => y.testBit q) (fun q hq => b2 q hq)]
    rfl
theorem vMk_sub {mk w : Nat → Int} {p : Nat} {ms : Int} {x : Nat} (h : vMk mk w (p + 1) ms x) (hb : x.testBit p = true) : 0 < mk p ∧ ∃ y, x = 2 ^ p + y ∧ vMk mk w p (ms - w p) y ∧ pcn x (p + 1) = pcn y p + 1 := by
  obtain ⟨y, y1, y2, y3⟩ := top_yes h.1 hb
  refine ⟨h.2.1 p (by omega) hb, y, y2, ⟨y1, fun q hq k => h.2.1 q (by omega) (by rw [y3 q hq]; exact k), ?_⟩, ?_⟩
  · have := h.2.2
    rw [wS_s, if_pos hb, wS_congr (t := fun q => y.testBit q) (fun q hq => y3 q hq)] at this
    omega
  · show cnt _ (p + 1) = _
    rw [cnt_y hb, cnt_congr (q := fun q => y.testBit q) (fun q hq => y3 q hq)]
    rfl
/-- the least of those with at most rm bits -/
def Lst (mk w : Nat → Int) (n : Nat) (rm ms : Int) (x : Nat) : Prop := vMk mk w n ms x ∧ (pcn x n : Int) ≤ rm ∧ ∀ y, vMk mk w n ms y → (pcn y n : Int) ≤ rm → x ≤ y
theorem lbG_sp {mk w : Nat → Int} : ∀ (n : Nat), n ≤ 12 → ∀ (bt : Nat) (rm ms : Int) (x : Nat), Lst mk w n rm ms x → (∃ h, bt = 2 ^ n * h) → lbG mk w n bt rm ms = bt + x
  | 0, _, bt, rm, ms, x, h, _ => by
    have : x < 2 ^ 0 := h.1.1
    have e : x = 0 := by omega
    subst e
    rfl
  | p + 1, hn, bt, rm, ms, x, h, hb => by
    obtain ⟨h1, h2, h3⟩ := h
    have sp := fwB_sp mk w p (by omega) ms
    have ls : lbG mk w (p + 1) bt rm ms = if fwB mk w p ms < 0 ∨ rm < fwB mk w p ms then lbG mk w p (bt ||| 2 ^ p) (rm - 1) (ms - w p) else lbG mk w p bt rm ms := rfl
    obtain ⟨hh, hb⟩ := hb
    have pw : (2 : Nat) ^ (p + 1) = 2 ^ p * 2 := Nat.pow_succ 2 p
    by_cases hx : x.testBit p = true
    · have no : fwB mk w p ms < 0 ∨ rm < fwB mk w p ms := by
        rcases sp with ⟨s1, -⟩ | ⟨s1, ⟨y, y1, y2⟩, -⟩
        · exact Or.inl s1
        · by_cases q : rm < fwB mk w p ms
          · exact Or.inr q
          · exfalso
            have u := vMk_up y1
            have := h3 y u.1 (by rw [u.2, y2]; omega)
            have := Nat.ge_two_pow_of_testBit hx
            have := y1.1
            omega
      rw [if_pos no] at ls
      rw [ls]
      obtain ⟨v1, y, v2, v3, v4⟩ := vMk_sub h1 hx
      have eo : bt ||| 2 ^ p = bt + 2 ^ p := by
        rw [hb]
        have := Nat.two_pow_add_eq_or_of_lt (i := p + 1) (b := 2 ^ p) (by rw [pw]; have := Nat.two_pow_pos p; omega) hh
        exact this.symm
      have ih := lbG_sp (mk := mk) (w := w) p (by omega) (bt ||| 2 ^ p) (rm - 1) (ms - w p) y ⟨v3, by omega, fun z z1 z2 => by
        have a := vMk_add v1 z1
        have := h3 (2 ^ p + z) a.1 (by rw [a.2]; omega)
        omega⟩ ⟨2 * hh + 1, by rw [eo, hb, pw, Nat.mul_assoc, Nat.mul_add, Nat.mul_one]⟩
      rw [ih, eo, v2]
      omega
    · obtain ⟨d1, d2⟩ := vMk_dn h1 hx
      have yes : ¬ (fwB mk w p ms < 0 ∨ rm < fwB mk w p ms) := by
        rcases sp with ⟨-, s2⟩ | ⟨s1, -, s3⟩
        · exact absurd d1 (s2 x)
        · have := s3 x d1
          omega
      rw [if_neg yes] at ls
      rw [ls]
      exact lbG_sp (mk := mk) (w := w) p (by omega) bt rm ms x ⟨d1, by omega, fun z z1 z2 => by
        have u := vMk_up z1
        exact h3 z u.1 (by rw [u.2]; exact z2)⟩ ⟨2 * hh, by rw [hb, pw, Nat.mul_assoc]⟩
