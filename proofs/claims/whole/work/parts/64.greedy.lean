/-! the fewest parishes, by the largest; the least bits: what the search over all finds -/
def wS (w : Nat → Int) (s : Nat → Bool) (n : Nat) : Int := sumN (fun p => if s p = true then w p else 0) n
theorem wS_s (w : Nat → Int) (s : Nat → Bool) (n : Nat) : wS w s (n + 1) = wS w s n + (if s n = true then w n else 0) := rfl
theorem wS_congr {w : Nat → Int} {s t : Nat → Bool} {n : Nat} (h : ∀ p, p < n → s p = t p) : wS w s n = wS w t n := sumN_congr (fun p hp => by rw [h p hp])
def rmv (s : Nat → Bool) (q : Nat) : Nat → Bool := fun p => s p && !decide (p = q)
def ins (s : Nat → Bool) (q : Nat) : Nat → Bool := fun p => s p || decide (p = q)
theorem rmv_ne {s : Nat → Bool} {q p : Nat} (h : p ≠ q) : rmv s q p = s p := by simp [rmv, h]
theorem rmv_eq {s : Nat → Bool} {q : Nat} : rmv s q q = false := by simp [rmv]
theorem ins_ne {s : Nat → Bool} {q p : Nat} (h : p ≠ q) : ins s q p = s p := by simp [ins, h]
theorem ins_eq {s : Nat → Bool} {q : Nat} : ins s q q = true := by simp [ins]
theorem rmv_cnt {w : Nat → Int} {s : Nat → Bool} {q : Nat} (hs : s q = true) : ∀ n, q < n → cnt (rmv s q) n + 1 = cnt s n ∧ wS w (rmv s q) n = wS w s n - w q
  | 0, h => by omega
  | n + 1, h => by
    by_cases e : q = n
    · subst e
      have c : cnt (rmv s q) q = cnt s q := cnt_congr (fun k hk => rmv_ne (by omega))
      have c2 : wS w (rmv s q) q = wS w s q := wS_congr (fun k hk => rmv_ne (by omega))
      rw [cnt_n (p := rmv s q) (by rw [rmv_eq]; simp), cnt_y hs, c, wS_s, wS_s, c2, rmv_eq, hs]
      simp
    · have ih := rmv_cnt (w := w) hs n (by omega)
      have e2 : rmv s q n = s n := rmv_ne (by omega)
      rw [wS_s, wS_s, e2, ih.2]
      refine ⟨?_, by omega⟩
      by_cases h2 : s n = true
      · rw [cnt_y (p := rmv s q) (by rw [e2]; exact h2), cnt_y h2]; omega
      · rw [cnt_n (p := rmv s q) (by rw [e2]; exact h2), cnt_n h2]; omega
theorem ins_cnt {w : Nat → Int} {s : Nat → Bool} {q : Nat} (hs : s q = false) : ∀ n, q < n → cnt (ins s q) n = cnt s n + 1 ∧ wS w (ins s q) n = wS w s n + w q
  | 0, h => by omega
  | n + 1, h => by
    by_cases e : q = n
    · subst e
      have c : cnt (ins s q) q = cnt s q := cnt_congr (fun k hk => ins_ne (by omega))
      have c2 : wS w (ins s q) q = wS w s q := wS_congr (fun k hk => ins_ne (by omega))
      rw [cnt_y (p := ins s q) ins_eq, cnt_n (p := s) (by rw [hs]; simp), c, wS_s, wS_s, c2, ins_eq, hs]
      simp
    · have ih := ins_cnt (w := w) hs n (by omega)
      have e2 : ins s q n = s n := ins_ne (by omega)
      rw [wS_s, wS_s, e2, ih.2]
      refine ⟨?_, by omega⟩
      by_cases h2 : s n = true
      · rw [cnt_y (p := ins s q) (by rw [e2]; exact h2), cnt_y h2]; omega
      · rw [cnt_n (p := ins s q) (by rw [e2]; exact h2), cnt_n h2]; omega
/-- so many of fr, below n, weigh as much -/
def Sb (w : Nat → Int) (fr : Nat → Bool) (n : Nat) (ms : Int) (c : Nat) : Prop := ∃ s : Nat → Bool, (∀ p, p < n → s p = true → fr p = true) ∧ cnt s n = c ∧ ms ≤ wS w s n
theorem cnt_exq {s : Nat → Bool} : ∀ n, 0 < cnt s n → ∃ q, q < n ∧ s q = true
  | 0, h => by simp [cnt] at h
  | n + 1, h => by
    by_cases h2 : s n = true
    · exact ⟨n, by omega, h2⟩
    · rw [cnt_n h2] at h
      obtain ⟨q, q1, q2⟩ := cnt_exq n h
      exact ⟨q, by omega, q2⟩
theorem Sb_step {w : Nat → Int} {fr : Nat → Bool} {n : Nat} {ms : Int} {c p : Nat} (hp : p < n) (hf : fr p = true) (hm : ∀ q, q < n → fr q = true → w q ≤ w p) : Sb w fr n ms (c + 1) ↔ Sb w (rmv fr p) n (ms - w p) c := by
  constructor
  · rintro ⟨s, h1, h2, h3⟩
    by_cases hs : s p = true
    · have r := rmv_cnt (w := w) hs n hp
      refine ⟨rmv s p, fun q hq h => ?_, by omega, by omega⟩
      by_cases e : q = p
      · subst e; rw [rmv_eq] at h; exact absurd h (by decide)
      · rw [rmv_ne e] at h ⊢; exact h1 q hq h
    · obtain ⟨q, q1, q2⟩ := cnt_exq (s := s) n (by omega)
      have r := rmv_cnt (w := w) q2 n q1
      have := hm q q1 (h1 q q1 q2)
      refine ⟨rmv s q, fun t ht h => ?_, by omega, by omega⟩
      by_cases e : t = q
      · subst e; rw [rmv_eq] at h; exact absurd h (by decide)
      · rw [rmv_ne e] at h
        by_cases e2 : t = p
        · subst e2; exact absurd h hs
        · rw [rmv_ne e2]; exact h1 t ht h
  · rintro ⟨s, h1, h2, h3⟩
    have hs : s p = false := by
      cases h : s p with
      | false => rfl
      | true => have := h1 p hp h; rw [rmv_eq] at this; exact absurd this (by decide)
    have r := ins_cnt (w := w) hs n hp
    refine ⟨ins s p, fun q hq h => ?_, by omega, by omega⟩
    by_cases e : q = p
    · subst e; exact hf
    · rw [ins_ne e] at h
      have := h1 q hq h
      rw [rmv_ne e] at this
      exact this
theorem Sb_none {w : Nat → Int} {fr : Nat → Bool} {n : Nat} {ms : Int} {c : Nat} (hf : ∀ q, q < n → ¬ fr q = true) (hm : 0 < ms) : ¬ Sb w fr n ms c := by
  rintro ⟨s, h1, h2, h3⟩
  have e : wS w s n = 0 := by
    have key : ∀ k, k ≤ n → wS w s k = 0 := by
      intro k
      induction k with
      | zero => intro _; rfl
      | succ k ih =>
        intro hk
        rw [wS_s, ih (by omega), if_neg (fun q => hf k (by omega) (h1 k (by omega) q))]
        rfl
    exact key n (Nat.le_refl n)
  omega
theorem Sb_0 {w : Nat → Int} {fr : Nat → Bool} {n : Nat} {ms : Int} : ms ≤ 0 → Sb w fr n ms 0 := by
  intro h
  refine ⟨fun _ => false, fun p _ q => by simp at q, ?_, ?_⟩
  · have key : ∀ k, cnt (fun _ : Nat => false) k = 0 := by
      intro k
      induction k with
      | zero => rfl
      | succ k ih => rw [cnt_n (by simp), ih]
    exact key n
  · have key : ∀ k, wS w (fun _ => false) k = 0 := by
      intro k
      induction k with
      | zero => rfl
      | succ k ih => rw [wS_s, ih]; rfl
    rw [key]; exact h
theorem Sb_pos {w : Nat → Int} {fr : Nat → Bool} {n : Nat} {ms : Int} (hm : 0 < ms) : ¬ Sb w fr n ms 0 := by
  rintro ⟨s, h1, h2, h3⟩
  have e : wS w s n = 0 := by
    have key : ∀ k, k ≤ n → wS w s k = 0 := by
      intro k
      induction k with
      | zero => intro _; rfl
      | succ k ih =>
        intro hk
        rw [wS_s, ih (by omega), if_neg (cnt_zero h2 k (by omega))]
        rfl
    exact key n (Nat.le_refl n)
  omega
def frB (mk : Nat → Int) (dr : Nat) : Nat → Bool := fun p => decide (0 < mk p) && !dr.testBit p
theorem lgB_sp {mk w : Nat → Int} {dr : Nat} : ∀ n, (lgB mk w (dr : Int) n < 0 → ∀ q, q < n → ¬ frB mk dr q = true) ∧ (0 ≤ lgB mk w (dr : Int) n → frB mk dr (lgB mk w (dr : Int) n).toNat = true ∧ ∀ q, q < n → frB mk dr q = true → w q ≤ w (lgB mk w (dr : Int) n).toNat)
  | 0 => ⟨fun _ q hq => by omega, fun h => by simp [lgB] at h⟩
  | n + 1 => by
    have ih := lgB_sp (mk := mk) (w := w) (dr := dr) n
    have r := lgB_rg mk w (dr : Int) n
    have fe : frB mk dr n = true ↔ (0 < mk n ∧ ¬ tb (dr : Int) (n : Int) = true) := by rw [tb_bit]; simp [frB]
    have ls : lgB mk w (dr : Int) (n + 1) = if 0 < mk n ∧ ¬ tb (dr : Int) (n : Int) = true ∧ (lgB mk w (dr : Int) n < 0 ∨ w (lgB mk w (dr : Int) n).toNat < w n) then (n : Int) else lgB mk w (dr : Int) n := rfl
    by_cases h : 0 < mk n ∧ ¬ tb (dr : Int) (n : Int) = true ∧ (lgB mk w (dr : Int) n < 0 ∨ w (lgB mk w (dr : Int) n).toNat < w n)
    · rw [if_pos h] at ls
      rw [ls]
      refine ⟨fun q => by omega, fun _ => ?_⟩
      rw [Int.toNat_natCast]
      refine ⟨fe.mpr ⟨h.1, h.2.1⟩, fun q hq hf => ?_⟩
      by_cases e : q = n
      · subst e; exact Int.le_refl _
      · rcases h.2.2 with k | k
        · exact absurd hf (ih.1 k q (by omega))
        · have := (ih.2 (by
            rcases (show 0 ≤ lgB mk w (dr : Int) n ∨ lgB mk w (dr : Int) n < 0 by omega) with z | z
            · exact z
            · exact absurd hf (ih.1 z q (by omega)))).2 q (by omega) hf
          omega
    · rw [if_neg h] at ls
      rw [ls]
      refine ⟨fun k q hq hf => ?_, fun k => ⟨(ih.2 k).1, fun q hq hf => ?_⟩⟩
      · by_cases e : q = n
        · subst e
          have := fe.mp hf
          exact h ⟨this.1, this.2, Or.inl k⟩
        · exact ih.1 k q (by omega) hf
      · by_cases e : q = n
        · subst e
          have := fe.mp hf
          rcases (show w q ≤ w (lgB mk w (dr : Int) q).toNat ∨ w (lgB mk w (dr : Int) q).toNat < w q by omega) with z | z
          · exact z
          · exact absurd ⟨this.1, this.2, Or.inr z⟩ h
        · exact (ih.2 k).2 q (by omega) hf
theorem frB_ins {mk : Nat → Int} {dr p : Nat} : frB mk (dr ||| 2 ^ p) = rmv (frB mk dr) p := by
  funext q
  simp only [frB, rmv, Nat.testBit_or, Nat.testBit_two_pow]
  by_cases e : p = q
  · subst e; simp
  · have e2 : ¬ q = p := fun h => e h.symm
    simp [e, e2]
theorem Sb_fr {w : Nat → Int} {fr fr' : Nat → Bool} {n : Nat} {ms : Int} {c : Nat} (h : fr = fr') : Sb w fr n ms c → Sb w fr' n ms c := fun q => h ▸ q
theorem fwG_sp {mk w : Nat → Int} {n : Nat} : ∀ (f dr : Nat) (ms : Int), cnt (frB mk dr) n < f → (fwG mk w n f dr ms < 0 ∧ ∀ c, ¬ Sb w (frB mk dr) n ms c) ∨ (0 ≤ fwG mk w n f dr ms ∧ Sb w (frB mk dr) n ms (fwG mk w n f dr ms).toNat ∧ ∀ c, Sb w (frB mk dr) n ms c → (fwG mk w n f dr ms).toNat ≤ c)
  | 0, _, _, h => by omega
  | f + 1, dr, ms, h => by
    by_cases h0 : ms ≤ 0
    · right
      rw [fwG_le h0]
      exact ⟨by omega, Sb_0 h0, fun c _ => by simp⟩
    · have sp := lgB_sp (mk := mk) (w := w) (dr := dr) n
      have r := lgB_rg mk w (dr : Int) n
      by_cases h1 : lgB mk w (dr : Int) n < 0
      · left
        rw [fwG_no h0 h1]
        exact ⟨by omega, fun c => Sb_none (sp.1 h1) (by omega)⟩
      · have s2 := sp.2 (by omega)
        have st := fwG_st (f := f) h0 h1
        have e := frB_ins (mk := mk) (dr := dr) (p := (lgB mk w (dr : Int) n).toNat)
        have c1 := (rmv_cnt (w := w) s2.1 n (by omega)).1
        have ih := fwG_sp (mk := mk) (w := w) (n := n) f (dr ||| 2 ^ (lgB mk w (dr : Int) n).toNat) (ms - w (lgB mk w (dr : Int) n).toNat) (by rw [e]; omega)
        rw [e] at ih
        rcases ih with ⟨i1, i2⟩ | ⟨i1, i2, i3⟩
        · left
          rw [if_pos i1] at st
          rw [st]
          refine ⟨by omega, fun c hc => ?_⟩
          cases c with
          | zero => exact Sb_pos (by omega) hc
          | succ c => exact i2 c ((Sb_step (by omega) s2.1 s2.2).mp hc)
        · right
          rw [if_neg (by omega)] at st
          rw [st]
          have e3 : (fwG mk w n f (dr ||| 2 ^ (lgB mk w (dr : Int) n).toNat) (ms - w (lgB mk w (dr : Int) n).toNat) + 1).toNat = (fwG mk w n f (dr ||| 2 ^ (lgB mk w (dr : Int) n).toNat) (ms - w (lgB mk w (dr : Int) n).toNat)).toNat + 1 := by omega
          refine ⟨by omega, ?_, fun c hc => ?_⟩
          · rw [e3]; exact (Sb_step (by omega) s2.1 s2.2).mpr i2
          · cases c with
            | zero => exact absurd hc (Sb_pos (by omega))
            | succ c =>
              have := i3 c ((Sb_step (by omega) s2.1 s2.2).mp hc)
              omega
