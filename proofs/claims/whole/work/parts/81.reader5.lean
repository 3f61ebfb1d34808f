def pY2 (T : Tp) (st : St) : PX (Int × St) := pb (adv T st) (num T 1 999)
def pY3 (T : Tp) (st : St) : PX (Int × St) := pb (sx (pY2 T st)) (wd T 7)
def pY4 (T : Tp) (st : St) : PX (Int × St) := pb (sx (pY3 T st)) (yr T 8)
def pY5 (T : Tp) (st : St) : PX (Int × St) := pb (sx (pY4 T st)) (yr T 9)
theorem par_l {T : Tp} {st : St} {e : Int × Nat} (hn : ¬ 12 ≤ (sL st).1 0) (h : sx (pY5 T st) = .inl e) : parishT T st = .inl e := by
  unfold parishT
  rw [if_neg hn]
  unfold pY5 pY4 pY3 pY2 at h
  cases h1 : adv T st with
  | inl e1 => rw [h1] at h; exact h
  | inr s1 =>
    rw [h1] at h
    simp only [pb] at h ⊢
    cases h2 : num T 1 999 s1 with
    | inl e1 => rw [h2] at h; exact h
    | inr q2 =>
      rw [h2] at h
      simp only [sx, pb] at h ⊢
      cases h3 : wd T 7 q2.2 with
      | inl e1 => rw [h3] at h; exact h
      | inr q3 =>
        rw [h3] at h
        simp only [pb] at h ⊢
        cases h4 : yr T 8 q3.2 with
        | inl e1 => rw [h4] at h; exact h
        | inr q4 =>
          rw [h4] at h
          simp only [pb] at h ⊢
          cases h5 : yr T 9 q4.2 with
          | inl e1 => rw [h5] at h; exact h
          | inr q5 => rw [h5] at h; cases h
theorem par_r {T : Tp} {st s : St} (hn : ¬ 12 ≤ (sL st).1 0) (h : sx (pY5 T st) = .inr s) : ∃ v1 v2 v3 v4 s2 s3 s4, pY2 T st = .inr (v1, s2) ∧ pY3 T st = .inr (v2, s3) ∧ pY4 T st = .inr (v3, s4) ∧ pY5 T st = .inr (v4, s) ∧ parishT T st = .inr (wL s (addP (sL s) v1 v2 v3 v4)) := by
  obtain ⟨q5, a5, b5⟩ := pb_inv h
  cases b5
  have a5' := a5
  unfold pY5 at a5
  obtain ⟨s4, a4, b4⟩ := pb_inv a5
  obtain ⟨q4, c4, d4⟩ := pb_inv a4
  cases d4
  have c4' := c4
  unfold pY4 at c4
  obtain ⟨s3, a3, b3⟩ := pb_inv c4
  obtain ⟨q3, c3, d3⟩ := pb_inv a3
  cases d3
  have c3' := c3
  unfold pY3 at c3
  obtain ⟨s2, a2, b2⟩ := pb_inv c3
  obtain ⟨q2, c2, d2⟩ := pb_inv a2
  cases d2
  have c2' := c2
  unfold pY2 at c2
  obtain ⟨s1, a1, b1⟩ := pb_inv c2
  refine ⟨q2.1, q3.1, q4.1, q5.1, q2.2, q3.2, q4.2, c2', c3', c4', a5', ?_⟩
  unfold parishT
  rw [if_neg hn, a1]
  simp only [pb]
  rw [b1]
  simp only
  rw [b2]
  simp only
  rw [b3]
  simp only
  rw [b4]
/-- a land's cells, by its place -/
def LdU (d : Nat) (m : Mem) (L : Ld) : Prop := (∀ k, k < 7 → m.1 d k = L.1 k) ∧ (∀ k, k < 4 → m.1 (d + 1) k = L.1 (7 + k)) ∧ (∀ r, r < 4 → ∀ p : Nat, (p : Int) < L.1 0 → m.1 (d + 3 + r) p = L.2.1 r p) ∧ (∀ r, r < 5 → ∀ k : Nat, (k : Int) < L.1 1 → m.1 (d + 8 + r) k = L.2.2 r k)
theorem LdC.u {d : Nat} {m : Mem} {L : Ld} (h : LdC d m L) : LdU d m L := by
  rcases h with ⟨rfl, ⟨a0, a1, a2, a3, a4, a5, a6⟩, ⟨b0, b1, b2, b3⟩, c, e⟩ | ⟨rfl, ⟨a0, a1, a2, a3, a4, a5, a6⟩, ⟨b0, b1, b2, b3⟩, c, e⟩
  all_goals
    refine ⟨fun k hk => ?_, fun k hk => ?_, fun r hr p hp => ?_, fun r hr k hk => ?_⟩
    · rcases (show k = 0 ∨ k = 1 ∨ k = 2 ∨ k = 3 ∨ k = 4 ∨ k = 5 ∨ k = 6 by omega) with rfl | rfl | rfl | rfl | rfl | rfl | rfl <;> assumption
    · rcases (show k = 0 ∨ k = 1 ∨ k = 2 ∨ k = 3 by omega) with rfl | rfl | rfl | rfl <;> assumption
    · obtain ⟨c0, c1, c2, c3⟩ := c p hp
      rcases (show r = 0 ∨ r = 1 ∨ r = 2 ∨ r = 3 by omega) with rfl | rfl | rfl | rfl <;> assumption
    · obtain ⟨c0, c1, c2, c3, c4⟩ := e k hk
      rcases (show r = 0 ∨ r = 1 ∨ r = 2 ∨ r = 3 ∨ r = 4 by omega) with rfl | rfl | rfl | rfl | rfl <;> assumption
theorem LdU.c {d : Nat} {m : Mem} {L : Ld} (h : LdU d m L) (hd : d = 4 ∨ d = 17) : LdC d m L := by
  obtain ⟨a, b, c, e⟩ := h
  rcases hd with rfl | rfl
  · exact Or.inl ⟨rfl, ⟨a 0 (by omega), a 1 (by omega), a 2 (by omega), a 3 (by omega), a 4 (by omega), a 5 (by omega), a 6 (by omega)⟩, ⟨b 0 (by omega), b 1 (by omega), b 2 (by omega), b 3 (by omega)⟩, fun p hp => ⟨c 0 (by omega) p hp, c 1 (by omega) p hp, c 2 (by omega) p hp, c 3 (by omega) p hp⟩, fun k hk => ⟨e 0 (by omega) k hk, e 1 (by omega) k hk, e 2 (by omega) k hk, e 3 (by omega) k hk, e 4 (by omega) k hk⟩⟩
  · exact Or.inr ⟨rfl, ⟨a 0 (by omega), a 1 (by omega), a 2 (by omega), a 3 (by omega), a 4 (by omega), a 5 (by omega), a 6 (by omega)⟩, ⟨b 0 (by omega), b 1 (by omega), b 2 (by omega), b 3 (by omega)⟩, fun p hp => ⟨c 0 (by omega) p hp, c 1 (by omega) p hp, c 2 (by omega) p hp, c 3 (by omega) p hp⟩, fun k hk => ⟨e 0 (by omega) k hk, e 1 (by omega) k hk, e 2 (by omega) k hk, e 3 (by omega) k hk, e 4 (by omega) k hk⟩⟩
section
variable {Γ : GX} {m m' : Mem} {T : Tp} {o d : Nat} {P : Nat → Bool} {x : PX St} {L : Ld}
theorem PCx.ld (h : PCx T d m x) (e : ∀ k, m'.1 3 k = m.1 3 k) (hl : ∀ s, x = .inr s → LdC d m (sL s) → LdC d m' (sL s)) : PCx T d m' x := by
  cases x with
  | inl q =>
    obtain ⟨h1, h2, h3, h4⟩ := h
    exact ⟨by rw [e]; exact h1, by rw [e]; exact h2, by rw [e]; exact h3, h4⟩
  | inr s =>
    obtain ⟨h1, h2, h3, h4, h5, h6, h7, h8, h9⟩ := h
    exact ⟨by rw [e]; exact h1, by rw [e]; exact h2, by rw [e]; exact h3, fun q => by rw [e]; exact h4 q, by rw [e]; exact h5, by rw [e]; exact h6, h7, hl s rfl h8, h9⟩
/-- a cell of a row behind its parishes -/
theorem LdC.wp {r p : Nat} {z : Int} (h : LdC d m L) (hd : d = 4 ∨ d = 17) (hr : r < 4) (hp : ¬ (p : Int) < L.1 0) : LdC d (setI m (d + 3 + r) p z) L := by
  obtain ⟨a, b, c, e⟩ := h.u
  refine LdU.c ⟨fun k hk => ?_, fun k hk => ?_, fun r' hr' q hq => ?_, fun r' hr' k hk => ?_⟩ hd
  · simp only [setI]; rw [if_neg (by omega)]; exact a k hk
  · simp only [setI]; rw [if_neg (by omega)]; exact b k hk
  · simp only [setI]; rw [if_neg (by intro w; have := w.2; subst this; exact hp hq)]; exact c r' hr' q hq
  · simp only [setI]; rw [if_neg (by omega)]; exact e r' hr' k hk
theorem LdC.wk {r p : Nat} {z : Int} (h : LdC d m L) (hd : d = 4 ∨ d = 17) (hr : r < 5) (hp : ¬ (p : Int) < L.1 1) : LdC d (setI m (d + 8 + r) p z) L := by
  obtain ⟨a, b, c, e⟩ := h.u
  refine LdU.c ⟨fun k hk => ?_, fun k hk => ?_, fun r' hr' q hq => ?_, fun r' hr' k hk => ?_⟩ hd
  · simp only [setI]; rw [if_neg (by omega)]; exact a k hk
  · simp only [setI]; rw [if_neg (by omega)]; exact b k hk
  · simp only [setI]; rw [if_neg (by omega)]; exact c r' hr' q hq
  · simp only [setI]; rw [if_neg (by intro w; have := w.2; subst this; exact hp hk)]; exact e r' hr' k hk
end
