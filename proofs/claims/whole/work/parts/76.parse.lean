/-! the language of the land: what both readers do -/
def srt5 (b : Int) : Nat := if 97 ≤ b ∧ b ≤ 122 then 1 else if 48 ≤ b ∧ b ≤ 57 then 2 else if b = 32 then 4 else if b = 59 then 3 else 5
def srA (T : Tp) (k : Nat) : Nat := if k < T.1 then srt5 (T.2 k) else 0
def rn (T : Tp) (c : Nat) : Nat → Nat → Nat
  | 0, a => a
  | f + 1, a => if srA T a = c then rn T c f (a + 1) else a
def rE (T : Tp) (c a : Nat) : Nat := rn T c (T.1 - a) a
theorem srt5_rg (b : Int) : 1 ≤ srt5 b ∧ srt5 b ≤ 5 := by
  unfold srt5
  split
  · omega
  · split
    · omega
    · split
      · omega
      · split <;> omega
theorem srA_lt {T : Tp} {k : Nat} (h : srA T k ≠ 0) : k < T.1 := by
  unfold srA at h
  split at h
  · assumption
  · exact absurd rfl h
theorem srA_in {T : Tp} {k : Nat} (h : k < T.1) : srA T k = srt5 (T.2 k) := if_pos h
theorem srA_out {T : Tp} {k : Nat} (h : T.1 ≤ k) : srA T k = 0 := if_neg (by omega)
theorem rE_y {T : Tp} {c a : Nat} (hc : c ≠ 0) (h : srA T a = c) : rE T c a = rE T c (a + 1) := by
  have hl := srA_lt (by rw [h]; exact hc : srA T a ≠ 0)
  unfold rE
  rw [show T.1 - a = (T.1 - (a + 1)) + 1 by omega]
  show (if srA T a = c then rn T c (T.1 - (a + 1)) (a + 1) else a) = _
  rw [if_pos h]
theorem rE_n {T : Tp} {c a : Nat} (h : srA T a ≠ c) : rE T c a = a := by
  unfold rE
  generalize T.1 - a = f
  cases f with
  | zero => rfl
  | succ f => show (if srA T a = c then rn T c f (a + 1) else a) = _; rw [if_neg h]
theorem rn_rg (T : Tp) (c : Nat) : ∀ f a, a ≤ rn T c f a ∧ rn T c f a ≤ a + f
  | 0, a => ⟨Nat.le_refl _, Nat.le_refl _⟩
  | f + 1, a => by
    have := rn_rg T c f (a + 1)
    unfold rn
    split <;> omega
theorem rE_rg {T : Tp} {c a : Nat} (h : a ≤ T.1) : a ≤ rE T c a ∧ rE T c a ≤ T.1 := by
  have := rn_rg T c (T.1 - a) a
  unfold rE
  omega
theorem rE_gt {T : Tp} {c a : Nat} (hc : c ≠ 0) (h : srA T a = c) : a < rE T c a := by
  have hl := srA_lt (by rw [h]; exact hc : srA T a ≠ 0)
  have := rE_rg (T := T) (c := c) (a := a + 1) hl
  rw [rE_y hc h]
  omega
theorem rn_all (T : Tp) (c : Nat) : ∀ f a k, a ≤ k → k < rn T c f a → srA T k = c
  | 0, a, k, h1, h2 => by have : rn T c 0 a = a := rfl; omega
  | f + 1, a, k, h1, h2 => by
    unfold rn at h2
    split at h2
    · by_cases e : k = a
      · subst e; assumption
      · exact rn_all T c f (a + 1) k (by omega) h2
    · omega
theorem rE_all {T : Tp} {c a k : Nat} (h1 : a ≤ k) (h2 : k < rE T c a) : srA T k = c := rn_all T c _ a k h1 h2
theorem rn_stop (T : Tp) (c : Nat) (hc : c ≠ 0) : ∀ f a, a + f = T.1 → srA T (rn T c f a) ≠ c
  | 0, a, h => by show srA T a ≠ c; rw [srA_out (by omega)]; exact fun q => hc q.symm
  | f + 1, a, h => by
    unfold rn
    split
    · exact rn_stop T c hc f (a + 1) (by omega)
    · assumption
theorem rE_stop {T : Tp} {c a : Nat} (hc : c ≠ 0) (h : a ≤ T.1) : srA T (rE T c a) ≠ c := rn_stop T c hc _ a (by omega)
def nv (T : Tp) (p : Nat) : Nat → Int
  | 0 => 0
  | j + 1 => nv T p j * 10 + (T.2 (p + j) - 48)
/-- at, place, token, seen, land -/
abbrev St : Type := Nat × Nat × Nat × Nat × Ld
abbrev PX (α : Type) : Type := (Int × Nat) ⊕ α
def pb {α β : Type} (x : PX α) (f : α → PX β) : PX β := match x with
  | .inl e => .inl e
  | .inr a => f a
def adv (T : Tp) (st : St) : PX St :=
  if srA T (rE T 4 st.1) = 0 then .inr (rE T 4 st.1, rE T 4 st.1, 0, st.2.2.2)
  else if srA T (rE T 4 st.1) = 5 then .inl (1, rE T 4 st.1)
  else if srA T (rE T 4 st.1) = 3 then .inr (rE T 4 st.1 + 1, rE T 4 st.1, 3, st.2.2.2)
  else if srA T (rE T 4 st.1) = 1 then .inr (rE T 1 (rE T 4 st.1), rE T 4 st.1, 1, st.2.2.2)
  else if 3 < rE T 2 (rE T 4 st.1) - rE T 4 st.1 then .inl (1, rE T 4 st.1) else .inr (rE T 2 (rE T 4 st.1), rE T 4 st.1, 2, st.2.2.2)
def num (T : Tp) (lo hi : Int) (st : St) : PX (Int × St) :=
  if st.2.2.1 = 2 then (if lo ≤ nv T st.2.1 (st.1 - st.2.1) ∧ nv T st.2.1 (st.1 - st.2.1) ≤ hi then pb (adv T st) (fun s => .inr (nv T st.2.1 (st.1 - st.2.1), s)) else .inl (3, st.2.1)) else .inl (2, st.2.1)
def isW (T : Tp) (j : Nat) (st : St) : Bool := decide (st.2.2.1 = 1) && decide (st.1 - st.2.1 = lenJS.getD j 0) && allN (fun i => decide (T.2 (st.2.1 + i) = ltr j i)) (lenJS.getD j 0)
def wd (T : Tp) (j : Nat) (st : St) : PX (Int × St) := if isW T j st = true then pb (adv T st) (fun s => .inr (1, s)) else .inr (0, st)
def yr (T : Tp) (j : Nat) (st : St) : PX (Int × St) := if isW T j st = true then pb (adv T st) (num T 0 89) else .inr (-4, st)
def wL (st : St) (L : Ld) : St := (st.1, st.2.1, st.2.2.1, st.2.2.2.1, L)
def sL (st : St) : Ld := st.2.2.2.2
def setR (L : Ld) (j : Nat) (v : Int) : Ld := (fun i => if i = j then v else L.1 i, L.2)
def addP (L : Ld) (a t mi sc : Int) : Ld := (fun i => if i = 0 then L.1 0 + 1 else L.1 i, fun w p => if p = (L.1 0).toNat then (if w = 0 then a else if w = 1 then t else if w = 2 then mi else sc) else L.2.1 w p, L.2.2)
def addK (L : Ld) (p f t h a : Int) : Ld := (fun i => if i = 1 then L.1 1 + 1 else L.1 i, L.2.1, fun w k => if k = (L.1 1).toNat then (if w = 0 then p else if w = 1 then f else if w = 2 then t else if w = 3 then h else a) else L.2.2 w k)
def once (T : Tp) (b : Nat) (st : St) : PX St := if st.2.2.2.1 &&& b = 0 then adv T (st.1, st.2.1, st.2.2.1, st.2.2.2.1 ||| b, st.2.2.2.2) else .inl (4, st.2.1)
def stp (T : Tp) (st : St) : PX St := if st.2.2.1 = 3 then adv T st else .inl (2, st.2.1)
def parishT (T : Tp) (st : St) : PX St := if 12 ≤ (sL st).1 0 then .inl (5, st.2.1) else pb (adv T st) (fun s1 => pb (num T 1 999 s1) (fun q2 => pb (wd T 7 q2.2) (fun q3 => pb (yr T 8 q3.2) (fun q4 => pb (yr T 9 q4.2) (fun q5 => .inr (wL q5.2 (addP (sL q5.2) q2.1 q3.1 q4.1 q5.1)))))))
def clerkT (T : Tp) (st : St) : PX St := if 8 ≤ (sL st).1 1 then .inl (5, st.2.1) else pb (adv T st) (fun s1 => pb (num T 0 ((sL st).1 0 - 1) s1) (fun q2 => pb (num T 0 89 q2.2) (fun q3 => pb (num T q3.1 89 q3.2) (fun q4 => pb (num T 0 255 q4.2) (fun q5 => pb (num T 0 4 q5.2) (fun q6 => .inr (wL q6.2 (addK (sL q6.2) q2.1 q3.1 q4.1 q5.1 q6.1))))))))
def trb (T : Tp) (k : Nat) (st : St) : PX St := pb (once T (16 * 2 ^ k) st) (fun s => pb (num T 0 999 s) (fun q => pb (num T (max 1 q.1) 999 (wL q.2 (setR (sL q.2) (7 + 2 * k) q.1))) (fun r => .inr (wL r.2 (setR (sL r.2) (8 + 2 * k) r.1)))))
def triedT (T : Tp) (st : St) : PX St := pb (adv T st) (fun s => if isW T 11 s = true then trb T 1 s else if isW T 10 s = true then trb T 0 s else .inl (2, s.2.1))
def ruleT (T : Tp) (b : Nat) (lo hi : Int) (j : Nat) (st : St) : PX St := pb (once T b st) (fun s => pb (num T lo hi s) (fun q => .inr (wL q.2 (setR (sL q.2) j q.1))))
def agesT (T : Tp) (st : St) : PX St := pb (once T 2 st) (fun s => pb (num T 16 60 s) (fun q => pb (num T q.1 60 (wL q.2 (setR (sL q.2) 3 q.1))) (fun r => .inr (wL r.2 (setR (sL r.2) 4 r.1)))))
def bodyT (T : Tp) (st : St) : PX St := if isW T 0 st = true then parishT T st else if isW T 1 st = true then clerkT T st else if isW T 2 st = true then triedT T st else if isW T 3 st = true then ruleT T 1 5 20 2 st else if isW T 4 st = true then agesT T st else if isW T 5 st = true then ruleT T 4 0 999 5 st else if isW T 6 st = true then ruleT T 8 0 8 6 st else .inl (2, st.2.1)
def lineT (T : Tp) (st : St) : PX St := pb (bodyT T st) (stp T)
def lns (T : Tp) : Nat → Nat → PX St → PX (Nat × St)
  | 0, n, x => pb x (fun s => .inr (n, s))
  | f + 1, n, x => pb x (fun s => if s.2.2.1 = 0 then .inr (n, s) else lns T f (n + 1) (lineT T s))
def L0 : Ld := (fun i => plL.getD i 0, fun _ _ => 0, fun _ _ => 0)
def landT (T : Tp) : PX (Nat × St) := lns T 320 0 (adv T (0, 0, 0, 0, L0))
/-- states as they come -/
def Vs (T : Tp) (st : St) : Prop := st.2.1 ≤ st.1 ∧ st.1 ≤ T.1 ∧ (st.2.2.1 ≠ 0 → st.2.1 < st.1) ∧ st.2.2.1 ≤ 3 ∧ st.2.2.2.1 < 64 ∧ (st.2.2.1 = 2 → st.1 - st.2.1 ≤ 3 ∧ ∀ k, st.2.1 ≤ k → k < st.1 → srA T k = 2) ∧ (st.2.2.1 = 1 → ∀ k, st.2.1 ≤ k → k < st.1 → srA T k = 1)
theorem pb_inv {α β : Type} {x : PX α} {f : α → PX β} {b : β} (h : pb x f = .inr b) : ∃ a, x = .inr a ∧ f a = .inr b := by
  cases x with
  | inl e => simp [pb] at h
  | inr a => exact ⟨a, rfl, h⟩
theorem adv_sp {T : Tp} {st st' : St} (h1 : st.1 ≤ T.1) (h6 : st.2.2.2.1 < 64) (h : adv T st = .inr st') : Vs T st' ∧ st.1 ≤ st'.2.1 ∧ st'.2.2.2 = st.2.2.2 := by
  have r4 := rE_rg (T := T) (c := 4) h1
  have s4 := rE_stop (T := T) (c := 4) (by decide) h1
  unfold adv at h
  generalize hp : rE T 4 st.1 = p at h r4 s4
  by_cases e0 : srA T p = 0
  · rw [if_pos e0] at h
    cases h
    exact ⟨⟨Nat.le_refl _, r4.2, fun q => absurd rfl q, by show 0 ≤ 3; omega, h6, fun q => by simp at q, fun q => by simp at q⟩, r4.1, rfl⟩
  · rw [if_neg e0] at h
    have lt := srA_lt e0
    by_cases e5 : srA T p = 5
    · rw [if_pos e5] at h; cases h
    · rw [if_neg e5] at h
      by_cases e3 : srA T p = 3
      · rw [if_pos e3] at h
        cases h
        exact ⟨⟨by show p ≤ p + 1; omega, lt, fun _ => by show p < p + 1; omega, Nat.le_refl _, h6, fun q => by simp at q, fun q => by simp at q⟩, r4.1, rfl⟩
      · rw [if_neg e3] at h
        by_cases e1 : srA T p = 1
        · rw [if_pos e1] at h
          cases h
          have g := rE_gt (by decide) e1
          have g2 := rE_rg (T := T) (c := 1) (a := p) (by omega)
          exact ⟨⟨by show p ≤ rE T 1 p; omega, g2.2, fun _ => g, by show 1 ≤ 3; omega, h6, fun q => by simp at q, fun _ k k1 k2 => rE_all k1 k2⟩, r4.1, rfl⟩
        · rw [if_neg e1] at h
          have e2 : srA T p = 2 := by
            have := srA_in lt
            have := srt5_rg (T.2 p)
            omega
          by_cases e9 : 3 < rE T 2 p - p
          · rw [if_pos e9] at h; cases h
          · rw [if_neg e9] at h
            cases h
            have g := rE_gt (by decide) e2
            have g2 := rE_rg (T := T) (c := 2) (a := p) (by omega)
            exact ⟨⟨by show p ≤ rE T 2 p; omega, g2.2, fun _ => g, by show 2 ≤ 3; omega, h6, fun _ => ⟨by show rE T 2 p - p ≤ 3; omega, fun k k1 k2 => rE_all k1 k2⟩, fun q => by simp at q⟩, r4.1, rfl⟩
theorem adv_er {T : Tp} {st : St} {e : Int × Nat} (h : adv T st = .inl e) : e = (1, rE T 4 st.1) := by
  unfold adv at h
  split at h
  · cases h
  · split at h
    · cases h; rfl
    · split at h
      · cases h
      · split at h
        · cases h
        · split at h
          · cases h; rfl
          · cases h
