/-! what a line keeps -/
section
variable {T : Tp} {st s : St} {L : Ld}
theorem adv_ok (v : Vs T st) (h : adv T st = .inr s) : Vs T s ∧ sL s = sL st := by
  obtain ⟨a, b, c⟩ := adv_sp v.2.1 v.2.2.2.2.1 h
  exact ⟨a, by unfold sL; rw [c]⟩
theorem kp_rf (v : Vs T st) : kp T st (.inr st) := fun s' e => by cases e; exact ⟨rfl, v, Nat.le_refl _⟩
theorem num_ok {lo hi : Int} {q : Int × St} (v : Vs T st) (h : num T lo hi st = .inr q) : Vs T q.2 ∧ sL q.2 = sL st ∧ lo ≤ q.1 ∧ q.1 ≤ hi := by
  have h2 : pb (.inr st : PX St) (num T lo hi) = .inr q := h
  have k := kp_num (lo := lo) (hi := hi) (kp_rf v) q.2 (by unfold sx; rw [h2]; rfl)
  exact ⟨k.2.1, by unfold sL; rw [k.1], num_rg (v := q.1) (s := q.2) h2⟩
theorem wd_ok {j : Nat} {q : Int × St} (v : Vs T st) (h : wd T j st = .inr q) : Vs T q.2 ∧ sL q.2 = sL st ∧ (q.1 = 0 ∨ q.1 = 1) := by
  unfold wd at h
  split at h
  · obtain ⟨s1, a, b⟩ := pb_inv h
    cases b
    have k := adv_ok v a
    exact ⟨k.1, k.2, Or.inr rfl⟩
  · cases h
    exact ⟨v, rfl, Or.inl rfl⟩
theorem yr_ok {j : Nat} {q : Int × St} (v : Vs T st) (h : yr T j st = .inr q) : Vs T q.2 ∧ sL q.2 = sL st ∧ (q.1 = -4 ∨ 0 ≤ q.1 ∧ q.1 ≤ 89) := by
  unfold yr at h
  split at h
  · obtain ⟨s1, a, b⟩ := pb_inv h
    have k := adv_ok v a
    have k2 := num_ok k.1 b
    exact ⟨k2.1, k2.2.1.trans k.2, Or.inr k2.2.2⟩
  · cases h
    exact ⟨v, rfl, Or.inl rfl⟩
theorem once_ok {b : Nat} (v : Vs T st) (hb : b < 64) (h : once T b st = .inr s) : Vs T s ∧ sL s = sL st := by
  unfold once at h
  split at h
  · have hs := v.2.2.2.2.1
    have ol : st.2.2.2.1 ||| b < 2 ^ 6 := Nat.or_lt_two_pow (by omega) (by omega)
    obtain ⟨a, b, c⟩ := adv_sp (st := (st.1, st.2.1, st.2.2.1, st.2.2.2.1 ||| b, st.2.2.2.2)) v.2.1 (show st.2.2.2.1 ||| b < 64 by omega) h
    exact ⟨a, by unfold sL; rw [c]⟩
  · cases h
theorem LdOk.aP {a t mi sc : Int} (h : LdOk L) (hn : ¬ 12 ≤ L.1 0) (ha : 1 ≤ a ∧ a ≤ 999) (ht : t = 0 ∨ t = 1) (hm : mi = -4 ∨ 0 ≤ mi ∧ mi ≤ 89) (hs : sc = -4 ∨ 0 ≤ sc ∧ sc ≤ 89) : LdOk (addP L a t mi sc) := by
  obtain ⟨⟨a0, a1, a2⟩, b, c, e⟩ := h
  refine ⟨⟨by show 0 ≤ L.1 0 + 1; omega, by show L.1 0 + 1 ≤ 12; omega, a2⟩, b, fun p hp => ?_, fun k hk => ?_⟩
  · have hp2 : (p : Int) < L.1 0 + 1 := hp
    have f : ∀ w, (addP L a t mi sc).2.1 w p = if p = (L.1 0).toNat then (if w = 0 then a else if w = 1 then t else if w = 2 then mi else sc) else L.2.1 w p := fun _ => rfl
    rw [f 0, f 1, f 2, f 3]
    by_cases q : p = (L.1 0).toNat
    · simp only [if_pos q]
      exact ⟨ha.1, ha.2, ht, hm, hs⟩
    · simp only [if_neg q]
      exact c p (by omega)
  · obtain ⟨e0, e1, e2⟩ := e k hk
    exact ⟨e0, by show L.2.2 0 k < L.1 0 + 1; omega, e2⟩
theorem LdOk.aK {p f t hh a : Int} (h : LdOk L) (hn : ¬ 8 ≤ L.1 1) (hp : 0 ≤ p ∧ p ≤ L.1 0 - 1) (hf : 0 ≤ f) (ht : f ≤ t ∧ t ≤ 89) (h1 : 0 ≤ hh ∧ hh ≤ 255) (h2 : 0 ≤ a ∧ a ≤ 4) : LdOk (addK L p f t hh a) := by
  obtain ⟨⟨a0, a1, a2, a3, a4⟩, b, c, e⟩ := h
  refine ⟨⟨a0, a1, by show 0 ≤ L.1 1 + 1; omega, by show L.1 1 + 1 ≤ 8; omega, a4⟩, b, c, fun k hk => ?_⟩
  have hp2 : (k : Int) < L.1 1 + 1 := hk
  have g : ∀ w, (addK L p f t hh a).2.2 w k = if k = (L.1 1).toNat then (if w = 0 then p else if w = 1 then f else if w = 2 then t else if w = 3 then hh else a) else L.2.2 w k := fun _ => rfl
  have g0 : (addK L p f t hh a).1 0 = L.1 0 := rfl
  rw [g 0, g 1, g 2, g 3, g 4, g0]
  by_cases q : k = (L.1 1).toNat
  · simp only [if_pos q]
    exact ⟨hp.1, by show p < L.1 0; omega, hf, ht.1, ht.2, h1.1, h1.2, h2.1, h2.2⟩
  · simp only [if_neg q]
    exact e k (by omega)
theorem par_ok (v : Vs T st) (h : LdOk (sL st)) (e : parishT T st = .inr s) : Vs T s ∧ LdOk (sL s) := by
  unfold parishT at e
  split at e
  · cases e
  · obtain ⟨s1, a1, e1⟩ := pb_inv e
    obtain ⟨q2, a2, e2⟩ := pb_inv e1
    obtain ⟨q3, a3, e3⟩ := pb_inv e2
    obtain ⟨q4, a4, e4⟩ := pb_inv e3
    obtain ⟨q5, a5, e5⟩ := pb_inv e4
    cases e5
    have k1 := adv_ok v a1
    have k2 := num_ok k1.1 a2
    have k3 := wd_ok k2.1 a3
    have k4 := yr_ok k3.1 a4
    have k5 := yr_ok k4.1 a5
    have es : sL q5.2 = sL st := k5.2.1.trans (k4.2.1.trans (k3.2.1.trans (k2.2.1.trans k1.2)))
    refine ⟨k5.1, ?_⟩
    show LdOk (addP (sL q5.2) q2.1 q3.1 q4.1 q5.1)
    rw [es]
    exact h.aP (by assumption) k2.2.2 k3.2.2 k4.2.2 k5.2.2
theorem clk_ok (v : Vs T st) (h : LdOk (sL st)) (e : clerkT T st = .inr s) : Vs T s ∧ LdOk (sL s) := by
  unfold clerkT at e
  split at e
  · cases e
  · obtain ⟨s1, a1, e1⟩ := pb_inv e
    obtain ⟨q2, a2, e2⟩ := pb_inv e1
    obtain ⟨q3, a3, e3⟩ := pb_inv e2
    obtain ⟨q4, a4, e4⟩ := pb_inv e3
    obtain ⟨q5, a5, e5⟩ := pb_inv e4
    obtain ⟨q6, a6, e6⟩ := pb_inv e5
    cases e6
    have k1 := adv_ok v a1
    have k2 := num_ok k1.1 a2
    have k3 := num_ok k2.1 a3
    have k4 := num_ok k3.1 a4
    have k5 := num_ok k4.1 a5
    have k6 := num_ok k5.1 a6
    have es : sL q6.2 = sL st := k6.2.1.trans (k5.2.1.trans (k4.2.1.trans (k3.2.1.trans (k2.2.1.trans k1.2))))
    refine ⟨k6.1, ?_⟩
    show LdOk (addK (sL q6.2) q2.1 q3.1 q4.1 q5.1 q6.1)
    rw [es]
    exact h.aK (by assumption) k2.2.2 k3.2.2.1 k4.2.2 k5.2.2 k6.2.2
theorem LdOk.r2 {z : Int} (h : LdOk L) (hz : 5 ≤ z ∧ z ≤ 20) : LdOk (setR L 2 z) := by
  obtain ⟨⟨a0, a1, a2, a3, a4, a5, a6⟩, b⟩ := h
  exact ⟨⟨a0, a1, a2, a3, hz.1, hz.2, a6⟩, b⟩
theorem LdOk.r34 {y z : Int} (h : LdOk L) (hy : 16 ≤ y) (hz : y ≤ z ∧ z ≤ 60) : LdOk (setR (setR L 3 y) 4 z) := by
  obtain ⟨⟨a0, a1, a2, a3, a4, a5, a6, a7, a8, a9⟩, b⟩ := h
  exact ⟨⟨a0, a1, a2, a3, a4, a5, hy, hz.1, hz.2, a9⟩, b⟩
theorem LdOk.r5 {z : Int} (h : LdOk L) (hz : 0 ≤ z ∧ z ≤ 999) : LdOk (setR L 5 z) := by
  obtain ⟨⟨a0, a1, a2, a3, a4, a5, a6, a7, a8, a9, a10, a11⟩, b⟩ := h
  exact ⟨⟨a0, a1, a2, a3, a4, a5, a6, a7, a8, hz.1, hz.2, a11⟩, b⟩
theorem LdOk.r6 {z : Int} (h : LdOk L) (hz : 0 ≤ z ∧ z ≤ 8) : LdOk (setR L 6 z) := by
  obtain ⟨⟨a0, a1, a2, a3, a4, a5, a6, a7, a8, a9, a10, a11⟩, b⟩ := h
  exact ⟨⟨a0, a1, a2, a3, a4, a5, a6, a7, a8, a9, a10, hz.1, hz.2⟩, b⟩
theorem LdOk.r78 {y z : Int} (h : LdOk L) (hy : 0 ≤ y) (hz : max 1 y ≤ z ∧ z ≤ 999) : LdOk (setR (setR L 7 y) 8 z) := by
  obtain ⟨a, ⟨b0, b1, b2, b3, b4⟩, c⟩ := h
  have q1 : y ≤ z := by omega
  have q2 : 1 ≤ z := by omega
  exact ⟨a, ⟨hy, q1, q2, hz.2, b4⟩, c⟩
theorem LdOk.r9A {y z : Int} (h : LdOk L) (hy : 0 ≤ y) (hz : max 1 y ≤ z ∧ z ≤ 999) : LdOk (setR (setR L 9 y) 10 z) := by
  obtain ⟨a, ⟨b0, b1, b2, b3, b4⟩, c⟩ := h
  have q1 : y ≤ z := by omega
  have q2 : 1 ≤ z := by omega
  exact ⟨a, ⟨b0, b1, b2, b3, hy, q1, q2, hz.2⟩, c⟩
theorem rule_ok {b j : Nat} {lo hi : Int} (v : Vs T st) (hb : b < 64) (h : ∀ z, lo ≤ z ∧ z ≤ hi → LdOk (setR (sL st) j z)) (e : ruleT T b lo hi j st = .inr s) : Vs T s ∧ LdOk (sL s) := by
  unfold ruleT at e
  obtain ⟨s1, a1, e1⟩ := pb_inv e
  obtain ⟨q2, a2, e2⟩ := pb_inv e1
  cases e2
  have k1 := once_ok v hb a1
  have k2 := num_ok k1.1 a2
  have es : sL q2.2 = sL st := k2.2.1.trans k1.2
  refine ⟨k2.1, ?_⟩
  show LdOk (setR (sL q2.2) j q2.1)
  rw [es]
  exact h _ k2.2.2
theorem ages_ok (v : Vs T st) (h : LdOk (sL st)) (e : agesT T st = .inr s) : Vs T s ∧ LdOk (sL s) := by
  unfold agesT at e
  obtain ⟨s1, a1, e1⟩ := pb_inv e
  obtain ⟨q2, a2, e2⟩ := pb_inv e1
  obtain ⟨q3, a3, e3⟩ := pb_inv e2
  cases e3
  have k1 := once_ok v (by decide) a1
  have k2 := num_ok k1.1 a2
  have es : sL q2.2 = sL st := k2.2.1.trans k1.2
  have k3 := num_ok (st := wL q2.2 (setR (sL q2.2) 3 q2.1)) k2.1 a3
  refine ⟨k3.1, ?_⟩
  show LdOk (setR (sL q3.2) 4 q3.1)
  rw [k3.2.1]
  show LdOk (setR (setR (sL q2.2) 3 q2.1) 4 q3.1)
  rw [es]
  exact h.r34 k2.2.2.1 k3.2.2
theorem trb_ok {k : Nat} (v : Vs T st) (hk : k = 0 ∨ k = 1) (h : LdOk (sL st)) (e : trb T k st = .inr s) : Vs T s ∧ LdOk (sL s) := by
  unfold trb at e
  obtain ⟨s1, a1, e1⟩ := pb_inv e
  obtain ⟨q2, a2, e2⟩ := pb_inv e1
  obtain ⟨q3, a3, e3⟩ := pb_inv e2
  cases e3
  have k1 := once_ok v (by rcases hk with rfl | rfl <;> decide) a1
  have k2 := num_ok k1.1 a2
  have es : sL q2.2 = sL st := k2.2.1.trans k1.2
  have k3 := num_ok (st := wL q2.2 (setR (sL q2.2) (7 + 2 * k) q2.1)) k2.1 a3
  refine ⟨k3.1, ?_⟩
  show LdOk (setR (sL q3.2) (8 + 2 * k) q3.1)
  rw [k3.2.1]
  show LdOk (setR (setR (sL q2.2) (7 + 2 * k) q2.1) (8 + 2 * k) q3.1)
  rw [es]
  rcases hk with rfl | rfl
  · exact h.r78 k2.2.2.1 k3.2.2
  · exact h.r9A k2.2.2.1 k3.2.2
theorem body_ok (v : Vs T st) (h : LdOk (sL st)) (e : bodyT T st = .inr s) : Vs T s ∧ LdOk (sL s) := by
  unfold bodyT at e
  split at e
  · exact par_ok v h e
  · split at e
    · exact clk_ok v h e
    · split at e
      · unfold triedT at e
        obtain ⟨s1, a1, e1⟩ := pb_inv e
        have k1 := adv_ok v a1
        split at e1
        · exact trb_ok k1.1 (Or.inr rfl) (by rw [k1.2]; exact h) e1
        · split at e1
          · exact trb_ok k1.1 (Or.inl rfl) (by rw [k1.2]; exact h) e1
          · cases e1
      · split at e
        · exact rule_ok v (by decide) (fun z hz => h.r2 hz) e
        · split at e
          · exact ages_ok v h e
          · split at e
            · exact rule_ok v (by decide) (fun z hz => h.r5 hz) e
            · split at e
              · exact rule_ok v (by decide) (fun z hz => h.r6 hz) e
              · cases e
theorem line_ok (v : Vs T st) (h : LdOk (sL st)) (e : lineT T st = .inr s) : Vs T s ∧ LdOk (sL s) := by
  unfold lineT at e
  obtain ⟨s1, a1, e1⟩ := pb_inv e
  have k1 := body_ok v h a1
  unfold stp at e1
  split at e1
  · have k2 := adv_ok k1.1 e1
    exact ⟨k2.1, by rw [k2.2]; exact k1.2⟩
  · cases e1
theorem lns_ok : ∀ (f n : Nat) (x : PX St), (∀ s, x = .inr s → Vs T s ∧ LdOk (sL s)) → ∀ n' s', lns T f n x = .inr (n', s') → Vs T s' ∧ LdOk (sL s')
  | 0, n, x, hx, n', s', e => by
    obtain ⟨s, a, b⟩ := pb_inv e
    cases b
    exact hx _ a
  | f + 1, n, x, hx, n', s', e => by
    obtain ⟨s, a, b⟩ := pb_inv e
    split at b
    · cases b
      exact hx _ a
    · exact lns_ok f (n + 1) _ (fun s2 e2 => line_ok (hx _ a).1 (hx _ a).2 e2) n' s' b
theorem L0_ok : LdOk L0 := ⟨by decide, by decide, fun p hp => by have : (p : Int) < 0 := hp; omega, fun p hp => by have : (p : Int) < 0 := hp; omega⟩
theorem land_ok {n : Nat} (e : landT T = .inr (n, s)) : LdOk (sL s) := by
  unfold landT at e
  generalize (320 : Nat) = f at e
  refine (lns_ok f 0 _ (fun s1 e1 => ?_) n s e).2
  obtain ⟨a, b, c⟩ := adv_sp (st := (0, 0, 0, 0, L0)) (Nat.zero_le _) (by show 0 < 64; decide) e1
  exact ⟨a, by unfold sL; rw [c]; exact L0_ok⟩
theorem lns_n : ∀ (f n : Nat) (x : PX St) (n' : Nat) (s' : St), lns T f n x = .inr (n', s') → n ≤ n' ∧ n' ≤ n + f
  | 0, n, x, n', s', e => by
    obtain ⟨s, a, b⟩ := pb_inv e
    cases b
    omega
  | f + 1, n, x, n', s', e => by
    obtain ⟨s, a, b⟩ := pb_inv e
    split at b
    · cases b; omega
    · have := lns_n f (n + 1) _ n' s' b
      omega
end
