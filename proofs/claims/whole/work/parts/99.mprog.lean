/-! a line goes on; the reference's cells behind land -/
section
variable {T : Tp} {st s : St} {L : Ld}
theorem adv_pl (v : Vs T st) (h : adv T st = .inr s) : st.2.1 ≤ s.2.1 := by
  have a := (adv_sp v.2.1 v.2.2.2.2.1 h).2.1
  have := v.1
  omega
theorem num_pl {lo hi : Int} {q : Int × St} (v : Vs T st) (h : num T lo hi st = .inr q) : st.2.1 ≤ q.2.2.1 := by
  have h2 : pb (.inr st : PX St) (num T lo hi) = .inr q := h
  have k := kp_num (lo := lo) (hi := hi) (kp_rf v) q.2 (by unfold sx; rw [h2]; rfl)
  exact k.2.2
theorem wd_pl {j : Nat} {q : Int × St} (v : Vs T st) (h : wd T j st = .inr q) : st.2.1 ≤ q.2.2.1 := by
  have h2 : pb (.inr st : PX St) (wd T j) = .inr q := h
  have k := kp_wd (i := j) (kp_rf v) q.2 (by unfold sx; rw [h2]; rfl)
  exact k.2.2
theorem yr_pl {j : Nat} {q : Int × St} (v : Vs T st) (h : yr T j st = .inr q) : st.2.1 ≤ q.2.2.1 := by
  have h2 : pb (.inr st : PX St) (yr T j) = .inr q := h
  have k := kp_yr (i := j) (kp_rf v) q.2 (by unfold sx; rw [h2]; rfl)
  exact k.2.2
theorem once_pl {b : Nat} (v : Vs T st) (hb : b < 64) (h : once T b st = .inr s) : st.2.1 ≤ s.2.1 := by
  unfold once at h
  split at h
  · have hs := v.2.2.2.2.1
    have ol : st.2.2.2.1 ||| b < 2 ^ 6 := Nat.or_lt_two_pow (by omega) (by omega)
    have a := (adv_sp (st := (st.1, st.2.1, st.2.2.1, st.2.2.2.1 ||| b, st.2.2.2.2)) v.2.1 (show st.2.2.2.1 ||| b < 64 by omega) h).2.1
    have a2 : st.1 ≤ s.2.1 := a
    have := v.1
    omega
  · cases h
theorem par_pl (v : Vs T st) (e : parishT T st = .inr s) : st.2.1 ≤ s.2.1 := by
  unfold parishT at e
  split at e
  · cases e
  · obtain ⟨s1, a1, e1⟩ := pb_inv e
    obtain ⟨q2, a2, e2⟩ := pb_inv e1
    obtain ⟨q3, a3, e3⟩ := pb_inv e2
    obtain ⟨q4, a4, e4⟩ := pb_inv e3
    obtain ⟨q5, a5, e5⟩ := pb_inv e4
    cases e5
    have k1 := adv_ok v a1
    have k2 := num_ok k1.1 a2
    have k3 := wd_ok k2.1 a3
    have k4 := yr_ok k3.1 a4
    have p1 := adv_pl v a1
    have p2 := num_pl k1.1 a2
    have p3 := wd_pl k2.1 a3
    have p4 := yr_pl k3.1 a4
    have p5 := yr_pl k4.1 a5
    show st.2.1 ≤ q5.2.2.1
    omega
theorem clk_pl (v : Vs T st) (e : clerkT T st = .inr s) : st.2.1 ≤ s.2.1 := by
  unfold clerkT at e
  split at e
  · cases e
  · obtain ⟨s1, a1, e1⟩ := pb_inv e
    obtain ⟨q2, a2, e2⟩ := pb_inv e1
    obtain ⟨q3, a3, e3⟩ := pb_inv e2
    obtain ⟨q4, a4, e4⟩ := pb_inv e3
    obtain ⟨q5, a5, e5⟩ := pb_inv e4
    obtain ⟨q6, a6, e6⟩ := pb_inv e5
    cases e6
    have k1 := adv_ok v a1
    have k2 := num_ok k1.1 a2
    have k3 := num_ok k2.1 a3
    have k4 := num_ok k3.1 a4
    have k5 := num_ok k4.1 a5
    have p1 := adv_pl v a1
    have p2 := num_pl k1.1 a2
    have p3 := num_pl k2.1 a3
    have p4 := num_pl k3.1 a4
    have p5 := num_pl k4.1 a5
    have p6 := num_pl k5.1 a6
    show st.2.1 ≤ q6.2.2.1
    omega
theorem rule_pl {b j : Nat} {lo hi : Int} (v : Vs T st) (hb : b < 64) (e : ruleT T b lo hi j st = .inr s) : st.2.1 ≤ s.2.1 := by
  unfold ruleT at e
  obtain ⟨s1, a1, e1⟩ := pb_inv e
  obtain ⟨q2, a2, e2⟩ := pb_inv e1
  cases e2
  have k1 := once_ok v hb a1
  have p1 := once_pl v hb a1
  have p2 := num_pl k1.1 a2
  show st.2.1 ≤ q2.2.2.1
  omega
theorem ages_pl (v : Vs T st) (e : agesT T st = .inr s) : st.2.1 ≤ s.2.1 := by
  unfold agesT at e
  obtain ⟨s1, a1, e1⟩ := pb_inv e
  obtain ⟨q2, a2, e2⟩ := pb_inv e1
  obtain ⟨q3, a3, e3⟩ := pb_inv e2
  cases e3
  have k1 := once_ok v (by decide) a1
  have k2 := num_ok k1.1 a2
  have p1 := once_pl v (by decide) a1
  have p2 := num_pl k1.1 a2
  have p3 : q2.2.2.1 ≤ q3.2.2.1 := num_pl (st := wL q2.2 (setR (sL q2.2) 3 q2.1)) k2.1 a3
  show st.2.1 ≤ q3.2.2.1
  omega
theorem trb_pl {k : Nat} (v : Vs T st) (hk : k = 0 ∨ k = 1) (e : trb T k st = .inr s) : st.2.1 ≤ s.2.1 := by
  unfold trb at e
  obtain ⟨s1, a1, e1⟩ := pb_inv e
  obtain ⟨q2, a2, e2⟩ := pb_inv e1
  obtain ⟨q3, a3, e3⟩ := pb_inv e2
  cases e3
  have hb : 16 * 2 ^ k < 64 := by rcases hk with rfl | rfl <;> decide
  have k1 := once_ok v hb a1
  have k2 := num_ok k1.1 a2
  have p1 := once_pl v hb a1
  have p2 := num_pl k1.1 a2
  have p3 : q2.2.2.1 ≤ q3.2.2.1 := num_pl (st := wL q2.2 (setR (sL q2.2) (7 + 2 * k) q2.1)) k2.1 a3
  show st.2.1 ≤ q3.2.2.1
  omega
theorem body_pl (v : Vs T st) (e : bodyT T st = .inr s) : st.2.1 ≤ s.2.1 := by
  unfold bodyT at e
  split at e
  · exact par_pl v e
  · split at e
    · exact clk_pl v e
    · split at e
      · unfold triedT at e
        obtain ⟨s1, a1, e1⟩ := pb_inv e
        have k1 := adv_ok v a1
        have p1 := adv_pl v a1
        split at e1
        · have := trb_pl k1.1 (Or.inr rfl) e1
          omega
        · split at e1
          · have := trb_pl k1.1 (Or.inl rfl) e1
            omega
          · cases e1
      · split at e
        · exact rule_pl v (by decide) e
        · split at e
          · exact ages_pl v e
          · split at e
            · exact rule_pl v (by decide) e
            · split at e
              · exact rule_pl v (by decide) e
              · cases e
theorem line_pl (v : Vs T st) (h : LdOk (sL st)) (e : lineT T st = .inr s) : st.2.1 < s.2.1 := by
  unfold lineT at e
  obtain ⟨s1, a1, e1⟩ := pb_inv e
  have k1 := body_ok v h a1
  have p1 := body_pl v a1
  unfold stp at e1
  split at e1
  · have a := (adv_sp k1.1.2.1 k1.1.2.2.2.2.1 e1).2.1
    have := k1.1.2.2.1 (by omega)
    omega
  · cases e1
theorem lns_inl {e : Int × Nat} : ∀ f n, lns T f n (.inl e) = .inl e
  | 0, _ => rfl
  | _ + 1, _ => rfl
end
section
variable {m m' : Mem} {B : Bk} {L : Ld} {ch : Cs} {T : Tp} {F N : Int} {I : Nat → Im} {S : Nat → Sht}
theorem RS.cell (h : RS L B ch m) (e : ∀ a k, (a = 96 ∧ k = 20) ∨ (101 ≤ a ∧ a ≤ 103) ∨ a = 107 → m'.1 a k = m.1 a k) (e2 : m'.2 = m.2) : RS L B ch m' := by
  obtain ⟨h1, h2, h3, ⟨b1, b2, b3⟩, h5, h6, h7⟩ := h
  refine ⟨fun a k r q => by rw [e2]; exact h1 a k r q, h2.eq (fun a k q1 q2 => e a k (by omega)), h3, ⟨by rw [e 107 _ (by omega)]; exact b1, fun k hk w hw => by rw [e 107 _ (by omega)]; exact b2 k hk w hw, fun k hk w hw => by rw [e 107 _ (by omega)]; exact b3 k hk w hw⟩, h5, ?_, h7⟩
  rcases h6 with ⟨a, b⟩ | ⟨a, b⟩
  · exact Or.inl ⟨by rw [e 96 20 (by omega)]; exact a, fun c hc j hj => by rw [e 107 _ (by omega)]; exact b c hc j hj⟩
  · exact Or.inr ⟨by rw [e 96 20 (by omega)]; exact a, b⟩
theorem RX.tz {v : Int} (h : RX T F I S N m) (e : ∀ a k, (97 ≤ a ∧ a ≤ 100) ∨ 109 ≤ a ∨ (a = 107 ∧ 660 ≤ k) ∨ (a = 96 ∧ k = 34) → m'.1 a k = m.1 a k) (e1 : m'.1 96 1 = 0) (e2 : m'.1 96 2 = v) (hv : 0 ≤ v ∧ v ≤ 5) : RX TpZ v I S N m' := by
  obtain ⟨⟨-, -, o3⟩, -, g2, g3, g4, g5, k1, k2, k3⟩ := h
  refine ⟨⟨⟨by show 0 ≤ 320; decide, fun k hk => by have : k < 0 := hk; omega⟩, hv, o3⟩, ⟨e1, fun k hk => by have : k < 0 := hk; omega⟩, e2, fun k hk => ?_, fun k hk => ?_, by rw [e 96 34 (by omega)]; exact g5, fun j hj => by rw [e 100 j (by omega)]; exact k1 j hj, fun j hj => by rw [e 98 j (by omega)]; exact k2 j hj, fun j hj => by rw [e 99 j (by omega)]; exact k3 j hj⟩
  · obtain ⟨a1, a2, a3⟩ := g3 k hk
    refine ⟨by rw [e 109 k (by omega)]; exact a1, fun q => ?_, by rw [e 107 _ (by omega)]; exact a3⟩
    obtain ⟨⟨b1, b2, b3⟩, b4⟩ := a2 q
    exact ⟨⟨by rw [e 107 _ (by omega)]; exact b1, fun j hj w hw => by rw [e 107 _ (by omega)]; exact b2 j hj w hw, fun j hj w hw => by rw [e 107 _ (by omega)]; exact b3 j hj w hw⟩, fun c hc j hj => by rw [e 107 _ (by omega)]; exact b4 c hc j hj⟩
  · obtain ⟨a1, a2, a3⟩ := g4 k hk
    exact ⟨by rw [e 110 k (by omega)]; exact a1, fun q => by rw [e 111 k (by omega)]; exact a2 q, fun i hi => by rw [e 112 _ (by omega)]; exact a3 i hi⟩
end
