/-- what the steps keep: seen and land -/
def kp (T : Tp) (st : St) (x : PX St) : Prop := ∀ s, x = .inr s → s.2.2.2 = st.2.2.2 ∧ Vs T s ∧ st.2.1 ≤ s.2.1
theorem adv_kp {T : Tp} {st s : St} (v : Vs T s) (hk : s.2.2.2 = st.2.2.2) (hp : st.2.1 ≤ s.2.1) : kp T st (adv T s) := fun s' h => by
  obtain ⟨a, b, c⟩ := adv_sp v.2.1 v.2.2.2.2.1 h
  have := v.1
  exact ⟨c.trans hk, a, by omega⟩
theorem kp_adv {T : Tp} {st : St} {x : PX St} (h : kp T st x) : kp T st (pb x (adv T)) := fun s' e => by
  obtain ⟨s, h1, h2⟩ := pb_inv e
  obtain ⟨a, b, c⟩ := h s h1
  exact adv_kp b a c s' h2
theorem kp_num {T : Tp} {st : St} {x : PX St} {lo hi : Int} (h : kp T st x) : kp T st (sx (pb x (num T lo hi))) := fun s' e => by
  obtain ⟨q, h1, h2⟩ := pb_inv e
  cases h2
  obtain ⟨s, h3, h4⟩ := pb_inv h1
  obtain ⟨a, b, c⟩ := h s h3
  unfold num at h4
  split at h4
  · split at h4
    · obtain ⟨s2, h5, h6⟩ := pb_inv h4
      cases h6
      exact adv_kp b a c s2 h5
    · cases h4
  · cases h4
theorem kp_wd {T : Tp} {st : St} {x : PX St} {i : Nat} (h : kp T st x) : kp T st (sx (pb x (wd T i))) := fun s' e => by
  obtain ⟨q, h1, h2⟩ := pb_inv e
  cases h2
  obtain ⟨s, h3, h4⟩ := pb_inv h1
  obtain ⟨a, b, c⟩ := h s h3
  unfold wd at h4
  split at h4
  · obtain ⟨s2, h5, h6⟩ := pb_inv h4
    cases h6
    exact adv_kp b a c s2 h5
  · cases h4
    exact ⟨a, b, c⟩
theorem kp_yr {T : Tp} {st : St} {x : PX St} {i : Nat} (h : kp T st x) : kp T st (sx (pb x (yr T i))) := fun s' e => by
  obtain ⟨q, h1, h2⟩ := pb_inv e
  cases h2
  obtain ⟨s, h3, h4⟩ := pb_inv h1
  obtain ⟨a, b, c⟩ := h s h3
  unfold yr at h4
  split at h4
  · have k1 := adv_kp b a c
    have k2 := kp_num (lo := 0) (hi := 89) k1
    exact k2 q.2 (by unfold sx; rw [h4]; rfl)
  · cases h4
    exact ⟨a, b, c⟩
theorem wd_x {T : Tp} {x : PX St} {i : Nat} : (if isWx T i x = true then pb x (adv T) else x) = sx (pb x (wd T i)) ∧ ∀ v s, pb x (wd T i) = .inr (v, s) → pI (isWx T i x = true) = v := by
  cases x with
  | inl e => exact ⟨by simp [isWx, pb, sx], fun v s q => by simp [pb] at q⟩
  | inr s0 =>
    have e : pb (.inr s0 : PX St) (wd T i) = if isW T i s0 = true then pb (adv T s0) (fun s => .inr (1, s)) else .inr (0, s0) := rfl
    by_cases h : isW T i s0 = true
    · have h2 : isWx T i (.inr s0) = true := h
      rw [if_pos h2, e, if_pos h]
      refine ⟨?_, fun v s q => ?_⟩
      · show adv T s0 = _
        cases adv T s0 <;> rfl
      · rw [pI_t h2]
        obtain ⟨s1, k1, k2⟩ := pb_inv q
        cases k2
        rfl
    · have h2 : ¬ isWx T i (.inr s0) = true := h
      rw [if_neg h2, e, if_neg h]
      refine ⟨rfl, fun v s q => ?_⟩
      cases q
      exact pI_f h2
theorem yr_y {T : Tp} {x : PX St} {i : Nat} (h : isWx T i x = true) : pb x (yr T i) = pb (pb x (adv T)) (num T 0 89) := by
  cases x with
  | inl e => rfl
  | inr s0 =>
    have h2 : isW T i s0 = true := h
    show yr T i s0 = pb (adv T s0) (num T 0 89)
    unfold yr
    rw [if_pos h2]
theorem yr_n {T : Tp} {x : PX St} {i : Nat} (h : ¬ isWx T i x = true) : sx (pb x (yr T i)) = x ∧ ∀ v s, pb x (yr T i) = .inr (v, s) → (-4 : Int) = v := by
  cases x with
  | inl e => exact ⟨rfl, fun v s q => by simp [pb] at q⟩
  | inr s0 =>
    have h2 : ¬ isW T i s0 = true := h
    have e : pb (.inr s0 : PX St) (yr T i) = .inr (-4, s0) := by
      show yr T i s0 = _
      unfold yr
      rw [if_neg h2]
    rw [e]
    exact ⟨rfl, fun v s q => by cases q; rfl⟩
section
variable {Γ : GX} {m m' : Mem} {T : Tp} {o d : Nat} {P : Nat → Bool} {x : PX St}
theorem c_X5_takeOnce (b : Nat) (st : St) (hbt : b < 64) (hb : PCb o d T m) (hx : PCa T d m st) : C Γ mX5_takeOnce 3 120 0 0 [vr 3, vi (b : Int)] SH m (QV SH (fun m' => Fr is3 m m' ∧ PCx T d m' (once T b st))) := by
  refine C_of_R rfl (Nat.le_of_ble_eq_true rfl) ?_
  have hx0 : PCx T d m (.inr st) := hx
  obtain ⟨g2, g3, g4, g5, g6, g7, v, hL, hB⟩ := hx
  have hs := v.2.2.2.2.1
  have al : st.2.2.2.1 &&& b < 64 := Nat.lt_of_le_of_lt Nat.and_le_left hs
  have ol : st.2.2.2.1 ||| b < 2 ^ 6 := Nat.or_lt_two_pow (by omega) (by omega)
  have f1 : Fr is3 m (setI m 3 6 ((st.2.2.2.1 ||| b : Nat) : Int)) := Fr.rf.set rfl
  refine R_aload_n 1 rfl dX5_takeOnce_0 rfl ?_
  refine R_getI 6 4 rfl dX5_takeOnce_1 rfl rfl fl_X5_28 ?_
  rw [g6]
  refine R_iload_n 5 rfl dX5_takeOnce_4 rfl ?_
  refine R_iand 6 rfl dX5_takeOnce_5 ?_
  refine R_if_eq 9 15 rfl rfl dX5_takeOnce_6 (by first | assumption | exact ⟨by omega, by omega⟩) (fun h6 => ?_) (fun h6 => ?_)
  · refine R_aload_n 16 rfl dX5_takeOnce_15 rfl ?_
    refine R_dup 17 rfl dX5_takeOnce_16 rfl ?_
    refine R_getI 6 20 rfl dX5_takeOnce_17 rfl rfl fl_X5_28 ?_
    rw [g6]
    refine R_iload_n 21 rfl dX5_takeOnce_20 rfl ?_
    refine R_ior 22 rfl dX5_takeOnce_21 ?_
    refine R_putI 6 25 rfl dX5_takeOnce_22 rfl rfl fl_X5_28 ?_
    refine R_aload_n 26 rfl dX5_takeOnce_25 rfl ?_
    refine R_callV_V (M' := mX5_advance) 29 rfl dX5_takeOnce_26 ml_X5_37 kmX5_advance im_X5_advance se_X5_advance rfl ⟨by decide, rfl⟩ (c_X5_advance (st.1, st.2.1, st.2.2.1, st.2.2.2.1 ||| b, st.2.2.2.2) (hb.fr f1 rfl rfl) (by simp [setI]; exact g2) (by simp [setI]) (by simp [setI]; exact g7) v.2.1 (show st.2.2.2.1 ||| b < 64 by omega) (hL.fr f1 is3_L) hB) rfl rfl ⟨Nat.le_of_ble_eq_true rfl, Nat.le_of_ble_eq_true rfl⟩ (Nat.le_of_ble_eq_true rfl) ⟨Nat.le_of_ble_eq_true rfl, Nat.le_of_ble_eq_true rfl⟩ ?_
    rintro m26 h26
    obtain ⟨f26, p26⟩ := h26
    refine R_return dX5_takeOnce_29 rfl ?_
    have e : once T b st = adv T (st.1, st.2.1, st.2.2.1, st.2.2.2.1 ||| b, st.2.2.2.2) := if_pos (by omega)
    rw [e]
    exact QV_mk ⟨f1.tr f26, p26⟩
  · refine R_aload_n 10 rfl dX5_takeOnce_9 rfl ?_
    refine R_iconst 11 rfl dX5_takeOnce_10 ?_
    refine R_callV_V (M' := mX5_refuse) 14 rfl dX5_takeOnce_11 ml_X5_93 kmX5_refuse im_X5_refuse se_X5_refuse rfl ⟨by decide, rfl⟩ (c_X5_refuse 4 _ hx0 (by omega)) rfl rfl ⟨Nat.le_of_ble_eq_true rfl, Nat.le_of_ble_eq_true rfl⟩ (Nat.le_of_ble_eq_true rfl) ⟨Nat.le_of_ble_eq_true rfl, Nat.le_of_ble_eq_true rfl⟩ ?_
    rintro m11 h11
    obtain ⟨f11, p11⟩ := h11
    refine R_return dX5_takeOnce_14 rfl ?_
    have e : once T b st = .inl (4, st.2.1) := if_neg (by omega)
    rw [e]
    exact QV_mk ⟨f11, p11⟩
theorem c_X5_takeStop (x : PX St) (hb : PCb o d T m) (hx : PCx T d m x) : C Γ mX5_takeStop 3 120 0 0 [vr 3] SH m (QV SH (fun m' => Fr is3 m m' ∧ PCx T d m' (pb x (stp T)))) := by
  refine C_of_R rfl (Nat.le_of_ble_eq_true rfl) ?_
  have hx0 := hx
  cases x with
  | inl e =>
    have g3 : m.1 3 3 = 0 := hx.2.2.1
    refine R_aload_n 1 rfl dX5_takeStop_0 rfl ?_
    refine R_getI 3 4 rfl dX5_takeStop_1 rfl rfl fl_X5_40 ?_
    refine R_iconst 5 rfl dX5_takeStop_4 ?_
    refine R_icmp_eq 8 14 rfl rfl dX5_takeStop_5 (by first | assumption | exact ⟨by omega, by omega⟩) (by first | assumption | exact ⟨by omega, by omega⟩) (fun h5 => ?_) (fun h5 => ?_)
    · exfalso; omega
    · refine R_aload_n 9 rfl dX5_takeStop_8 rfl ?_
      refine R_iconst 10 rfl dX5_takeStop_9 ?_
      refine R_callV_V (M' := mX5_refuse) 13 rfl dX5_takeStop_10 ml_X5_93 kmX5_refuse im_X5_refuse se_X5_refuse rfl ⟨by decide, rfl⟩ (c_X5_refuse 2 _ hx0 (by omega)) rfl rfl ⟨Nat.le_of_ble_eq_true rfl, Nat.le_of_ble_eq_true rfl⟩ (Nat.le_of_ble_eq_true rfl) ⟨Nat.le_of_ble_eq_true rfl, Nat.le_of_ble_eq_true rfl⟩ ?_
      rintro m10 h10
      obtain ⟨f10, p10⟩ := h10
      refine R_return dX5_takeStop_13 rfl ?_
      exact QV_mk ⟨f10, p10⟩
  | inr st =>
    obtain ⟨g2, g3, g4, g5, g6, g7, v, hL, hB⟩ := hx
    have v4 := v.2.2.2.1
    refine R_aload_n 1 rfl dX5_takeStop_0 rfl ?_
    refine R_getI 3 4 rfl dX5_takeStop_1 rfl rfl fl_X5_40 ?_
    refine R_iconst 5 rfl dX5_takeStop_4 ?_
    refine R_icmp_eq 8 14 rfl rfl dX5_takeStop_5 (by first | assumption | exact ⟨by omega, by omega⟩) (by first | assumption | exact ⟨by omega, by omega⟩) (fun h5 => ?_) (fun h5 => ?_)
    · refine R_aload_n 15 rfl dX5_takeStop_14 rfl ?_
      refine R_callV_V (M' := mX5_advance) 18 rfl dX5_takeStop_15 ml_X5_37 kmX5_advance im_X5_advance se_X5_advance rfl ⟨by decide, rfl⟩ (c_X5_advance st hb g2 g6 g7 v.2.1 v.2.2.2.2.1 hL hB) rfl rfl ⟨Nat.le_of_ble_eq_true rfl, Nat.le_of_ble_eq_true rfl⟩ (Nat.le_of_ble_eq_true rfl) ⟨Nat.le_of_ble_eq_true rfl, Nat.le_of_ble_eq_true rfl⟩ ?_
      rintro m15 h15
      obtain ⟨f15, p15⟩ := h15
      refine R_return dX5_takeStop_18 rfl ?_
      have e : pb (.inr st : PX St) (stp T) = adv T st := if_pos (by omega)
      rw [e]
      exact QV_mk ⟨f15, p15⟩
    · refine R_aload_n 9 rfl dX5_takeStop_8 rfl ?_
      refine R_iconst 10 rfl dX5_takeStop_9 ?_
      refine R_callV_V (M' := mX5_refuse) 13 rfl dX5_takeStop_10 ml_X5_93 kmX5_refuse im_X5_refuse se_X5_refuse rfl ⟨by decide, rfl⟩ (c_X5_refuse 2 _ hx0 (by omega)) rfl rfl ⟨Nat.le_of_ble_eq_true rfl, Nat.le_of_ble_eq_true rfl⟩ (Nat.le_of_ble_eq_true rfl) ⟨Nat.le_of_ble_eq_true rfl, Nat.le_of_ble_eq_true rfl⟩ ?_
      rintro m10 h10
      obtain ⟨f10, p10⟩ := h10
      refine R_return dX5_takeStop_13 rfl ?_
      have e : pb (.inr st : PX St) (stp T) = .inl (2, st.2.1) := if_neg (by omega)
      rw [e]
      exact QV_mk ⟨f10, p10⟩
end
