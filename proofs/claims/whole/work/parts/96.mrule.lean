theorem spd_lt : ∀ s, s < 64 → spd s ≤ 4095 := by decide +kernel
theorem spd_t3 : ∀ s, s < 64 → (s &&& 1 = 0 ∧ spd s / 8 % 2 = 0) ∨ (s &&& 1 ≠ 0 ∧ spd s / 8 % 2 = 1) := by decide +kernel
theorem spd_o3 : ∀ s, s < 64 → spd (s ||| 1) = spd s ||| 2 ^ (3 : Int).toNat := by decide +kernel
theorem spd_t4 : ∀ s, s < 64 → (s &&& 2 = 0 ∧ spd s / 16 % 2 = 0) ∨ (s &&& 2 ≠ 0 ∧ spd s / 16 % 2 = 1) := by decide +kernel
theorem spd_o4 : ∀ s, s < 64 → spd (s ||| 2) = spd s ||| 2 ^ (4 : Int).toNat := by decide +kernel
theorem spd_t5 : ∀ s, s < 64 → (s &&& 4 = 0 ∧ spd s / 32 % 2 = 0) ∨ (s &&& 4 ≠ 0 ∧ spd s / 32 % 2 = 1) := by decide +kernel
theorem spd_o5 : ∀ s, s < 64 → spd (s ||| 4) = spd s ||| 2 ^ (5 : Int).toNat := by decide +kernel
theorem spd_t6 : ∀ s, s < 64 → (s &&& 8 = 0 ∧ spd s / 64 % 2 = 0) ∨ (s &&& 8 ≠ 0 ∧ spd s / 64 % 2 = 1) := by decide +kernel
theorem spd_o6 : ∀ s, s < 64 → spd (s ||| 8) = spd s ||| 2 ^ (6 : Int).toNat := by decide +kernel
theorem spd_t10 : ∀ s, s < 64 → (s &&& 16 = 0 ∧ spd s / 1024 % 2 = 0) ∨ (s &&& 16 ≠ 0 ∧ spd s / 1024 % 2 = 1) := by decide +kernel
theorem spd_o10 : ∀ s, s < 64 → spd (s ||| 16) = spd s ||| 2 ^ (10 : Int).toNat := by decide +kernel
theorem spd_t11 : ∀ s, s < 64 → (s &&& 32 = 0 ∧ spd s / 2048 % 2 = 0) ∨ (s &&& 32 ≠ 0 ∧ spd s / 2048 % 2 = 1) := by decide +kernel
theorem spd_o11 : ∀ s, s < 64 → spd (s ||| 32) = spd s ||| 2 ^ (11 : Int).toNat := by decide +kernel
section
variable {Γ : GX} {m m' m'' : Mem} {T : Tp} {L : Ld} {x : PX St}
theorem MLd.setR {j : Nat} {z : Int} (h : MLd m L) (h2 : 2 ≤ j) : MLd (setI m 104 j z) (setR L j z) := by
  obtain ⟨a, b, c⟩ := h
  refine ⟨fun k hk => ?_, fun p hp w hw => ?_, fun p hp w hw => ?_⟩
  · show (setI m 104 j z).1 104 k = (if k = j then z else L.1 k)
    by_cases q : k = j
    · rw [if_pos q]; simp [setI, q]
    · rw [if_neg q]; simp only [setI]; rw [if_neg (by omega)]; exact a k hk
  · have hq2 : (p : Int) < (if 0 = j then z else L.1 0) := hp
    rw [if_neg (by omega)] at hq2
    simp only [setI]; rw [if_neg (by omega)]; exact b p hq2 w hw
  · have hq2 : (p : Int) < (if 1 = j then z else L.1 1) := hp
    rw [if_neg (by omega)] at hq2
    simp only [setI]; rw [if_neg (by omega)]; exact c p hq2 w hw
theorem MCx.stR {y : PX (Int × St)} {j : Nat} {z : Int} (h : MCx T m (sx y)) (hz : ∀ v s, y = .inr (v, s) → z = v) (h2 : 2 ≤ j) : MCx T (setI m 104 j z) (stR j y) := by
  have e : ∀ k, (setI m 104 j z).1 96 k = m.1 96 k := fun k => by simp [setI]
  cases y with
  | inl q =>
    obtain ⟨h1, h2, h3⟩ := h
    exact ⟨by rw [e]; exact h1, by rw [e]; exact h2, h3⟩
  | inr q =>
    obtain ⟨h1, h2', h3, h4, h5, h6, h7, h8, h9⟩ := h
    have ez := hz q.1 q.2 rfl
    subst ez
    exact ⟨by rw [e]; exact h1, by rw [e]; exact h2', by rw [e]; exact h3, by rw [e]; exact h4, fun w => by rw [e]; exact h5 w, by rw [e]; exact h6, h7, h8.setR h2, LdB.sr h9 h2⟩
theorem MCx.told {e : Int × Nat} {z : Int} (h : MCx T m (.inl e)) : MCx T (setI m 96 18 z) (.inl e) := by
  obtain ⟨h1, h2, h3⟩ := h
  exact ⟨by simp [setI]; exact h1, by simp [setI]; exact h2, h3⟩
/-- a told one: the next token behind it -/
theorem c_X11_nextO (b : Nat) (st : St) (z : Int) (hb : MB T m) (hx : MCa T m st) (h0 : st.2.2.2.1 &&& b = 0) (hbt : b < 64) (hz : z = (spd (st.2.2.2.1 ||| b) : Int)) : C Γ mX11_next2 1 40 0 0 [vr 96] SH (setI m 96 18 z) (QV SH (fun m' => Fn (setI m 96 18 z) m' ∧ MCx T m' (once T b st))) := by
  obtain ⟨g3, g5, g6, g7, g8, g18, v, hL, hB⟩ := hx
  have hs := v.2.2.2.2.1
  have ol : st.2.2.2.1 ||| b < 2 ^ 6 := Nat.or_lt_two_pow (by omega) (by omega)
  have e : once T b st = adv T (st.1, st.2.1, st.2.2.1, st.2.2.2.1 ||| b, st.2.2.2.2) := if_pos h0
  rw [e]
  exact c_X11_next2a (st.1, st.2.1, st.2.2.1, st.2.2.2.1 ||| b, st.2.2.2.2) (hb.fy (Fy.rf.set (by omega))) (by simp [setI]; exact g3) (by simp [setI]; exact g5) (by simp [setI]; exact hz) v.2.1 (show st.2.2.2.1 ||| b < 64 by omega) (hL.eq (fun a k q1 q2 => by simp only [setI]; rw [if_neg (by omega)])) hB
theorem c_X11_readRule3 (st : St) (hb : MB T m) (hx : MCa T m st) : C Γ mX11_readRule 3 120 0 0 [vr 96, vi 3] SH m (QV SH (fun m' => Fy m m' ∧ MCx T m' (ruleT T 1 5 20 2 st))) := by
  refine C_of_R rfl (Nat.le_of_ble_eq_true rfl) ?_
  have hx0 : MCx T m (.inr st) := hx
  have hP := hb.1
  have L33 : ∀ mm, Fy m mm → MCx T mm (once T 1 st) → R Γ mX11_readRule { frames := 3, cells := 0, slots := 0, locals := 120 } 0 0 (QV SH (fun m' => Fy m m' ∧ MCx T m' (ruleT T 1 5 20 2 st))) 0 0 33 [some (vr 96), some (vi 3)] [] SH mm := by
    intro mm fm pm
    have bm := hb.fy fm
    clear hP
    have hP := bm.1
    refine R_iload_n 34 rfl dX11_readRule_33 rfl ?_
    refine R_iconst 35 rfl dX11_readRule_34 ?_
    refine R_icmp_ne 38 54 rfl rfl dX11_readRule_35 (by first | assumption | exact ⟨by omega, by omega⟩) (by first | assumption | exact ⟨by omega, by omega⟩) (fun h35 => ?_) (fun h35 => ?_)
    · exact absurd h35 (by omega)
    refine R_aload_n 39 rfl dX11_readRule_38 rfl ?_
    refine R_getP 15 42 rfl dX11_readRule_39 rfl rfl fl_X11_31 (hP _ _ _ rfl) ?_
    refine R_iconst 43 rfl dX11_readRule_42 ?_
    refine R_aload_n 44 rfl dX11_readRule_43 rfl ?_
    refine R_iconst 45 rfl dX11_readRule_44 ?_
    refine R_bipush 47 rfl dX11_readRule_45 (by decide) ?_
    refine R_callV_I (M' := mX11_number) 50 rfl dX11_readRule_47 ml_X11_108 kmX11_number im_X11_number se_X11_number rfl ⟨by decide, rfl⟩ (c_X11_number 5 20 _ bm pm (fun _ _ => ⟨⟨by omega, by omega⟩, ⟨by omega, by omega⟩⟩)) rfl rfl ⟨Nat.le_of_ble_eq_true rfl, Nat.le_of_ble_eq_true rfl⟩ (Nat.le_of_ble_eq_true rfl) ⟨Nat.le_of_ble_eq_true rfl, Nat.le_of_ble_eq_true rfl⟩ ?_
    rintro z47 m47 h47
    obtain ⟨fn, pn, vn, -⟩ := h47
    have bn := bm.fn fn
    clear hP
    have hP := bn.1
    refine R_iast 2 51 rfl dX11_readRule_50 rfl (by first | rfl | omega) (by decide) (by decide) ?_
    refine R_goto 130 rfl dX11_readRule_51 ?_
    refine R_return dX11_readRule_130 rfl ?_
    rw [rule_x]
    exact QV_mk ⟨(fm.tr fn.y).set (by omega), MCx.stR pn vn (by decide)⟩
  have L29d : ∀ z m1, Fy m m1 → MCx T m1 (.inl (4, st.2.1)) → ¬ st.2.2.2.1 &&& 1 = 0 → R Γ mX11_readRule { frames := 3, cells := 0, slots := 0, locals := 120 } 0 0 (QV SH (fun m' => Fy m m' ∧ MCx T m' (ruleT T 1 5 20 2 st))) 0 0 29 [some (vr 96), some (vi 3)] [] SH (setI m1 96 18 z) := by
    intro z m1 f1 p1 h0
    have eo : once T 1 st = .inl (4, st.2.1) := if_neg h0
    refine R_aload_n 30 rfl dX11_readRule_29 rfl ?_
    refine R_callV_V (M' := mX11_next2) 33 rfl dX11_readRule_30 ml_X11_101 kmX11_next2 im_X11_next2 se_X11_next2 rfl ⟨by decide, rfl⟩ (c_X11_next2 (.inl (4, st.2.1)) (hb.fy (f1.set (by omega))) p1.told) rfl rfl ⟨Nat.le_of_ble_eq_true rfl, Nat.le_of_ble_eq_true rfl⟩ (Nat.le_of_ble_eq_true rfl) ⟨Nat.le_of_ble_eq_true rfl, Nat.le_of_ble_eq_true rfl⟩ ?_
    rintro m30 h30
    obtain ⟨f30, p30⟩ := h30
    exact L33 _ ((f1.set (by omega)).tr f30.y) (by rw [eo]; exact p30)
  have L29a : ∀ z, st.2.2.2.1 &&& 1 = 0 → z = (spd (st.2.2.2.1 ||| 1) : Int) → R Γ mX11_readRule { frames := 3, cells := 0, slots := 0, locals := 120 } 0 0 (QV SH (fun m' => Fy m m' ∧ MCx T m' (ruleT T 1 5 20 2 st))) 0 0 29 [some (vr 96), some (vi 3)] [] SH (setI m 96 18 z) := by
    intro z h0 hz
    refine R_aload_n 30 rfl dX11_readRule_29 rfl ?_
    refine R_callV_V (M' := mX11_next2) 33 rfl dX11_readRule_30 ml_X11_101 kmX11_next2 im_X11_next2 se_X11_next2 rfl ⟨by decide, rfl⟩ (c_X11_nextO 1 st _ hb hx h0 (by decide) hz) rfl rfl ⟨Nat.le_of_ble_eq_true rfl, Nat.le_of_ble_eq_true rfl⟩ (Nat.le_of_ble_eq_true rfl) ⟨Nat.le_of_ble_eq_true rfl, Nat.le_of_ble_eq_true rfl⟩ ?_
    rintro m30 h30
    obtain ⟨f30, p30⟩ := h30
    exact L33 _ ((Fy.rf.set (by omega)).tr f30.y) p30
  have hs := hx.2.2.2.2.2.2.1.2.2.2.2.1
  have g18 := hx.2.2.2.2.2.1
  have sl := spd_lt _ hs
  have st1 := spd_t3 _ hs
  have so := spd_o3 _ hs
  refine R_aload_n 1 rfl dX11_readRule_0 rfl ?_
  refine R_getI 18 4 rfl dX11_readRule_1 rfl rfl fl_X11_115 ?_
  refine R_iload_n 5 rfl dX11_readRule_4 rfl ?_
  refine R_ishr 6 rfl dX11_readRule_5 (by first | assumption | exact ⟨by omega, by omega⟩) (by omega) (by omega) ?_
  refine R_top (b := ((spd st.2.2.2.1 / 8 : Nat) : Int)) (by rw [g18]; show ((spd st.2.2.2.1 : Nat) : Int) / 8 = _; omega) ?_
  refine R_iconst 7 rfl dX11_readRule_6 ?_
  refine R_iand1 8 rfl dX11_readRule_7 ?_
  refine R_iconst 9 rfl dX11_readRule_8 ?_
  refine R_icmp_ne 12 17 rfl rfl dX11_readRule_9 (by first | assumption | exact ⟨by omega, by omega⟩) (by first | assumption | exact ⟨by omega, by omega⟩) (fun h9 => ?_) (fun h9 => ?_)
  · refine R_aload_n 18 rfl dX11_readRule_17 rfl ?_
    refine R_dup 19 rfl dX11_readRule_18 rfl ?_
    refine R_getI 18 22 rfl dX11_readRule_19 rfl rfl fl_X11_115 ?_
    first | rw [e18] | rw [g18]
    refine R_iconst 23 rfl dX11_readRule_22 ?_
    refine R_iload_n 24 rfl dX11_readRule_23 rfl ?_
    refine R_ishl 25 rfl dX11_readRule_24 (by omega) (by omega) ?_
    refine R_iorB 26 rfl dX11_readRule_25 ?_
    refine R_putI 18 29 rfl dX11_readRule_26 rfl rfl fl_X11_115 ?_
    first | exact L29d _ _ f14.y p14 (by omega) | exact L29a _ (by omega) (by rw [so])
  · refine R_aload_n 13 rfl dX11_readRule_12 rfl ?_
    refine R_iconst 14 rfl dX11_readRule_13 ?_
    refine R_callV_V (M' := mX11_fails) 17 rfl dX11_readRule_14 ml_X11_97 kmX11_fails im_X11_fails se_X11_fails rfl ⟨by decide, rfl⟩ (c_X11_fails 4 _ hx0 (by omega)) rfl rfl ⟨Nat.le_of_ble_eq_true rfl, Nat.le_of_ble_eq_true rfl⟩ (Nat.le_of_ble_eq_true rfl) ⟨Nat.le_of_ble_eq_true rfl, Nat.le_of_ble_eq_true rfl⟩ ?_
    rintro m14 h14
    obtain ⟨f14, p14⟩ := h14
    have e18 : m14.1 96 18 = (spd st.2.2.2.1 : Int) := (f14.1 _ _ (by omega)).trans g18
    refine R_aload_n 18 rfl dX11_readRule_17 rfl ?_
    refine R_dup 19 rfl dX11_readRule_18 rfl ?_
    refine R_getI 18 22 rfl dX11_readRule_19 rfl rfl fl_X11_115 ?_
    first | rw [e18] | rw [g18]
    refine R_iconst 23 rfl dX11_readRule_22 ?_
    refine R_iload_n 24 rfl dX11_readRule_23 rfl ?_
    refine R_ishl 25 rfl dX11_readRule_24 (by omega) (by omega) ?_
    refine R_iorB 26 rfl dX11_readRule_25 ?_
    refine R_putI 18 29 rfl dX11_readRule_26 rfl rfl fl_X11_115 ?_
    first | exact L29d _ _ f14.y p14 (by omega) | exact L29a _ (by omega) (by rw [so])
theorem c_X11_readRule5 (st : St) (hb : MB T m) (hx : MCa T m st) : C Γ mX11_readRule 3 120 0 0 [vr 96, vi 5] SH m (QV SH (fun m' => Fy m m' ∧ MCx T m' (ruleT T 4 0 999 5 st))) := by
  refine C_of_R rfl (Nat.le_of_ble_eq_true rfl) ?_
  have hx0 : MCx T m (.inr st) := hx
  have hP := hb.1
  have L33 : ∀ mm, Fy m mm → MCx T mm (once T 4 st) → R Γ mX11_readRule { frames := 3, cells := 0, slots := 0, locals := 120 } 0 0 (QV SH (fun m' => Fy m m' ∧ MCx T m' (ruleT T 4 0 999 5 st))) 0 0 33 [some (vr 96), some (vi 5)] [] SH mm := by
    intro mm fm pm
    have bm := hb.fy fm
    clear hP
    have hP := bm.1
    refine R_iload_n 34 rfl dX11_readRule_33 rfl ?_
    refine R_iconst 35 rfl dX11_readRule_34 ?_
    refine R_icmp_ne 38 54 rfl rfl dX11_readRule_35 (by first | assumption | exact ⟨by omega, by omega⟩) (by first | assumption | exact ⟨by omega, by omega⟩) (fun h35 => ?_) (fun h35 => ?_)
    rotate_left
    · exact absurd h35 (by omega)
    refine R_iload_n 55 rfl dX11_readRule_54 rfl ?_
    refine R_iconst 56 rfl dX11_readRule_55 ?_
    refine R_icmp_ne 59 94 rfl rfl dX11_readRule_56 (by first | assumption | exact ⟨by omega, by omega⟩) (by first | assumption | exact ⟨by omega, by omega⟩) (fun h56 => ?_) (fun h56 => ?_)
    rotate_left
    · exact absurd h56 (by omega)
    refine R_iload_n 95 rfl dX11_readRule_94 rfl ?_
    refine R_iconst 96 rfl dX11_readRule_95 ?_
    refine R_icmp_ne 99 116 rfl rfl dX11_readRule_96 (by first | assumption | exact ⟨by omega, by omega⟩) (by first | assumption | exact ⟨by omega, by omega⟩) (fun h96 => ?_) (fun h96 => ?_)
    · exact absurd h96 (by omega)
    refine R_aload_n 100 rfl dX11_readRule_99 rfl ?_
    refine R_getP 15 103 rfl dX11_readRule_100 rfl rfl fl_X11_31 (hP _ _ _ rfl) ?_
    refine R_iconst 104 rfl dX11_readRule_103 ?_
    refine R_aload_n 105 rfl dX11_readRule_104 rfl ?_
    refine R_iconst 106 rfl dX11_readRule_105 ?_
    refine R_sipush 109 rfl dX11_readRule_106 (by decide) ?_
    refine R_callV_I (M' := mX11_number) 112 rfl dX11_readRule_109 ml_X11_108 kmX11_number im_X11_number se_X11_number rfl ⟨by decide, rfl⟩ (c_X11_number 0 999 _ bm pm (fun _ _ => ⟨⟨by omega, by omega⟩, ⟨by omega, by omega⟩⟩)) rfl rfl ⟨Nat.le_of_ble_eq_true rfl, Nat.le_of_ble_eq_true rfl⟩ (Nat.le_of_ble_eq_true rfl) ⟨Nat.le_of_ble_eq_true rfl, Nat.le_of_ble_eq_true rfl⟩ ?_
    rintro z109 m109 h109
    obtain ⟨fn, pn, vn, -⟩ := h109
    have bn := bm.fn fn
    clear hP
    have hP := bn.1
    refine R_iast 5 113 rfl dX11_readRule_112 rfl (by first | rfl | omega) (by decide) (by decide) ?_
    refine R_goto 130 rfl dX11_readRule_113 ?_
    refine R_return dX11_readRule_130 rfl ?_
    rw [rule_x]
    exact QV_mk ⟨(fm.tr fn.y).set (by omega), MCx.stR pn vn (by decide)⟩
  have L29d : ∀ z m1, Fy m m1 → MCx T m1 (.inl (4, st.2.1)) → ¬ st.2.2.2.1 &&& 4 = 0 → R Γ mX11_readRule { frames := 3, cells := 0, slots := 0, locals := 120 } 0 0 (QV SH (fun m' => Fy m m' ∧ MCx T m' (ruleT T 4 0 999 5 st))) 0 0 29 [some (vr 96), some (vi 5)] [] SH (setI m1 96 18 z) := by
    intro z m1 f1 p1 h0
    have eo : once T 4 st = .inl (4, st.2.1) := if_neg h0
    refine R_aload_n 30 rfl dX11_readRule_29 rfl ?_
    refine R_callV_V (M' := mX11_next2) 33 rfl dX11_readRule_30 ml_X11_101 kmX11_next2 im_X11_next2 se_X11_next2 rfl ⟨by decide, rfl⟩ (c_X11_next2 (.inl (4, st.2.1)) (hb.fy (f1.set (by omega))) p1.told) rfl rfl ⟨Nat.le_of_ble_eq_true rfl, Nat.le_of_ble_eq_true rfl⟩ (Nat.le_of_ble_eq_true rfl) ⟨Nat.le_of_ble_eq_true rfl, Nat.le_of_ble_eq_true rfl⟩ ?_
    rintro m30 h30
    obtain ⟨f30, p30⟩ := h30
    exact L33 _ ((f1.set (by omega)).tr f30.y) (by rw [eo]; exact p30)
  have L29a : ∀ z, st.2.2.2.1 &&& 4 = 0 → z = (spd (st.2.2.2.1 ||| 4) : Int) → R Γ mX11_readRule { frames := 3, cells := 0, slots := 0, locals := 120 } 0 0 (QV SH (fun m' => Fy m m' ∧ MCx T m' (ruleT T 4 0 999 5 st))) 0 0 29 [some (vr 96), some (vi 5)] [] SH (setI m 96 18 z) := by
    intro z h0 hz
    refine R_aload_n 30 rfl dX11_readRule_29 rfl ?_
    refine R_callV_V (M' := mX11_next2) 33 rfl dX11_readRule_30 ml_X11_101 kmX11_next2 im_X11_next2 se_X11_next2 rfl ⟨by decide, rfl⟩ (c_X11_nextO 4 st _ hb hx h0 (by decide) hz) rfl rfl ⟨Nat.le_of_ble_eq_true rfl, Nat.le_of_ble_eq_true rfl⟩ (Nat.le_of_ble_eq_true rfl) ⟨Nat.le_of_ble_eq_true rfl, Nat.le_of_ble_eq_true rfl⟩ ?_
    rintro m30 h30
    obtain ⟨f30, p30⟩ := h30
    exact L33 _ ((Fy.rf.set (by omega)).tr f30.y) p30
  have hs := hx.2.2.2.2.2.2.1.2.2.2.2.1
  have g18 := hx.2.2.2.2.2.1
  have sl := spd_lt _ hs
  have st1 := spd_t5 _ hs
  have so := spd_o5 _ hs
  refine R_aload_n 1 rfl dX11_readRule_0 rfl ?_
  refine R_getI 18 4 rfl dX11_readRule_1 rfl rfl fl_X11_115 ?_
  refine R_iload_n 5 rfl dX11_readRule_4 rfl ?_
  refine R_ishr 6 rfl dX11_readRule_5 (by first | assumption | exact ⟨by omega, by omega⟩) (by omega) (by omega) ?_
  refine R_top (b := ((spd st.2.2.2.1 / 32 : Nat) : Int)) (by rw [g18]; show ((spd st.2.2.2.1 : Nat) : Int) / 32 = _; omega) ?_
  refine R_iconst 7 rfl dX11_readRule_6 ?_
  refine R_iand1 8 rfl dX11_readRule_7 ?_
  refine R_iconst 9 rfl dX11_readRule_8 ?_
  refine R_icmp_ne 12 17 rfl rfl dX11_readRule_9 (by first | assumption | exact ⟨by omega, by omega⟩) (by first | assumption | exact ⟨by omega, by omega⟩) (fun h9 => ?_) (fun h9 => ?_)
  · refine R_aload_n 18 rfl dX11_readRule_17 rfl ?_
    refine R_dup 19 rfl dX11_readRule_18 rfl ?_
    refine R_getI 18 22 rfl dX11_readRule_19 rfl rfl fl_X11_115 ?_
    first | rw [e18] | rw [g18]
    refine R_iconst 23 rfl dX11_readRule_22 ?_
    refine R_iload_n 24 rfl dX11_readRule_23 rfl ?_
    refine R_ishl 25 rfl dX11_readRule_24 (by omega) (by omega) ?_
    refine R_iorB 26 rfl dX11_readRule_25 ?_
    refine R_putI 18 29 rfl dX11_readRule_26 rfl rfl fl_X11_115 ?_
    first | exact L29d _ _ f14.y p14 (by omega) | exact L29a _ (by omega) (by rw [so])
  · refine R_aload_n 13 rfl dX11_readRule_12 rfl ?_
    refine R_iconst 14 rfl dX11_readRule_13 ?_
    refine R_callV_V (M' := mX11_fails) 17 rfl dX11_readRule_14 ml_X11_97 kmX11_fails im_X11_fails se_X11_fails rfl ⟨by decide, rfl⟩ (c_X11_fails 4 _ hx0 (by omega)) rfl rfl ⟨Nat.le_of_ble_eq_true rfl, Nat.le_of_ble_eq_true rfl⟩ (Nat.le_of_ble_eq_true rfl) ⟨Nat.le_of_ble_eq_true rfl, Nat.le_of_ble_eq_true rfl⟩ ?_
    rintro m14 h14
    obtain ⟨f14, p14⟩ := h14
    have e18 : m14.1 96 18 = (spd st.2.2.2.1 : Int) := (f14.1 _ _ (by omega)).trans g18
    refine R_aload_n 18 rfl dX11_readRule_17 rfl ?_
    refine R_dup 19 rfl dX11_readRule_18 rfl ?_
    refine R_getI 18 22 rfl dX11_readRule_19 rfl rfl fl_X11_115 ?_
    first | rw [e18] | rw [g18]
    refine R_iconst 23 rfl dX11_readRule_22 ?_
    refine R_iload_n 24 rfl dX11_readRule_23 rfl ?_
    refine R_ishl 25 rfl dX11_readRule_24 (by omega) (by omega) ?_
    refine R_iorB 26 rfl dX11_readRule_25 ?_
    refine R_putI 18 29 rfl dX11_readRule_26 rfl rfl fl_X11_115 ?_
    first | exact L29d _ _ f14.y p14 (by omega) | exact L29a _ (by omega) (by rw [so])
theorem c_X11_readRule6 (st : St) (hb : MB T m) (hx : MCa T m st) : C Γ mX11_readRule 3 120 0 0 [vr 96, vi 6] SH m (QV SH (fun m' => Fy m m' ∧ MCx T m' (ruleT T 8 0 8 6 st))) := by
  refine C_of_R rfl (Nat.le_of_ble_eq_true rfl) ?_
  have hx0 : MCx T m (.inr st) := hx
  have hP := hb.1
  have L33 : ∀ mm, Fy m mm → MCx T mm (once T 8 st) → R Γ mX11_readRule { frames := 3, cells := 0, slots := 0, locals := 120 } 0 0 (QV SH (fun m' => Fy m m' ∧ MCx T m' (ruleT T 8 0 8 6 st))) 0 0 33 [some (vr 96), some (vi 6)] [] SH mm := by
    intro mm fm pm
    have bm := hb.fy fm
    clear hP
    have hP := bm.1
    refine R_iload_n 34 rfl dX11_readRule_33 rfl ?_
    refine R_iconst 35 rfl dX11_readRule_34 ?_
    refine R_icmp_ne 38 54 rfl rfl dX11_readRule_35 (by first | assumption | exact ⟨by omega, by omega⟩) (by first | assumption | exact ⟨by omega, by omega⟩) (fun h35 => ?_) (fun h35 => ?_)
    rotate_left
    · exact absurd h35 (by omega)
    refine R_iload_n 55 rfl dX11_readRule_54 rfl ?_
    refine R_iconst 56 rfl dX11_readRule_55 ?_
    refine R_icmp_ne 59 94 rfl rfl dX11_readRule_56 (by first | assumption | exact ⟨by omega, by omega⟩) (by first | assumption | exact ⟨by omega, by omega⟩) (fun h56 => ?_) (fun h56 => ?_)
    rotate_left
    · exact absurd h56 (by omega)
    refine R_iload_n 95 rfl dX11_readRule_94 rfl ?_
    refine R_iconst 96 rfl dX11_readRule_95 ?_
    refine R_icmp_ne 99 116 rfl rfl dX11_readRule_96 (by first | assumption | exact ⟨by omega, by omega⟩) (by first | assumption | exact ⟨by omega, by omega⟩) (fun h96 => ?_) (fun h96 => ?_)
    rotate_left
    · exact absurd h96 (by omega)
    refine R_aload_n 117 rfl dX11_readRule_116 rfl ?_
    refine R_getP 15 120 rfl dX11_readRule_117 rfl rfl fl_X11_31 (hP _ _ _ rfl) ?_
    refine R_bipush 122 rfl dX11_readRule_120 (by decide) ?_
    refine R_aload_n 123 rfl dX11_readRule_122 rfl ?_
    refine R_iconst 124 rfl dX11_readRule_123 ?_
    refine R_bipush 126 rfl dX11_readRule_124 (by decide) ?_
    refine R_callV_I (M' := mX11_number) 129 rfl dX11_readRule_126 ml_X11_108 kmX11_number im_X11_number se_X11_number rfl ⟨by decide, rfl⟩ (c_X11_number 0 8 _ bm pm (fun _ _ => ⟨⟨by omega, by omega⟩, ⟨by omega, by omega⟩⟩)) rfl rfl ⟨Nat.le_of_ble_eq_true rfl, Nat.le_of_ble_eq_true rfl⟩ (Nat.le_of_ble_eq_true rfl) ⟨Nat.le_of_ble_eq_true rfl, Nat.le_of_ble_eq_true rfl⟩ ?_
    rintro z126 m126 h126
    obtain ⟨fn, pn, vn, -⟩ := h126
    have bn := bm.fn fn
    clear hP
    have hP := bn.1
    refine R_iast 6 130 rfl dX11_readRule_129 rfl (by first | rfl | omega) (by decide) (by decide) ?_
    refine R_return dX11_readRule_130 rfl ?_
    rw [rule_x]
    exact QV_mk ⟨(fm.tr fn.y).set (by omega), MCx.stR pn vn (by decide)⟩
  have L29d : ∀ z m1, Fy m m1 → MCx T m1 (.inl (4, st.2.1)) → ¬ st.2.2.2.1 &&& 8 = 0 → R Γ mX11_readRule { frames := 3, cells := 0, slots := 0, locals := 120 } 0 0 (QV SH (fun m' => Fy m m' ∧ MCx T m' (ruleT T 8 0 8 6 st))) 0 0 29 [some (vr 96), some (vi 6)] [] SH (setI m1 96 18 z) := by
    intro z m1 f1 p1 h0
    have eo : once T 8 st = .inl (4, st.2.1) := if_neg h0
    refine R_aload_n 30 rfl dX11_readRule_29 rfl ?_
    refine R_callV_V (M' := mX11_next2) 33 rfl dX11_readRule_30 ml_X11_101 kmX11_next2 im_X11_next2 se_X11_next2 rfl ⟨by decide, rfl⟩ (c_X11_next2 (.inl (4, st.2.1)) (hb.fy (f1.set (by omega))) p1.told) rfl rfl ⟨Nat.le_of_ble_eq_true rfl, Nat.le_of_ble_eq_true rfl⟩ (Nat.le_of_ble_eq_true rfl) ⟨Nat.le_of_ble_eq_true rfl, Nat.le_of_ble_eq_true rfl⟩ ?_
    rintro m30 h30
    obtain ⟨f30, p30⟩ := h30
    exact L33 _ ((f1.set (by omega)).tr f30.y) (by rw [eo]; exact p30)
  have L29a : ∀ z, st.2.2.2.1 &&& 8 = 0 → z = (spd (st.2.2.2.1 ||| 8) : Int) → R Γ mX11_readRule { frames := 3, cells := 0, slots := 0, locals := 120 } 0 0 (QV SH (fun m' => Fy m m' ∧ MCx T m' (ruleT T 8 0 8 6 st))) 0 0 29 [some (vr 96), some (vi 6)] [] SH (setI m 96 18 z) := by
    intro z h0 hz
    refine R_aload_n 30 rfl dX11_readRule_29 rfl ?_
    refine R_callV_V (M' := mX11_next2) 33 rfl dX11_readRule_30 ml_X11_101 kmX11_next2 im_X11_next2 se_X11_next2 rfl ⟨by decide, rfl⟩ (c_X11_nextO 8 st _ hb hx h0 (by decide) hz) rfl rfl ⟨Nat.le_of_ble_eq_true rfl, Nat.le_of_ble_eq_true rfl⟩ (Nat.le_of_ble_eq_true rfl) ⟨Nat.le_of_ble_eq_true rfl, Nat.le_of_ble_eq_true rfl⟩ ?_
    rintro m30 h30
    obtain ⟨f30, p30⟩ := h30
    exact L33 _ ((Fy.rf.set (by omega)).tr f30.y) p30
  have hs := hx.2.2.2.2.2.2.1.2.2.2.2.1
  have g18 := hx.2.2.2.2.2.1
  have sl := spd_lt _ hs
  have st1 := spd_t6 _ hs
  have so := spd_o6 _ hs
  refine R_aload_n 1 rfl dX11_readRule_0 rfl ?_
  refine R_getI 18 4 rfl dX11_readRule_1 rfl rfl fl_X11_115 ?_
  refine R_iload_n 5 rfl dX11_readRule_4 rfl ?_
  refine R_ishr 6 rfl dX11_readRule_5 (by first | assumption | exact ⟨by omega, by omega⟩) (by omega) (by omega) ?_
  refine R_top (b := ((spd st.2.2.2.1 / 64 : Nat) : Int)) (by rw [g18]; show ((spd st.2.2.2.1 : Nat) : Int) / 64 = _; omega) ?_
  refine R_iconst 7 rfl dX11_readRule_6 ?_
  refine R_iand1 8 rfl dX11_readRule_7 ?_
  refine R_iconst 9 rfl dX11_readRule_8 ?_
  refine R_icmp_ne 12 17 rfl rfl dX11_readRule_9 (by first | assumption | exact ⟨by omega, by omega⟩) (by first | assumption | exact ⟨by omega, by omega⟩) (fun h9 => ?_) (fun h9 => ?_)
  · refine R_aload_n 18 rfl dX11_readRule_17 rfl ?_
    refine R_dup 19 rfl dX11_readRule_18 rfl ?_
    refine R_getI 18 22 rfl dX11_readRule_19 rfl rfl fl_X11_115 ?_
    first | rw [e18] | rw [g18]
    refine R_iconst 23 rfl dX11_readRule_22 ?_
    refine R_iload_n 24 rfl dX11_readRule_23 rfl ?_
    refine R_ishl 25 rfl dX11_readRule_24 (by omega) (by omega) ?_
    refine R_iorB 26 rfl dX11_readRule_25 ?_
    refine R_putI 18 29 rfl dX11_readRule_26 rfl rfl fl_X11_115 ?_
    first | exact L29d _ _ f14.y p14 (by omega) | exact L29a _ (by omega) (by rw [so])
  · refine R_aload_n 13 rfl dX11_readRule_12 rfl ?_
    refine R_iconst 14 rfl dX11_readRule_13 ?_
    refine R_callV_V (M' := mX11_fails) 17 rfl dX11_readRule_14 ml_X11_97 kmX11_fails im_X11_fails se_X11_fails rfl ⟨by decide, rfl⟩ (c_X11_fails 4 _ hx0 (by omega)) rfl rfl ⟨Nat.le_of_ble_eq_true rfl, Nat.le_of_ble_eq_true rfl⟩ (Nat.le_of_ble_eq_true rfl) ⟨Nat.le_of_ble_eq_true rfl, Nat.le_of_ble_eq_true rfl⟩ ?_
    rintro m14 h14
    obtain ⟨f14, p14⟩ := h14
    have e18 : m14.1 96 18 = (spd st.2.2.2.1 : Int) := (f14.1 _ _ (by omega)).trans g18
    refine R_aload_n 18 rfl dX11_readRule_17 rfl ?_
    refine R_dup 19 rfl dX11_readRule_18 rfl ?_
    refine R_getI 18 22 rfl dX11_readRule_19 rfl rfl fl_X11_115 ?_
    first | rw [e18] | rw [g18]
    refine R_iconst 23 rfl dX11_readRule_22 ?_
    refine R_iload_n 24 rfl dX11_readRule_23 rfl ?_
    refine R_ishl 25 rfl dX11_readRule_24 (by omega) (by omega) ?_
    refine R_iorB 26 rfl dX11_readRule_25 ?_
    refine R_putI 18 29 rfl dX11_readRule_26 rfl rfl fl_X11_115 ?_
    first | exact L29d _ _ f14.y p14 (by omega) | exact L29a _ (by omega) (by rw [so])
theorem c_X11_readRule4 (st : St) (hb : MB T m) (hx : MCa T m st) : C Γ mX11_readRule 3 120 0 0 [vr 96, vi 4] SH m (QV SH (fun m' => Fy m m' ∧ MCx T m' (agesT T st))) := by
  refine C_of_R rfl (Nat.le_of_ble_eq_true rfl) ?_
  have hx0 : MCx T m (.inr st) := hx
  have hP := hb.1
  have L33 : ∀ mm, Fy m mm → MCx T mm (once T 2 st) → R Γ mX11_readRule { frames := 3, cells := 0, slots := 0, locals := 120 } 0 0 (QV SH (fun m' => Fy m m' ∧ MCx T m' (agesT T st))) 0 0 33 [some (vr 96), some (vi 4)] [] SH mm := by
    intro mm fm pm
    have bm := hb.fy fm
    clear hP
    have hP := bm.1
    refine R_iload_n 34 rfl dX11_readRule_33 rfl ?_
    refine R_iconst 35 rfl dX11_readRule_34 ?_
    refine R_icmp_ne 38 54 rfl rfl dX11_readRule_35 (by first | assumption | exact ⟨by omega, by omega⟩) (by first | assumption | exact ⟨by omega, by omega⟩) (fun h35 => ?_) (fun h35 => ?_)
    rotate_left
    · exact absurd h35 (by omega)
    refine R_iload_n 55 rfl dX11_readRule_54 rfl ?_
    refine R_iconst 56 rfl dX11_readRule_55 ?_
    refine R_icmp_ne 59 94 rfl rfl dX11_readRule_56 (by first | assumption | exact ⟨by omega, by omega⟩) (by first | assumption | exact ⟨by omega, by omega⟩) (fun h56 => ?_) (fun h56 => ?_)
    · exact absurd h56 (by omega)
    refine R_aload_n 60 rfl dX11_readRule_59 rfl ?_
    refine R_getP 15 63 rfl dX11_readRule_60 rfl rfl fl_X11_31 (hP _ _ _ rfl) ?_
    refine R_iconst 64 rfl dX11_readRule_63 ?_
    refine R_aload_n 65 rfl dX11_readRule_64 rfl ?_
    refine R_bipush 67 rfl dX11_readRule_65 (by decide) ?_
    refine R_bipush 69 rfl dX11_readRule_67 (by decide) ?_
    refine R_callV_I (M' := mX11_number) 72 rfl dX11_readRule_69 ml_X11_108 kmX11_number im_X11_number se_X11_number rfl ⟨by decide, rfl⟩ (c_X11_number 16 60 _ bm pm (fun _ _ => ⟨⟨by omega, by omega⟩, ⟨by omega, by omega⟩⟩)) rfl rfl ⟨Nat.le_of_ble_eq_true rfl, Nat.le_of_ble_eq_true rfl⟩ (Nat.le_of_ble_eq_true rfl) ⟨Nat.le_of_ble_eq_true rfl, Nat.le_of_ble_eq_true rfl⟩ ?_
    rintro z69 m69 h69
    obtain ⟨f69, p69, v69, r69⟩ := h69
    have b69 := bm.fn f69
    have bs : MB T (setI m69 104 3 z69) := b69.fy (Fy.rf.set (by omega))
    have ps : MCx T (setI m69 104 3 z69) (stR 3 (pb (once T 2 st) (num T 16 60))) := MCx.stR p69 v69 (by decide)
    clear hP
    have hP := b69.1
    refine R_iast 3 73 rfl dX11_readRule_72 rfl (by first | rfl | omega) (by decide) (by decide) ?_
    refine R_aload_n 74 rfl dX11_readRule_73 rfl ?_
    refine R_getP 15 77 rfl dX11_readRule_74 rfl rfl fl_X11_31 (hP _ _ _ rfl) ?_
    refine R_iconst 78 rfl dX11_readRule_77 ?_
    refine R_aload_n 79 rfl dX11_readRule_78 rfl ?_
    refine R_aload_n 80 rfl dX11_readRule_79 rfl ?_
    refine R_getP 15 83 rfl dX11_readRule_80 rfl rfl fl_X11_31 (hP _ _ _ rfl) ?_
    refine R_iconst 84 rfl dX11_readRule_83 ?_
    refine R_iald 3 85 rfl dX11_readRule_84 rfl (by first | rfl | omega) (by decide) (by decide) ?_
    refine R_top (b := z69) (by simp [setI]) ?_
    refine R_bipush 87 rfl dX11_readRule_85 (by decide) ?_
    refine R_callV_I (M' := mX11_number) 90 rfl dX11_readRule_87 ml_X11_108 kmX11_number im_X11_number se_X11_number rfl ⟨by decide, rfl⟩ (c_X11_number z69 60 _ bs ps (fun _ _ => ⟨⟨by omega, by omega⟩, ⟨by omega, by omega⟩⟩)) rfl rfl ⟨Nat.le_of_ble_eq_true rfl, Nat.le_of_ble_eq_true rfl⟩ (Nat.le_of_ble_eq_true rfl) ⟨Nat.le_of_ble_eq_true rfl, Nat.le_of_ble_eq_true rfl⟩ ?_
    rintro z87 m87 h87
    obtain ⟨f87, p87, v87, -⟩ := h87
    rw [num_st (fun z => z) v69] at p87 v87
    clear hP
    have hP := (bs.fn f87).1
    refine R_iast 4 91 rfl dX11_readRule_90 rfl (by first | rfl | omega) (by decide) (by decide) ?_
    refine R_goto 130 rfl dX11_readRule_91 ?_
    refine R_return dX11_readRule_130 rfl ?_
    rw [ages_x]
    exact QV_mk ⟨(((fm.tr f69.y).set (by omega)).tr f87.y).set (by omega), MCx.stR p87 v87 (by decide)⟩
  have L29d : ∀ z m1, Fy m m1 → MCx T m1 (.inl (4, st.2.1)) → ¬ st.2.2.2.1 &&& 2 = 0 → R Γ mX11_readRule { frames := 3, cells := 0, slots := 0, locals := 120 } 0 0 (QV SH (fun m' => Fy m m' ∧ MCx T m' (agesT T st))) 0 0 29 [some (vr 96), some (vi 4)] [] SH (setI m1 96 18 z) := by
    intro z m1 f1 p1 h0
    have eo : once T 2 st = .inl (4, st.2.1) := if_neg h0
    refine R_aload_n 30 rfl dX11_readRule_29 rfl ?_
    refine R_callV_V (M' := mX11_next2) 33 rfl dX11_readRule_30 ml_X11_101 kmX11_next2 im_X11_next2 se_X11_next2 rfl ⟨by decide, rfl⟩ (c_X11_next2 (.inl (4, st.2.1)) (hb.fy (f1.set (by omega))) p1.told) rfl rfl ⟨Nat.le_of_ble_eq_true rfl, Nat.le_of_ble_eq_true rfl⟩ (Nat.le_of_ble_eq_true rfl) ⟨Nat.le_of_ble_eq_true rfl, Nat.le_of_ble_eq_true rfl⟩ ?_
    rintro m30 h30
    obtain ⟨f30, p30⟩ := h30
    exact L33 _ ((f1.set (by omega)).tr f30.y) (by rw [eo]; exact p30)
  have L29a : ∀ z, st.2.2.2.1 &&& 2 = 0 → z = (spd (st.2.2.2.1 ||| 2) : Int) → R Γ mX11_readRule { frames := 3, cells := 0, slots := 0, locals := 120 } 0 0 (QV SH (fun m' => Fy m m' ∧ MCx T m' (agesT T st))) 0 0 29 [some (vr 96), some (vi 4)] [] SH (setI m 96 18 z) := by
    intro z h0 hz
    refine R_aload_n 30 rfl dX11_readRule_29 rfl ?_
    refine R_callV_V (M' := mX11_next2) 33 rfl dX11_readRule_30 ml_X11_101 kmX11_next2 im_X11_next2 se_X11_next2 rfl ⟨by decide, rfl⟩ (c_X11_nextO 2 st _ hb hx h0 (by decide) hz) rfl rfl ⟨Nat.le_of_ble_eq_true rfl, Nat.le_of_ble_eq_true rfl⟩ (Nat.le_of_ble_eq_true rfl) ⟨Nat.le_of_ble_eq_true rfl, Nat.le_of_ble_eq_true rfl⟩ ?_
    rintro m30 h30
    obtain ⟨f30, p30⟩ := h30
    exact L33 _ ((Fy.rf.set (by omega)).tr f30.y) p30
  have hs := hx.2.2.2.2.2.2.1.2.2.2.2.1
  have g18 := hx.2.2.2.2.2.1
  have sl := spd_lt _ hs
  have st1 := spd_t4 _ hs
  have so := spd_o4 _ hs
  refine R_aload_n 1 rfl dX11_readRule_0 rfl ?_
  refine R_getI 18 4 rfl dX11_readRule_1 rfl rfl fl_X11_115 ?_
  refine R_iload_n 5 rfl dX11_readRule_4 rfl ?_
  refine R_ishr 6 rfl dX11_readRule_5 (by first | assumption | exact ⟨by omega, by omega⟩) (by omega) (by omega) ?_
  refine R_top (b := ((spd st.2.2.2.1 / 16 : Nat) : Int)) (by rw [g18]; show ((spd st.2.2.2.1 : Nat) : Int) / 16 = _; omega) ?_
  refine R_iconst 7 rfl dX11_readRule_6 ?_
  refine R_iand1 8 rfl dX11_readRule_7 ?_
  refine R_iconst 9 rfl dX11_readRule_8 ?_
  refine R_icmp_ne 12 17 rfl rfl dX11_readRule_9 (by first | assumption | exact ⟨by omega, by omega⟩) (by first | assumption | exact ⟨by omega, by omega⟩) (fun h9 => ?_) (fun h9 => ?_)
  · refine R_aload_n 18 rfl dX11_readRule_17 rfl ?_
    refine R_dup 19 rfl dX11_readRule_18 rfl ?_
    refine R_getI 18 22 rfl dX11_readRule_19 rfl rfl fl_X11_115 ?_
    first | rw [e18] | rw [g18]
    refine R_iconst 23 rfl dX11_readRule_22 ?_
    refine R_iload_n 24 rfl dX11_readRule_23 rfl ?_
    refine R_ishl 25 rfl dX11_readRule_24 (by omega) (by omega) ?_
    refine R_iorB 26 rfl dX11_readRule_25 ?_
    refine R_putI 18 29 rfl dX11_readRule_26 rfl rfl fl_X11_115 ?_
    first | exact L29d _ _ f14.y p14 (by omega) | exact L29a _ (by omega) (by rw [so])
  · refine R_aload_n 13 rfl dX11_readRule_12 rfl ?_
    refine R_iconst 14 rfl dX11_readRule_13 ?_
    refine R_callV_V (M' := mX11_fails) 17 rfl dX11_readRule_14 ml_X11_97 kmX11_fails im_X11_fails se_X11_fails rfl ⟨by decide, rfl⟩ (c_X11_fails 4 _ hx0 (by omega)) rfl rfl ⟨Nat.le_of_ble_eq_true rfl, Nat.le_of_ble_eq_true rfl⟩ (Nat.le_of_ble_eq_true rfl) ⟨Nat.le_of_ble_eq_true rfl, Nat.le_of_ble_eq_true rfl⟩ ?_
    rintro m14 h14
    obtain ⟨f14, p14⟩ := h14
    have e18 : m14.1 96 18 = (spd st.2.2.2.1 : Int) := (f14.1 _ _ (by omega)).trans g18
    refine R_aload_n 18 rfl dX11_readRule_17 rfl ?_
    refine R_dup 19 rfl dX11_readRule_18 rfl ?_
    refine R_getI 18 22 rfl dX11_readRule_19 rfl rfl fl_X11_115 ?_
    first | rw [e18] | rw [g18]
    refine R_iconst 23 rfl dX11_readRule_22 ?_
    refine R_iload_n 24 rfl dX11_readRule_23 rfl ?_
    refine R_ishl 25 rfl dX11_readRule_24 (by omega) (by omega) ?_
    refine R_iorB 26 rfl dX11_readRule_25 ?_
    refine R_putI 18 29 rfl dX11_readRule_26 rfl rfl fl_X11_115 ?_
    first | exact L29d _ _ f14.y p14 (by omega) | exact L29a _ (by omega) (by rw [so])
end
