theorem nmF_sp {T : Tp} {st : St} : ∀ f j, (∃ k, j ≤ k ∧ k < j + f ∧ nmF T st f j = (k : Int) ∧ isW T k st = true) ∨ (nmF T st f j = -4 ∧ ∀ k, j ≤ k → k < j + f → ¬ isW T k st = true)
  | 0, j => Or.inr ⟨rfl, fun k h1 h2 => by omega⟩
  | f + 1, j => by
    have e : nmF T st (f + 1) j = if isW T j st = true then (j : Int) else nmF T st f (j + 1) := rfl
    by_cases h : isW T j st = true
    · rw [if_pos h] at e
      exact Or.inl ⟨j, Nat.le_refl _, by omega, e, h⟩
    · rw [if_neg h] at e
      rw [e]
      rcases nmF_sp f (j + 1) with ⟨k, k1, k2, k3, k4⟩ | ⟨k3, k4⟩
      · exact Or.inl ⟨k, by omega, by omega, k3, k4⟩
      · refine Or.inr ⟨k3, fun k h1 h2 => ?_⟩
        by_cases q : k = j
        · rw [q]; exact h
        · exact k4 k (by omega) (by omega)
theorem wd_df : ∀ j, j < 12 → ∀ k, k < 12 → lenJS.getD j 0 = lenJS.getD k 0 → (∀ i, i < lenJS.getD j 0 → ltr j i = ltr k i) → j = k := by decide
theorem isW_one {T : Tp} {st : St} {j k : Nat} (hj : j < 12) (hk : k < 12) (h1 : isW T j st = true) (h2 : isW T k st = true) : j = k := by
  obtain ⟨a1, a2, a3⟩ := isW_iff.mp h1
  obtain ⟨b1, b2, b3⟩ := isW_iff.mp h2
  exact wd_df j hj k hk (a2.symm.trans b2) (fun i hi => by
    rw [← a3 i hi, ← b3 i (by omega)])
theorem nm_iff {T : Tp} {st : St} {j : Nat} (hj : j < 12) : nm T st = (j : Int) ↔ isW T j st = true := by
  unfold nm
  rcases nmF_sp (T := T) (st := st) 12 0 with ⟨k, k1, k2, k3, k4⟩ | ⟨k3, k4⟩
  · constructor
    · intro h
      have : k = j := by omega
      rw [← this]; exact k4
    · intro h
      rw [k3, isW_one hj (by omega) h k4]
  · constructor
    · intro h; omega
    · intro h; exact absurd h (k4 j (by omega) (by omega))
theorem nm_rg {T : Tp} {st : St} : -4 ≤ nm T st ∧ nm T st ≤ 11 := by
  unfold nm
  rcases nmF_sp (T := T) (st := st) 12 0 with ⟨k, k1, k2, k3, k4⟩ | ⟨k3, k4⟩ <;> omega
section
variable {Γ : GX} {m m' m'' : Mem} {T : Tp} {L : Ld} {x : PX St}
theorem c_X11_yearBehind (j : Nat) (x : PX St) (hj : j < 12) (hb : MB T m) (hx : MCx T m x) : C Γ mX11_yearBehind 3 120 0 0 [vr 96, vi (j : Int)] SH m (QI SH (fun z m' => Fn m m' ∧ MCx T m' (sx (pb x (yr T j))) ∧ (∀ v s, pb x (yr T j) = .inr (v, s) → z = v))) := by
  refine C_of_R rfl (Nat.le_of_ble_eq_true rfl) ?_
  have hx0 := hx
  cases x with
  | inl e =>
    have g3 := hx.1
    have g1 := hx.2.2
    refine R_aload_n 1 rfl dX11_yearBehind_0 rfl ?_
    refine R_getI 3 4 rfl dX11_yearBehind_1 rfl rfl fl_X11_67 ?_
    refine R_if_gt 7 15 rfl rfl dX11_yearBehind_4 (by first | assumption | exact ⟨by omega, by omega⟩) (fun h4 => ?_) (fun h4 => ?_)
    · refine R_bipush 17 rfl dX11_yearBehind_15 (by decide) ?_
      refine R_ireturn dX11_yearBehind_17 rfl ?_
      exact QI_mk ⟨Fn.rf, hx0, fun v s q => by simp [pb] at q⟩
    · exfalso; omega
  | inr st =>
    have g3 := hx.1
    have ni := nm_iff (T := T) (st := st) hj
    have nr := nm_rg (T := T) (st := st)
    refine R_aload_n 1 rfl dX11_yearBehind_0 rfl ?_
    refine R_getI 3 4 rfl dX11_yearBehind_1 rfl rfl fl_X11_67 ?_
    refine R_if_gt 7 15 rfl rfl dX11_yearBehind_4 (by first | assumption | exact ⟨by omega, by omega⟩) (fun h4 => ?_) (fun h4 => ?_)
    · refine R_bipush 17 rfl dX11_yearBehind_15 (by decide) ?_
      refine R_ireturn dX11_yearBehind_17 rfl ?_
      first
      | (exfalso; omega)
      | (have nw : ¬ isWx T j (.inr st) = true := fun w => by
           have := ni.mpr w
           omega
         have y := yr_n nw
         refine QI_mk ⟨Fn.rf, ?_, y.2⟩
         rw [y.1]
         exact hx0)
      | (have w : isWx T j (.inr st) = true := ni.mp (by omega)
         rw [yr_y w]
         exact QI_mk ⟨f19.tr f26, p26, v26⟩)
    · refine R_aload_n 8 rfl dX11_yearBehind_7 rfl ?_
      refine R_callV_i (M' := mX11_nameHere) 11 rfl dX11_yearBehind_8 ml_X11_104 kmX11_nameHere im_X11_nameHere se_X11_nameHere rfl ⟨by decide, rfl⟩ (c_X11_nameHere st hb hx) rfl rfl ⟨Nat.le_of_ble_eq_true rfl, Nat.le_of_ble_eq_true rfl⟩ (Nat.le_of_ble_eq_true rfl) ⟨Nat.le_of_ble_eq_true rfl, Nat.le_of_ble_eq_true rfl⟩ ?_
      refine R_iload_n 12 rfl dX11_yearBehind_11 rfl ?_
      refine R_icmp_eq 15 18 rfl rfl dX11_yearBehind_12 (by first | assumption | exact ⟨by omega, by omega⟩) (by first | assumption | exact ⟨by omega, by omega⟩) (fun h12 => ?_) (fun h12 => ?_)
      · refine R_aload_n 19 rfl dX11_yearBehind_18 rfl ?_
        refine R_callV_V (M' := mX11_next2) 22 rfl dX11_yearBehind_19 ml_X11_101 kmX11_next2 im_X11_next2 se_X11_next2 rfl ⟨by decide, rfl⟩ (c_X11_next2 _ hb hx0) rfl rfl ⟨Nat.le_of_ble_eq_true rfl, Nat.le_of_ble_eq_true rfl⟩ (Nat.le_of_ble_eq_true rfl) ⟨Nat.le_of_ble_eq_true rfl, Nat.le_of_ble_eq_true rfl⟩ ?_
        rintro m19 h19
        obtain ⟨f19, p19⟩ := h19
        refine R_aload_n 23 rfl dX11_yearBehind_22 rfl ?_
        refine R_iconst 24 rfl dX11_yearBehind_23 ?_
        refine R_bipush 26 rfl dX11_yearBehind_24 (by decide) ?_
        refine R_callV_I (M' := mX11_number) 29 rfl dX11_yearBehind_26 ml_X11_108 kmX11_number im_X11_number se_X11_number rfl ⟨by decide, rfl⟩ (c_X11_number 0 89 _ (hb.fn f19) p19 (fun _ _ => ⟨⟨by omega, by omega⟩, ⟨by omega, by omega⟩⟩)) rfl rfl ⟨Nat.le_of_ble_eq_true rfl, Nat.le_of_ble_eq_true rfl⟩ (Nat.le_of_ble_eq_true rfl) ⟨Nat.le_of_ble_eq_true rfl, Nat.le_of_ble_eq_true rfl⟩ ?_
        rintro z26 m26 h26
        obtain ⟨f26, p26, v26, -⟩ := h26
        refine R_ireturn dX11_yearBehind_29 rfl ?_
        first
        | (exfalso; omega)
        | (have nw : ¬ isWx T j (.inr st) = true := fun w => by
             have := ni.mpr w
             omega
           have y := yr_n nw
           refine QI_mk ⟨Fn.rf, ?_, y.2⟩
           rw [y.1]
           exact hx0)
        | (have w : isWx T j (.inr st) = true := ni.mp (by omega)
           rw [yr_y w]
           exact QI_mk ⟨f19.tr f26, p26, v26⟩)
      · refine R_bipush 17 rfl dX11_yearBehind_15 (by decide) ?_
        refine R_ireturn dX11_yearBehind_17 rfl ?_
        first
        | (exfalso; omega)
        | (have nw : ¬ isWx T j (.inr st) = true := fun w => by
             have := ni.mpr w
             omega
           have y := yr_n nw
           refine QI_mk ⟨Fn.rf, ?_, y.2⟩
           rw [y.1]
           exact hx0)
        | (have w : isWx T j (.inr st) = true := ni.mp (by omega)
           rw [yr_y w]
           exact QI_mk ⟨f19.tr f26, p26, v26⟩)
end
