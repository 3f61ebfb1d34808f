/-! the constructors -/
section
variable {Γ : GX} {M M' : MD} {rm : Room} {mc ms : Nat} {Q : Option AV → Shp → Mem → Prop} {k n pc : Nat} {loc : List (Option AV)} {st rest : List AV} {S S1 : Shp} {m m1 : Mem} {P : Mem → Prop} {ix nA fr lo mc' ms' o : Nat}
theorem R_callI_v (q k' n' : Nat) (hq : pc + 3 = q) (hd : decode M.2.1 pc = .ok (.invokespecial ix, 3)) (hl : Cond.methodLink M.1.cls ix M'.1 ∈ TW) (hk : KM M' nA) (him : Cond.instanceMethod M'.1 ∈ TW) (hini : M'.1.name = "<init>") (hrt : M'.2.2.2 = none) (hs : o < S.1) (hcn : C Γ M' fr lo mc' ms' [vr o] S m (Qv S1 m1)) (hst : st = vr o :: rest) (hn : 0 = nA) (hrm : fr + 1 ≤ rm.frames ∧ 8 + (M'.2.2.1 + 11) + lo ≤ rm.locals) (hk' : k + mc' = k') (hn' : n + ms' = n') (hal : k' ≤ rm.cells ∧ n' ≤ rm.slots) (hrest : (rest.map catN).sum ≤ 8)
    (kk : R Γ M rm mc ms Q k' n' q loc rest S1 m1) : R Γ M rm mc ms Q k n pc loc st S m := by
  subst hk' hn'
  refine R_callI (as := []) q hq hd hl hk him hini hrt hs hcn hst hn hrm hal hrest (fun r S' m' h => ?_)
  obtain ⟨h1, h2, h3⟩ := h
  subst h1 h2 h3
  exact kk
theorem R_callI_V (q k' n' : Nat) (hq : pc + 3 = q) (hd : decode M.2.1 pc = .ok (.invokespecial ix, 3)) (hl : Cond.methodLink M.1.cls ix M'.1 ∈ TW) (hk : KM M' nA) (him : Cond.instanceMethod M'.1 ∈ TW) (hini : M'.1.name = "<init>") (hrt : M'.2.2.2 = none) (hs : o < S.1) (hcn : C Γ M' fr lo mc' ms' [vr o] S m (QV S1 P)) (hst : st = vr o :: rest) (hn : 0 = nA) (hrm : fr + 1 ≤ rm.frames ∧ 8 + (M'.2.2.1 + 11) + lo ≤ rm.locals) (hk' : k + mc' = k') (hn' : n + ms' = n') (hal : k' ≤ rm.cells ∧ n' ≤ rm.slots) (hrest : (rest.map catN).sum ≤ 8)
    (kk : ∀ m1, P m1 → R Γ M rm mc ms Q k' n' q loc rest S1 m1) : R Γ M rm mc ms Q k n pc loc st S m := by
  subst hk' hn'
  refine R_callI (as := []) q hq hd hl hk him hini hrt hs hcn hst hn hrm hal hrest (fun r S' m' h => ?_)
  obtain ⟨h1, h2, h3⟩ := h
  subst h1 h2
  exact kk m' h3
end
def mi0 (m : Mem) (o : Nat) : Mem := setP (newG (setP (newG (setI m o 0 0) (o + 1) 3) o 1 (some (o + 1))) (o + 5) 5) o 2 (some (o + 5))
def mi1 (m : Mem) (o : Nat) : Mem := chM m o 0 0 89 3 255
def mi2 (m : Mem) (o : Nat) : Mem := setP (mi1 (newM (setP (mi1 (newM (setP (mi0 (newM (setI m o 0 0) (o + 1)) (o + 1)) o 1 (some (o + 1))) (o + 12)) (o + 12)) o 2 (some (o + 12))) (o + 13)) (o + 13)) o 3 (some (o + 13))
def mi3 (m : Mem) (o : Nat) : Mem := setP (newM (setP (newM (setI m o 0 1) (o + 1)) o 1 (some (o + 1))) (o + 2)) o 2 (some (o + 2))
def clM (m : Mem) (o : Nat) : Mem := setI (setI (setI (setI (setI (setI (setI (setI (setI (setI (setI m o 0 0) o 1 0) o 2 11) o 3 20) o 4 35) o 5 0) o 6 1) (o + 1) 0 0) (o + 1) 1 1) (o + 1) 2 1) (o + 1) 3 1
def mi4 (m : Mem) (o : Nat) : Mem := clM (setP (newG (setP (newG (setP (newM m (o + 1)) o 7 (some (o + 1))) (o + 2) 4) o 8 (some (o + 2))) (o + 7) 5) o 9 (some (o + 7))) o
def mi6 (m : Mem) (o : Nat) : Mem := setI (setI m o 0 0) o 1 1
def mi7 (m : Mem) (o : Nat) : Mem := setP (newM (setI (setI m o 0 (-1)) o 1 0) (o + 1)) o 2 (some (o + 1))
def mi8 (m : Mem) (o : Nat) : Mem := setI (setP (newM (setP (newM m (o + 1)) o 0 (some (o + 1))) (o + 2)) o 1 (some (o + 2))) o 2 0
def mi9 (m : Mem) (o : Nat) : Mem := setI (setP (newM m (o + 1)) o 0 (some (o + 1))) o 1 0
section
variable {Γ : GX} {m m' : Mem} {S : Shp}
theorem k_X1_become (x : Nat) (p f t s r : Int) (hs : shp S x = some (1, 5)) : C Γ mX1_become 0 0 0 0 [vr x, vi p, vi f, vi t, vi s, vi r] S m (Qv S (chM m x p f t s r)) := by
  refine C_of_R rfl (Nat.le_of_ble_eq_true rfl) ?_
  refine R_aload_n 1 rfl dX1_become_0 rfl ?_
  refine R_iload_n 2 rfl dX1_become_1 rfl ?_
  refine R_putI 0 5 rfl dX1_become_2 hs rfl fl_X1_19 ?_
  refine R_aload_n 6 rfl dX1_become_5 rfl ?_
  refine R_iload_n 7 rfl dX1_become_6 rfl ?_
  refine R_putI 1 10 rfl dX1_become_7 hs rfl fl_X1_23 ?_
  refine R_aload_n 11 rfl dX1_become_10 rfl ?_
  refine R_iload_n 12 rfl dX1_become_11 rfl ?_
  refine R_putI 2 15 rfl dX1_become_12 hs rfl fl_X1_26 ?_
  refine R_aload_n 16 rfl dX1_become_15 rfl ?_
  refine R_iload 18 rfl dX1_become_16 rfl ?_
  refine R_putI 3 21 rfl dX1_become_18 hs rfl fl_X1_29 ?_
  refine R_aload_n 22 rfl dX1_become_21 rfl ?_
  refine R_iload 24 rfl dX1_become_22 rfl ?_
  refine R_putI 4 27 rfl dX1_become_24 hs rfl fl_X1_32 ?_
  refine R_return dX1_become_27 rfl ?_
  exact Qv_mk rfl
theorem k_X1_becomeAll (x : Nat) (p : Int) (hs : shp S x = some (1, 5)) : C Γ mX1_becomeAll 1 40 0 0 [vr x, vi p] S m (Qv S (chM m x p 0 89 3 255)) := by
  refine C_of_R rfl (Nat.le_of_ble_eq_true rfl) ?_
  refine R_aload_n 1 rfl dX1_becomeAll_0 rfl ?_
  refine R_iload_n 2 rfl dX1_becomeAll_1 rfl ?_
  refine R_iconst 3 rfl dX1_becomeAll_2 ?_
  refine R_bipush 5 rfl dX1_becomeAll_3 (by decide) ?_
  refine R_iconst 6 rfl dX1_becomeAll_5 ?_
  refine R_sipush 9 rfl dX1_becomeAll_6 (by decide) ?_
  refine R_callV_v (M' := mX1_become) 12 rfl dX1_becomeAll_9 ml_X1_15 kmX1_become im_X1_become se_X1_become hs ⟨by decide, rfl⟩ (k_X1_become x _ _ _ _ _ hs) rfl rfl ⟨Nat.le_of_ble_eq_true rfl, Nat.le_of_ble_eq_true rfl⟩ (Nat.le_of_ble_eq_true rfl) ⟨Nat.le_of_ble_eq_true rfl, Nat.le_of_ble_eq_true rfl⟩ ?_
  refine R_return dX1_becomeAll_12 rfl ?_
  exact Qv_mk rfl
theorem k_X0_init30 : C Γ mX0_init 1 40 10 528 [vr 30] (31, shF) m (Qv (41, shF) (mi0 m 30)) := by
  refine C_of_R rfl (Nat.le_of_ble_eq_true rfl) ?_
  refine R_aload_n 1 rfl dX0_init_0 rfl ?_
  refine R_objInit 4 rfl dX0_init_1 ml_X0_3 (by decide) ⟨Nat.le_of_ble_eq_true rfl, Nat.le_of_ble_eq_true rfl⟩ ?_
  refine R_aload_n 5 rfl dX0_init_4 rfl ?_
  refine R_iconst 6 rfl dX0_init_5 ?_
  refine R_putI 0 9 rfl dX0_init_6 rfl rfl fl_X0_9 ?_
  refine R_aload_n 10 rfl dX0_init_9 rfl ?_
  refine R_iconst 11 rfl dX0_init_10 ?_
  refine R_bipush 13 rfl dX0_init_11 (by decide) ?_
  refine R_manew 3 40 17 35 4 123 rfl dX0_init_13 cl_X0_15 rfl rfl rfl (by decide) (by decide) rfl (by decide) rfl rfl ⟨Nat.le_of_ble_eq_true rfl, Nat.le_of_ble_eq_true rfl⟩ ?_
  refine R_putFP 1 20 rfl dX0_init_17 rfl rfl fl_X0_17 rfl rfl ?_
  refine R_aload_n 21 rfl dX0_init_20 rfl ?_
  refine R_iconst 22 rfl dX0_init_21 ?_
  refine R_bipush 24 rfl dX0_init_22 (by decide) ?_
  refine R_manew 5 80 28 41 10 528 rfl dX0_init_24 cl_X0_15 rfl rfl rfl (by decide) (by decide) rfl (by decide) rfl rfl ⟨Nat.le_of_ble_eq_true rfl, Nat.le_of_ble_eq_true rfl⟩ ?_
  refine R_putFP 2 31 rfl dX0_init_28 rfl rfl fl_X0_20 rfl rfl ?_
  refine R_return dX0_init_31 rfl ?_
  exact Qv_mk rfl
theorem k_X0_init49 : C Γ mX0_init 1 40 10 528 [vr 49] (50, shF) m (Qv (60, shF) (mi0 m 49)) := by
  refine C_of_R rfl (Nat.le_of_ble_eq_true rfl) ?_
  refine R_aload_n 1 rfl dX0_init_0 rfl ?_
  refine R_objInit 4 rfl dX0_init_1 ml_X0_3 (by decide) ⟨Nat.le_of_ble_eq_true rfl, Nat.le_of_ble_eq_true rfl⟩ ?_
  refine R_aload_n 5 rfl dX0_init_4 rfl ?_
  refine R_iconst 6 rfl dX0_init_5 ?_
  refine R_putI 0 9 rfl dX0_init_6 rfl rfl fl_X0_9 ?_
  refine R_aload_n 10 rfl dX0_init_9 rfl ?_
  refine R_iconst 11 rfl dX0_init_10 ?_
  refine R_bipush 13 rfl dX0_init_11 (by decide) ?_
  refine R_manew 3 40 17 54 4 123 rfl dX0_init_13 cl_X0_15 rfl rfl rfl (by decide) (by decide) rfl (by decide) rfl rfl ⟨Nat.le_of_ble_eq_true rfl, Nat.le_of_ble_eq_true rfl⟩ ?_
  refine R_putFP 1 20 rfl dX0_init_17 rfl rfl fl_X0_17 rfl rfl ?_
  refine R_aload_n 21 rfl dX0_init_20 rfl ?_
  refine R_iconst 22 rfl dX0_init_21 ?_
  refine R_bipush 24 rfl dX0_init_22 (by decide) ?_
  refine R_manew 5 80 28 60 10 528 rfl dX0_init_24 cl_X0_15 rfl rfl rfl (by decide) (by decide) rfl (by decide) rfl rfl ⟨Nat.le_of_ble_eq_true rfl, Nat.le_of_ble_eq_true rfl⟩ ?_
  refine R_putFP 2 31 rfl dX0_init_28 rfl rfl fl_X0_20 rfl rfl ?_
  refine R_return dX0_init_31 rfl ?_
  exact Qv_mk rfl
theorem k_X0_init63 : C Γ mX0_init 1 40 10 528 [vr 63] (64, shF) m (Qv (74, shF) (mi0 m 63)) := by
  refine C_of_R rfl (Nat.le_of_ble_eq_true rfl) ?_
  refine R_aload_n 1 rfl dX0_init_0 rfl ?_
  refine R_objInit 4 rfl dX0_init_1 ml_X0_3 (by decide) ⟨Nat.le_of_ble_eq_true rfl, Nat.le_of_ble_eq_true rfl⟩ ?_
  refine R_aload_n 5 rfl dX0_init_4 rfl ?_
  refine R_iconst 6 rfl dX0_init_5 ?_
  refine R_putI 0 9 rfl dX0_init_6 rfl rfl fl_X0_9 ?_
  refine R_aload_n 10 rfl dX0_init_9 rfl ?_
  refine R_iconst 11 rfl dX0_init_10 ?_
  refine R_bipush 13 rfl dX0_init_11 (by decide) ?_
  refine R_manew 3 40 17 68 4 123 rfl dX0_init_13 cl_X0_15 rfl rfl rfl (by decide) (by decide) rfl (by decide) rfl rfl ⟨Nat.le_of_ble_eq_true rfl, Nat.le_of_ble_eq_true rfl⟩ ?_
  refine R_putFP 1 20 rfl dX0_init_17 rfl rfl fl_X0_17 rfl rfl ?_
  refine R_aload_n 21 rfl dX0_init_20 rfl ?_
  refine R_iconst 22 rfl dX0_init_21 ?_
  refine R_bipush 24 rfl dX0_init_22 (by decide) ?_
  refine R_manew 5 80 28 74 10 528 rfl dX0_init_24 cl_X0_15 rfl rfl rfl (by decide) (by decide) rfl (by decide) rfl rfl ⟨Nat.le_of_ble_eq_true rfl, Nat.le_of_ble_eq_true rfl⟩ ?_
  refine R_putFP 2 31 rfl dX0_init_28 rfl rfl fl_X0_20 rfl rfl ?_
  refine R_return dX0_init_31 rfl ?_
  exact Qv_mk rfl
theorem k_X1_init45 : C Γ mX1_init 2 80 0 0 [vr 45] (46, shF) m (Qv (46, shF) (mi1 m 45)) := by
  refine C_of_R rfl (Nat.le_of_ble_eq_true rfl) ?_
  refine R_aload_n 1 rfl dX1_init_0 rfl ?_
  refine R_objInit 4 rfl dX1_init_1 ml_X1_3 (by decide) ⟨Nat.le_of_ble_eq_true rfl, Nat.le_of_ble_eq_true rfl⟩ ?_
  refine R_aload_n 5 rfl dX1_init_4 rfl ?_
  refine R_iconst 6 rfl dX1_init_5 ?_
  refine R_callV_v (M' := mX1_becomeAll) 9 rfl dX1_init_6 ml_X1_9 kmX1_becomeAll im_X1_becomeAll se_X1_becomeAll rfl ⟨by decide, rfl⟩ (k_X1_becomeAll 45 0 rfl) rfl rfl ⟨Nat.le_of_ble_eq_true rfl, Nat.le_of_ble_eq_true rfl⟩ (Nat.le_of_ble_eq_true rfl) ⟨Nat.le_of_ble_eq_true rfl, Nat.le_of_ble_eq_true rfl⟩ ?_
  refine R_return dX1_init_9 rfl ?_
  exact Qv_mk rfl
theorem k_X1_init46 : C Γ mX1_init 2 80 0 0 [vr 46] (47, shF) m (Qv (47, shF) (mi1 m 46)) := by
  refine C_of_R rfl (Nat.le_of_ble_eq_true rfl) ?_
  refine R_aload_n 1 rfl dX1_init_0 rfl ?_
  refine R_objInit 4 rfl dX1_init_1 ml_X1_3 (by decide) ⟨Nat.le_of_ble_eq_true rfl, Nat.le_of_ble_eq_true rfl⟩ ?_
  refine R_aload_n 5 rfl dX1_init_4 rfl ?_
  refine R_iconst 6 rfl dX1_init_5 ?_
  refine R_callV_v (M' := mX1_becomeAll) 9 rfl dX1_init_6 ml_X1_9 kmX1_becomeAll im_X1_becomeAll se_X1_becomeAll rfl ⟨by decide, rfl⟩ (k_X1_becomeAll 46 0 rfl) rfl rfl ⟨Nat.le_of_ble_eq_true rfl, Nat.le_of_ble_eq_true rfl⟩ (Nat.le_of_ble_eq_true rfl) ⟨Nat.le_of_ble_eq_true rfl, Nat.le_of_ble_eq_true rfl⟩ ?_
  refine R_return dX1_init_9 rfl ?_
  exact Qv_mk rfl
theorem k_X1_init60 : C Γ mX1_init 2 80 0 0 [vr 60] (61, shF) m (Qv (61, shF) (mi1 m 60)) := by
  refine C_of_R rfl (Nat.le_of_ble_eq_true rfl) ?_
  refine R_aload_n 1 rfl dX1_init_0 rfl ?_
  refine R_objInit 4 rfl dX1_init_1 ml_X1_3 (by decide) ⟨Nat.le_of_ble_eq_true rfl, Nat.le_of_ble_eq_true rfl⟩ ?_
  refine R_aload_n 5 rfl dX1_init_4 rfl ?_
  refine R_iconst 6 rfl dX1_init_5 ?_
  refine R_callV_v (M' := mX1_becomeAll) 9 rfl dX1_init_6 ml_X1_9 kmX1_becomeAll im_X1_becomeAll se_X1_becomeAll rfl ⟨by decide, rfl⟩ (k_X1_becomeAll 60 0 rfl) rfl rfl ⟨Nat.le_of_ble_eq_true rfl, Nat.le_of_ble_eq_true rfl⟩ (Nat.le_of_ble_eq_true rfl) ⟨Nat.le_of_ble_eq_true rfl, Nat.le_of_ble_eq_true rfl⟩ ?_
  refine R_return dX1_init_9 rfl ?_
  exact Qv_mk rfl
theorem k_X1_init61 : C Γ mX1_init 2 80 0 0 [vr 61] (62, shF) m (Qv (62, shF) (mi1 m 61)) := by
  refine C_of_R rfl (Nat.le_of_ble_eq_true rfl) ?_
  refine R_aload_n 1 rfl dX1_init_0 rfl ?_
  refine R_objInit 4 rfl dX1_init_1 ml_X1_3 (by decide) ⟨Nat.le_of_ble_eq_true rfl, Nat.le_of_ble_eq_true rfl⟩ ?_
  refine R_aload_n 5 rfl dX1_init_4 rfl ?_
  refine R_iconst 6 rfl dX1_init_5 ?_
  refine R_callV_v (M' := mX1_becomeAll) 9 rfl dX1_init_6 ml_X1_9 kmX1_becomeAll im_X1_becomeAll se_X1_becomeAll rfl ⟨by decide, rfl⟩ (k_X1_becomeAll 61 0 rfl) rfl rfl ⟨Nat.le_of_ble_eq_true rfl, Nat.le_of_ble_eq_true rfl⟩ (Nat.le_of_ble_eq_true rfl) ⟨Nat.le_of_ble_eq_true rfl, Nat.le_of_ble_eq_true rfl⟩ ?_
  refine R_return dX1_init_9 rfl ?_
  exact Qv_mk rfl
theorem k_X1_init74 : C Γ mX1_init 2 80 0 0 [vr 74] (75, shF) m (Qv (75, shF) (mi1 m 74)) := by
  refine C_of_R rfl (Nat.le_of_ble_eq_true rfl) ?_
  refine R_aload_n 1 rfl dX1_init_0 rfl ?_
  refine R_objInit 4 rfl dX1_init_1 ml_X1_3 (by decide) ⟨Nat.le_of_ble_eq_true rfl, Nat.le_of_ble_eq_true rfl⟩ ?_
  refine R_aload_n 5 rfl dX1_init_4 rfl ?_
  refine R_iconst 6 rfl dX1_init_5 ?_
  refine R_callV_v (M' := mX1_becomeAll) 9 rfl dX1_init_6 ml_X1_9 kmX1_becomeAll im_X1_becomeAll se_X1_becomeAll rfl ⟨by decide, rfl⟩ (k_X1_becomeAll 74 0 rfl) rfl rfl ⟨Nat.le_of_ble_eq_true rfl, Nat.le_of_ble_eq_true rfl⟩ (Nat.le_of_ble_eq_true rfl) ⟨Nat.le_of_ble_eq_true rfl, Nat.le_of_ble_eq_true rfl⟩ ?_
  refine R_return dX1_init_9 rfl ?_
  exact Qv_mk rfl
theorem k_X1_init75 : C Γ mX1_init 2 80 0 0 [vr 75] (76, shF) m (Qv (76, shF) (mi1 m 75)) := by
  refine C_of_R rfl (Nat.le_of_ble_eq_true rfl) ?_
  refine R_aload_n 1 rfl dX1_init_0 rfl ?_
  refine R_objInit 4 rfl dX1_init_1 ml_X1_3 (by decide) ⟨Nat.le_of_ble_eq_true rfl, Nat.le_of_ble_eq_true rfl⟩ ?_
  refine R_aload_n 5 rfl dX1_init_4 rfl ?_
  refine R_iconst 6 rfl dX1_init_5 ?_
  refine R_callV_v (M' := mX1_becomeAll) 9 rfl dX1_init_6 ml_X1_9 kmX1_becomeAll im_X1_becomeAll se_X1_becomeAll rfl ⟨by decide, rfl⟩ (k_X1_becomeAll 75 0 rfl) rfl rfl ⟨Nat.le_of_ble_eq_true rfl, Nat.le_of_ble_eq_true rfl⟩ (Nat.le_of_ble_eq_true rfl) ⟨Nat.le_of_ble_eq_true rfl, Nat.le_of_ble_eq_true rfl⟩ ?_
  refine R_return dX1_init_9 rfl ?_
  exact Qv_mk rfl
theorem k_X2_init48 : C Γ mX2_init 3 120 13 541 [vr 48] (49, shF) m (Qv (62, shF) (mi2 m 48)) := by
  refine C_of_R rfl (Nat.le_of_ble_eq_true rfl) ?_
  refine R_aload_n 1 rfl dX2_init_0 rfl ?_
  refine R_objInit 4 rfl dX2_init_1 ml_X2_1 (by decide) ⟨Nat.le_of_ble_eq_true rfl, Nat.le_of_ble_eq_true rfl⟩ ?_
  refine R_aload_n 5 rfl dX2_init_4 rfl ?_
  refine R_iconst 6 rfl dX2_init_5 ?_
  refine R_putZ 0 9 rfl dX2_init_6 rfl rfl fl_X2_7 (by decide) ?_
  refine R_aload_n 10 rfl dX2_init_9 rfl ?_
  refine R_new 0 13 50 1 3 rfl dX2_init_10 (by decide) rfl rfl (by decide) rfl rfl cl_X2_13 inst_X0 ini_X0 ⟨Nat.le_of_ble_eq_true rfl, Nat.le_of_ble_eq_true rfl⟩ ?_
  refine R_dup 14 rfl dX2_init_13 rfl ?_
  refine R_callI_v (M' := mX0_init) 17 11 531 rfl dX2_init_14 ml_X2_15 kmX0_init im_X0_init rfl rfl (by decide) (k_X0_init49) rfl rfl ⟨Nat.le_of_ble_eq_true rfl, Nat.le_of_ble_eq_true rfl⟩ rfl rfl ⟨Nat.le_of_ble_eq_true rfl, Nat.le_of_ble_eq_true rfl⟩ (Nat.le_of_ble_eq_true rfl) ?_
  refine R_putFP 1 20 rfl dX2_init_17 rfl rfl fl_X2_16 rfl rfl ?_
  refine R_aload_n 21 rfl dX2_init_20 rfl ?_
  refine R_new 1 24 61 12 536 rfl dX2_init_21 (by decide) rfl rfl (by decide) rfl rfl cl_X2_20 inst_X1 ini_X1 ⟨Nat.le_of_ble_eq_true rfl, Nat.le_of_ble_eq_true rfl⟩ ?_
  refine R_dup 25 rfl dX2_init_24 rfl ?_
  refine R_callI_v (M' := mX1_init) 28 12 536 rfl dX2_init_25 ml_X2_22 kmX1_init im_X1_init rfl rfl (by decide) (k_X1_init60) rfl rfl ⟨Nat.le_of_ble_eq_true rfl, Nat.le_of_ble_eq_true rfl⟩ rfl rfl ⟨Nat.le_of_ble_eq_true rfl, Nat.le_of_ble_eq_true rfl⟩ (Nat.le_of_ble_eq_true rfl) ?_
  refine R_putFP 2 31 rfl dX2_init_28 rfl rfl fl_X2_23 rfl rfl ?_
  refine R_aload_n 32 rfl dX2_init_31 rfl ?_
  refine R_new 1 35 62 13 541 rfl dX2_init_32 (by decide) rfl rfl (by decide) rfl rfl cl_X2_20 inst_X1 ini_X1 ⟨Nat.le_of_ble_eq_true rfl, Nat.le_of_ble_eq_true rfl⟩ ?_
  refine R_dup 36 rfl dX2_init_35 rfl ?_
  refine R_callI_v (M' := mX1_init) 39 13 541 rfl dX2_init_36 ml_X2_22 kmX1_init im_X1_init rfl rfl (by decide) (k_X1_init61) rfl rfl ⟨Nat.le_of_ble_eq_true rfl, Nat.le_of_ble_eq_true rfl⟩ rfl rfl ⟨Nat.le_of_ble_eq_true rfl, Nat.le_of_ble_eq_true rfl⟩ (Nat.le_of_ble_eq_true rfl) ?_
  refine R_putFP 3 42 rfl dX2_init_39 rfl rfl fl_X2_27 rfl rfl ?_
  refine R_return dX2_init_42 rfl ?_
  exact Qv_mk rfl
theorem k_X2_init62 : C Γ mX2_init 3 120 13 541 [vr 62] (63, shF) m (Qv (76, shF) (mi2 m 62)) := by
  refine C_of_R rfl (Nat.le_of_ble_eq_true rfl) ?_
  refine R_aload_n 1 rfl dX2_init_0 rfl ?_
  refine R_objInit 4 rfl dX2_init_1 ml_X2_1 (by decide) ⟨Nat.le_of_ble_eq_true rfl, Nat.le_of_ble_eq_true rfl⟩ ?_
  refine R_aload_n 5 rfl dX2_init_4 rfl ?_
  refine R_iconst 6 rfl dX2_init_5 ?_
  refine R_putZ 0 9 rfl dX2_init_6 rfl rfl fl_X2_7 (by decide) ?_
  refine R_aload_n 10 rfl dX2_init_9 rfl ?_
  refine R_new 0 13 64 1 3 rfl dX2_init_10 (by decide) rfl rfl (by decide) rfl rfl cl_X2_13 inst_X0 ini_X0 ⟨Nat.le_of_ble_eq_true rfl, Nat.le_of_ble_eq_true rfl⟩ ?_
  refine R_dup 14 rfl dX2_init_13 rfl ?_
  refine R_callI_v (M' := mX0_init) 17 11 531 rfl dX2_init_14 ml_X2_15 kmX0_init im_X0_init rfl rfl (by decide) (k_X0_init63) rfl rfl ⟨Nat.le_of_ble_eq_true rfl, Nat.le_of_ble_eq_true rfl⟩ rfl rfl ⟨Nat.le_of_ble_eq_true rfl, Nat.le_of_ble_eq_true rfl⟩ (Nat.le_of_ble_eq_true rfl) ?_
  refine R_putFP 1 20 rfl dX2_init_17 rfl rfl fl_X2_16 rfl rfl ?_
  refine R_aload_n 21 rfl dX2_init_20 rfl ?_
  refine R_new 1 24 75 12 536 rfl dX2_init_21 (by decide) rfl rfl (by decide) rfl rfl cl_X2_20 inst_X1 ini_X1 ⟨Nat.le_of_ble_eq_true rfl, Nat.le_of_ble_eq_true rfl⟩ ?_
  refine R_dup 25 rfl dX2_init_24 rfl ?_
  refine R_callI_v (M' := mX1_init) 28 12 536 rfl dX2_init_25 ml_X2_22 kmX1_init im_X1_init rfl rfl (by decide) (k_X1_init74) rfl rfl ⟨Nat.le_of_ble_eq_true rfl, Nat.le_of_ble_eq_true rfl⟩ rfl rfl ⟨Nat.le_of_ble_eq_true rfl, Nat.le_of_ble_eq_true rfl⟩ (Nat.le_of_ble_eq_true rfl) ?_
  refine R_putFP 2 31 rfl dX2_init_28 rfl rfl fl_X2_23 rfl rfl ?_
  refine R_aload_n 32 rfl dX2_init_31 rfl ?_
  refine R_new 1 35 76 13 541 rfl dX2_init_32 (by decide) rfl rfl (by decide) rfl rfl cl_X2_20 inst_X1 ini_X1 ⟨Nat.le_of_ble_eq_true rfl, Nat.le_of_ble_eq_true rfl⟩ ?_
  refine R_dup 36 rfl dX2_init_35 rfl ?_
  refine R_callI_v (M' := mX1_init) 39 13 541 rfl dX2_init_36 ml_X2_22 kmX1_init im_X1_init rfl rfl (by decide) (k_X1_init75) rfl rfl ⟨Nat.le_of_ble_eq_true rfl, Nat.le_of_ble_eq_true rfl⟩ rfl rfl ⟨Nat.le_of_ble_eq_true rfl, Nat.le_of_ble_eq_true rfl⟩ (Nat.le_of_ble_eq_true rfl) ?_
  refine R_putFP 3 42 rfl dX2_init_39 rfl rfl fl_X2_27 rfl rfl ?_
  refine R_return dX2_init_42 rfl ?_
  exact Qv_mk rfl
theorem k_X3_init41 : C Γ mX3_init 1 40 2 160 [vr 41] (42, shF) m (Qv (44, shF) (mi3 m 41)) := by
  refine C_of_R rfl (Nat.le_of_ble_eq_true rfl) ?_
  refine R_aload_n 1 rfl dX3_init_0 rfl ?_
  refine R_objInit 4 rfl dX3_init_1 ml_X3_3 (by decide) ⟨Nat.le_of_ble_eq_true rfl, Nat.le_of_ble_eq_true rfl⟩ ?_
  refine R_aload_n 5 rfl dX3_init_4 rfl ?_
  refine R_iconst 6 rfl dX3_init_5 ?_
  refine R_putZ 0 9 rfl dX3_init_6 rfl rfl fl_X3_9 (by decide) ?_
  refine R_aload_n 10 rfl dX3_init_9 rfl ?_
  refine R_bipush 12 rfl dX3_init_10 (by decide) ?_
  refine R_newaI 80 14 43 1 80 rfl dX3_init_12 rfl rfl (by decide) rfl (by decide) rfl rfl ⟨Nat.le_of_ble_eq_true rfl, Nat.le_of_ble_eq_true rfl⟩ ?_
  refine R_putFP 1 17 rfl dX3_init_14 rfl rfl fl_X3_15 rfl rfl ?_
  refine R_aload_n 18 rfl dX3_init_17 rfl ?_
  refine R_bipush 20 rfl dX3_init_18 (by decide) ?_
  refine R_newaI 80 22 44 2 160 rfl dX3_init_20 rfl rfl (by decide) rfl (by decide) rfl rfl ⟨Nat.le_of_ble_eq_true rfl, Nat.le_of_ble_eq_true rfl⟩ ?_
  refine R_putFP 2 25 rfl dX3_init_22 rfl rfl fl_X3_19 rfl rfl ?_
  refine R_return dX3_init_25 rfl ?_
  exact Qv_mk rfl
theorem k_X4_clear4 (h7 : m.2 4 7 = some 5) : C Γ mX4_clear 0 0 0 0 [vr 4] (17, shF) m (Qv (17, shF) (clM m 4)) := by
  refine C_of_R rfl (Nat.le_of_ble_eq_true rfl) ?_
  refine R_aload_n 1 rfl dX4_clear_0 rfl ?_
  refine R_iconst 2 rfl dX4_clear_1 ?_
  refine R_putI 0 5 rfl dX4_clear_2 rfl rfl fl_X4_26 ?_
  refine R_aload_n 6 rfl dX4_clear_5 rfl ?_
  refine R_iconst 7 rfl dX4_clear_6 ?_
  refine R_putI 1 10 rfl dX4_clear_7 rfl rfl fl_X4_30 ?_
  refine R_aload_n 11 rfl dX4_clear_10 rfl ?_
  refine R_bipush 13 rfl dX4_clear_11 (by decide) ?_
  refine R_putI 2 16 rfl dX4_clear_13 rfl rfl fl_X4_33 ?_
  refine R_aload_n 17 rfl dX4_clear_16 rfl ?_
  refine R_bipush 19 rfl dX4_clear_17 (by decide) ?_
  refine R_putI 3 22 rfl dX4_clear_19 rfl rfl fl_X4_36 ?_
  refine R_aload_n 23 rfl dX4_clear_22 rfl ?_
  refine R_bipush 25 rfl dX4_clear_23 (by decide) ?_
  refine R_putI 4 28 rfl dX4_clear_25 rfl rfl fl_X4_39 ?_
  refine R_aload_n 29 rfl dX4_clear_28 rfl ?_
  refine R_iconst 30 rfl dX4_clear_29 ?_
  refine R_putI 5 33 rfl dX4_clear_30 rfl rfl fl_X4_42 ?_
  refine R_aload_n 34 rfl dX4_clear_33 rfl ?_
  refine R_iconst 35 rfl dX4_clear_34 ?_
  refine R_putI 6 38 rfl dX4_clear_35 rfl rfl fl_X4_45 ?_
  refine R_aload_n 39 rfl dX4_clear_38 rfl ?_
  refine R_getP 7 42 rfl dX4_clear_39 rfl rfl fl_X4_9 h7 ?_
  refine R_iconst 43 rfl dX4_clear_42 ?_
  refine R_iconst 44 rfl dX4_clear_43 ?_
  refine R_iast 0 45 rfl dX4_clear_44 rfl (by first | rfl | omega) (by decide) (by decide) ?_
  refine R_aload_n 46 rfl dX4_clear_45 rfl ?_
  refine R_getP 7 49 rfl dX4_clear_46 rfl rfl fl_X4_9 h7 ?_
  refine R_iconst 50 rfl dX4_clear_49 ?_
  refine R_iconst 51 rfl dX4_clear_50 ?_
  refine R_iast 1 52 rfl dX4_clear_51 rfl (by first | rfl | omega) (by decide) (by decide) ?_
  refine R_aload_n 53 rfl dX4_clear_52 rfl ?_
  refine R_getP 7 56 rfl dX4_clear_53 rfl rfl fl_X4_9 h7 ?_
  refine R_iconst 57 rfl dX4_clear_56 ?_
  refine R_iconst 58 rfl dX4_clear_57 ?_
  refine R_iast 2 59 rfl dX4_clear_58 rfl (by first | rfl | omega) (by decide) (by decide) ?_
  refine R_aload_n 60 rfl dX4_clear_59 rfl ?_
  refine R_getP 7 63 rfl dX4_clear_60 rfl rfl fl_X4_9 h7 ?_
  refine R_iconst 64 rfl dX4_clear_63 ?_
  refine R_iconst 65 rfl dX4_clear_64 ?_
  refine R_iast 3 66 rfl dX4_clear_65 rfl (by first | rfl | omega) (by decide) (by decide) ?_
  refine R_return dX4_clear_66 rfl ?_
  exact Qv_mk rfl
theorem k_X4_init4 : C Γ mX4_init 1 40 12 101 [vr 4] (5, shF) m (Qv (17, shF) (mi4 m 4)) := by
  refine C_of_R rfl (Nat.le_of_ble_eq_true rfl) ?_
  refine R_aload_n 1 rfl dX4_init_0 rfl ?_
  refine R_objInit 4 rfl dX4_init_1 ml_X4_3 (by decide) ⟨Nat.le_of_ble_eq_true rfl, Nat.le_of_ble_eq_true rfl⟩ ?_
  refine R_aload_n 5 rfl dX4_init_4 rfl ?_
  refine R_iconst 6 rfl dX4_init_5 ?_
  refine R_newaI 4 8 6 1 4 rfl dX4_init_6 rfl rfl (by decide) rfl (by decide) rfl rfl ⟨Nat.le_of_ble_eq_true rfl, Nat.le_of_ble_eq_true rfl⟩ ?_
  refine R_putFP 7 11 rfl dX4_init_8 rfl rfl fl_X4_9 rfl rfl ?_
  refine R_aload_n 12 rfl dX4_init_11 rfl ?_
  refine R_iconst 13 rfl dX4_init_12 ?_
  refine R_bipush 15 rfl dX4_init_13 (by decide) ?_
  refine R_manew 4 12 19 11 6 56 rfl dX4_init_15 cl_X4_15 rfl rfl rfl (by decide) (by decide) rfl (by decide) rfl rfl ⟨Nat.le_of_ble_eq_true rfl, Nat.le_of_ble_eq_true rfl⟩ ?_
  refine R_putFP 8 22 rfl dX4_init_19 rfl rfl fl_X4_17 rfl rfl ?_
  refine R_aload_n 23 rfl dX4_init_22 rfl ?_
  refine R_iconst 24 rfl dX4_init_23 ?_
  refine R_bipush 26 rfl dX4_init_24 (by decide) ?_
  refine R_manew 5 8 30 17 12 101 rfl dX4_init_26 cl_X4_15 rfl rfl rfl (by decide) (by decide) rfl (by decide) rfl rfl ⟨Nat.le_of_ble_eq_true rfl, Nat.le_of_ble_eq_true rfl⟩ ?_
  refine R_putFP 9 33 rfl dX4_init_30 rfl rfl fl_X4_20 rfl rfl ?_
  refine R_aload_n 34 rfl dX4_init_33 rfl ?_
  refine R_callV_v (M' := mX4_clear) 37 rfl dX4_init_34 ml_X4_23 kmX4_clear im_X4_clear se_X4_clear rfl ⟨by decide, rfl⟩ (k_X4_clear4 rfl) rfl rfl ⟨Nat.le_of_ble_eq_true rfl, Nat.le_of_ble_eq_true rfl⟩ (Nat.le_of_ble_eq_true rfl) ⟨Nat.le_of_ble_eq_true rfl, Nat.le_of_ble_eq_true rfl⟩ ?_
  refine R_return dX4_init_37 rfl ?_
  exact Qv_mk rfl
theorem k_X4_clear17 (h7 : m.2 17 7 = some 18) : C Γ mX4_clear 0 0 0 0 [vr 17] (30, shF) m (Qv (30, shF) (clM m 17)) := by
  refine C_of_R rfl (Nat.le_of_ble_eq_true rfl) ?_
  refine R_aload_n 1 rfl dX4_clear_0 rfl ?_
  refine R_iconst 2 rfl dX4_clear_1 ?_
  refine R_putI 0 5 rfl dX4_clear_2 rfl rfl fl_X4_26 ?_
  refine R_aload_n 6 rfl dX4_clear_5 rfl ?_
  refine R_iconst 7 rfl dX4_clear_6 ?_
  refine R_putI 1 10 rfl dX4_clear_7 rfl rfl fl_X4_30 ?_
  refine R_aload_n 11 rfl dX4_clear_10 rfl ?_
  refine R_bipush 13 rfl dX4_clear_11 (by decide) ?_
  refine R_putI 2 16 rfl dX4_clear_13 rfl rfl fl_X4_33 ?_
  refine R_aload_n 17 rfl dX4_clear_16 rfl ?_
  refine R_bipush 19 rfl dX4_clear_17 (by decide) ?_
  refine R_putI 3 22 rfl dX4_clear_19 rfl rfl fl_X4_36 ?_
  refine R_aload_n 23 rfl dX4_clear_22 rfl ?_
  refine R_bipush 25 rfl dX4_clear_23 (by decide) ?_
  refine R_putI 4 28 rfl dX4_clear_25 rfl rfl fl_X4_39 ?_
  refine R_aload_n 29 rfl dX4_clear_28 rfl ?_
  refine R_iconst 30 rfl dX4_clear_29 ?_
  refine R_putI 5 33 rfl dX4_clear_30 rfl rfl fl_X4_42 ?_
  refine R_aload_n 34 rfl dX4_clear_33 rfl ?_
  refine R_iconst 35 rfl dX4_clear_34 ?_
  refine R_putI 6 38 rfl dX4_clear_35 rfl rfl fl_X4_45 ?_
  refine R_aload_n 39 rfl dX4_clear_38 rfl ?_
  refine R_getP 7 42 rfl dX4_clear_39 rfl rfl fl_X4_9 h7 ?_
  refine R_iconst 43 rfl dX4_clear_42 ?_
  refine R_iconst 44 rfl dX4_clear_43 ?_
  refine R_iast 0 45 rfl dX4_clear_44 rfl (by first | rfl | omega) (by decide) (by decide) ?_
  refine R_aload_n 46 rfl dX4_clear_45 rfl ?_
  refine R_getP 7 49 rfl dX4_clear_46 rfl rfl fl_X4_9 h7 ?_
  refine R_iconst 50 rfl dX4_clear_49 ?_
  refine R_iconst 51 rfl dX4_clear_50 ?_
  refine R_iast 1 52 rfl dX4_clear_51 rfl (by first | rfl | omega) (by decide) (by decide) ?_
  refine R_aload_n 53 rfl dX4_clear_52 rfl ?_
  refine R_getP 7 56 rfl dX4_clear_53 rfl rfl fl_X4_9 h7 ?_
  refine R_iconst 57 rfl dX4_clear_56 ?_
  refine R_iconst 58 rfl dX4_clear_57 ?_
  refine R_iast 2 59 rfl dX4_clear_58 rfl (by first | rfl | omega) (by decide) (by decide) ?_
  refine R_aload_n 60 rfl dX4_clear_59 rfl ?_
  refine R_getP 7 63 rfl dX4_clear_60 rfl rfl fl_X4_9 h7 ?_
  refine R_iconst 64 rfl dX4_clear_63 ?_
  refine R_iconst 65 rfl dX4_clear_64 ?_
  refine R_iast 3 66 rfl dX4_clear_65 rfl (by first | rfl | omega) (by decide) (by decide) ?_
  refine R_return dX4_clear_66 rfl ?_
  exact Qv_mk rfl
theorem k_X4_init17 : C Γ mX4_init 1 40 12 101 [vr 17] (18, shF) m (Qv (30, shF) (mi4 m 17)) := by
  refine C_of_R rfl (Nat.le_of_ble_eq_true rfl) ?_
  refine R_aload_n 1 rfl dX4_init_0 rfl ?_
  refine R_objInit 4 rfl dX4_init_1 ml_X4_3 (by decide) ⟨Nat.le_of_ble_eq_true rfl, Nat.le_of_ble_eq_true rfl⟩ ?_
  refine R_aload_n 5 rfl dX4_init_4 rfl ?_
  refine R_iconst 6 rfl dX4_init_5 ?_
  refine R_newaI 4 8 19 1 4 rfl dX4_init_6 rfl rfl (by decide) rfl (by decide) rfl rfl ⟨Nat.le_of_ble_eq_true rfl, Nat.le_of_ble_eq_true rfl⟩ ?_
  refine R_putFP 7 11 rfl dX4_init_8 rfl rfl fl_X4_9 rfl rfl ?_
  refine R_aload_n 12 rfl dX4_init_11 rfl ?_
  refine R_iconst 13 rfl dX4_init_12 ?_
  refine R_bipush 15 rfl dX4_init_13 (by decide) ?_
  refine R_manew 4 12 19 24 6 56 rfl dX4_init_15 cl_X4_15 rfl rfl rfl (by decide) (by decide) rfl (by decide) rfl rfl ⟨Nat.le_of_ble_eq_true rfl, Nat.le_of_ble_eq_true rfl⟩ ?_
  refine R_putFP 8 22 rfl dX4_init_19 rfl rfl fl_X4_17 rfl rfl ?_
  refine R_aload_n 23 rfl dX4_init_22 rfl ?_
  refine R_iconst 24 rfl dX4_init_23 ?_
  refine R_bipush 26 rfl dX4_init_24 (by decide) ?_
  refine R_manew 5 8 30 30 12 101 rfl dX4_init_26 cl_X4_15 rfl rfl rfl (by decide) (by decide) rfl (by decide) rfl rfl ⟨Nat.le_of_ble_eq_true rfl, Nat.le_of_ble_eq_true rfl⟩ ?_
  refine R_putFP 9 33 rfl dX4_init_30 rfl rfl fl_X4_20 rfl rfl ?_
  refine R_aload_n 34 rfl dX4_init_33 rfl ?_
  refine R_callV_v (M' := mX4_clear) 37 rfl dX4_init_34 ml_X4_23 kmX4_clear im_X4_clear se_X4_clear rfl ⟨by decide, rfl⟩ (k_X4_clear17 rfl) rfl rfl ⟨Nat.le_of_ble_eq_true rfl, Nat.le_of_ble_eq_true rfl⟩ (Nat.le_of_ble_eq_true rfl) ⟨Nat.le_of_ble_eq_true rfl, Nat.le_of_ble_eq_true rfl⟩ ?_
  refine R_return dX4_init_37 rfl ?_
  exact Qv_mk rfl
theorem k_X5_init3 : C Γ mX5_init 1 40 0 0 [vr 3] (4, shF) m (Qv (4, shF) (m)) := by
  refine C_of_R rfl (Nat.le_of_ble_eq_true rfl) ?_
  refine R_aload_n 1 rfl dX5_init_0 rfl ?_
  refine R_objInit 4 rfl dX5_init_1 ml_X5_3 (by decide) ⟨Nat.le_of_ble_eq_true rfl, Nat.le_of_ble_eq_true rfl⟩ ?_
  refine R_return dX5_init_4 rfl ?_
  exact Qv_mk rfl
theorem k_X6_init91 : C Γ mX6_init 1 40 0 0 [vr 91] (92, shF) m (Qv (92, shF) (mi6 m 91)) := by
  refine C_of_R rfl (Nat.le_of_ble_eq_true rfl) ?_
  refine R_aload_n 1 rfl dX6_init_0 rfl ?_
  refine R_objInit 4 rfl dX6_init_1 ml_X6_1 (by decide) ⟨Nat.le_of_ble_eq_true rfl, Nat.le_of_ble_eq_true rfl⟩ ?_
  refine R_aload_n 5 rfl dX6_init_4 rfl ?_
  refine R_lconst 6 rfl dX6_init_5 ?_
  refine R_topL (b := 0) rfl ?_
  refine R_putL 0 9 rfl dX6_init_6 rfl rfl fl_X6_7 ?_
  refine R_aload_n 10 rfl dX6_init_9 rfl ?_
  refine R_lconst 11 rfl dX6_init_10 ?_
  refine R_topL (b := 1) rfl ?_
  refine R_putL 1 14 rfl dX6_init_11 rfl rfl fl_X6_13 ?_
  refine R_return dX6_init_14 rfl ?_
  exact Qv_mk rfl
theorem k_X7_init77 : C Γ mX7_init 1 40 1 60 [vr 77] (78, shF) m (Qv (79, shF) (mi7 m 77)) := by
  refine C_of_R rfl (Nat.le_of_ble_eq_true rfl) ?_
  refine R_aload_n 1 rfl dX7_init_0 rfl ?_
  refine R_objInit 4 rfl dX7_init_1 ml_X7_3 (by decide) ⟨Nat.le_of_ble_eq_true rfl, Nat.le_of_ble_eq_true rfl⟩ ?_
  refine R_aload_n 5 rfl dX7_init_4 rfl ?_
  refine R_iconst 6 rfl dX7_init_5 ?_
  refine R_putI 0 9 rfl dX7_init_6 rfl rfl fl_X7_9 ?_
  refine R_aload_n 10 rfl dX7_init_9 rfl ?_
  refine R_iconst 11 rfl dX7_init_10 ?_
  refine R_putI 1 14 rfl dX7_init_11 rfl rfl fl_X7_15 ?_
  refine R_aload_n 15 rfl dX7_init_14 rfl ?_
  refine R_bipush 17 rfl dX7_init_15 (by decide) ?_
  refine R_newaI 60 19 79 1 60 rfl dX7_init_17 rfl rfl (by decide) rfl (by decide) rfl rfl ⟨Nat.le_of_ble_eq_true rfl, Nat.le_of_ble_eq_true rfl⟩ ?_
  refine R_putFP 2 22 rfl dX7_init_19 rfl rfl fl_X7_18 rfl rfl ?_
  refine R_return dX7_init_22 rfl ?_
  exact Qv_mk rfl
theorem k_X7_init79 : C Γ mX7_init 1 40 1 60 [vr 79] (80, shF) m (Qv (81, shF) (mi7 m 79)) := by
  refine C_of_R rfl (Nat.le_of_ble_eq_true rfl) ?_
  refine R_aload_n 1 rfl dX7_init_0 rfl ?_
  refine R_objInit 4 rfl dX7_init_1 ml_X7_3 (by decide) ⟨Nat.le_of_ble_eq_true rfl, Nat.le_of_ble_eq_true rfl⟩ ?_
  refine R_aload_n 5 rfl dX7_init_4 rfl ?_
  refine R_iconst 6 rfl dX7_init_5 ?_
  refine R_putI 0 9 rfl dX7_init_6 rfl rfl fl_X7_9 ?_
  refine R_aload_n 10 rfl dX7_init_9 rfl ?_
  refine R_iconst 11 rfl dX7_init_10 ?_
  refine R_putI 1 14 rfl dX7_init_11 rfl rfl fl_X7_15 ?_
  refine R_aload_n 15 rfl dX7_init_14 rfl ?_
  refine R_bipush 17 rfl dX7_init_15 (by decide) ?_
  refine R_newaI 60 19 81 1 60 rfl dX7_init_17 rfl rfl (by decide) rfl (by decide) rfl rfl ⟨Nat.le_of_ble_eq_true rfl, Nat.le_of_ble_eq_true rfl⟩ ?_
  refine R_putFP 2 22 rfl dX7_init_19 rfl rfl fl_X7_18 rfl rfl ?_
  refine R_return dX7_init_22 rfl ?_
  exact Qv_mk rfl
theorem k_X7_init81 : C Γ mX7_init 1 40 1 60 [vr 81] (82, shF) m (Qv (83, shF) (mi7 m 81)) := by
  refine C_of_R rfl (Nat.le_of_ble_eq_true rfl) ?_
  refine R_aload_n 1 rfl dX7_init_0 rfl ?_
  refine R_objInit 4 rfl dX7_init_1 ml_X7_3 (by decide) ⟨Nat.le_of_ble_eq_true rfl, Nat.le_of_ble_eq_true rfl⟩ ?_
  refine R_aload_n 5 rfl dX7_init_4 rfl ?_
  refine R_iconst 6 rfl dX7_init_5 ?_
  refine R_putI 0 9 rfl dX7_init_6 rfl rfl fl_X7_9 ?_
  refine R_aload_n 10 rfl dX7_init_9 rfl ?_
  refine R_iconst 11 rfl dX7_init_10 ?_
  refine R_putI 1 14 rfl dX7_init_11 rfl rfl fl_X7_15 ?_
  refine R_aload_n 15 rfl dX7_init_14 rfl ?_
  refine R_bipush 17 rfl dX7_init_15 (by decide) ?_
  refine R_newaI 60 19 83 1 60 rfl dX7_init_17 rfl rfl (by decide) rfl (by decide) rfl rfl ⟨Nat.le_of_ble_eq_true rfl, Nat.le_of_ble_eq_true rfl⟩ ?_
  refine R_putFP 2 22 rfl dX7_init_19 rfl rfl fl_X7_18 rfl rfl ?_
  refine R_return dX7_init_22 rfl ?_
  exact Qv_mk rfl
theorem k_X7_init83 : C Γ mX7_init 1 40 1 60 [vr 83] (84, shF) m (Qv (85, shF) (mi7 m 83)) := by
  refine C_of_R rfl (Nat.le_of_ble_eq_true rfl) ?_
  refine R_aload_n 1 rfl dX7_init_0 rfl ?_
  refine R_objInit 4 rfl dX7_init_1 ml_X7_3 (by decide) ⟨Nat.le_of_ble_eq_true rfl, Nat.le_of_ble_eq_true rfl⟩ ?_
  refine R_aload_n 5 rfl dX7_init_4 rfl ?_
  refine R_iconst 6 rfl dX7_init_5 ?_
  refine R_putI 0 9 rfl dX7_init_6 rfl rfl fl_X7_9 ?_
  refine R_aload_n 10 rfl dX7_init_9 rfl ?_
  refine R_iconst 11 rfl dX7_init_10 ?_
  refine R_putI 1 14 rfl dX7_init_11 rfl rfl fl_X7_15 ?_
  refine R_aload_n 15 rfl dX7_init_14 rfl ?_
  refine R_bipush 17 rfl dX7_init_15 (by decide) ?_
  refine R_newaI 60 19 85 1 60 rfl dX7_init_17 rfl rfl (by decide) rfl (by decide) rfl rfl ⟨Nat.le_of_ble_eq_true rfl, Nat.le_of_ble_eq_true rfl⟩ ?_
  refine R_putFP 2 22 rfl dX7_init_19 rfl rfl fl_X7_18 rfl rfl ?_
  refine R_return dX7_init_22 rfl ?_
  exact Qv_mk rfl
theorem k_X8_init85 : C Γ mX8_init 1 40 2 30 [vr 85] (86, shF) m (Qv (88, shF) (mi8 m 85)) := by
  refine C_of_R rfl (Nat.le_of_ble_eq_true rfl) ?_
  refine R_aload_n 1 rfl dX8_init_0 rfl ?_
  refine R_objInit 4 rfl dX8_init_1 ml_X8_3 (by decide) ⟨Nat.le_of_ble_eq_true rfl, Nat.le_of_ble_eq_true rfl⟩ ?_
  refine R_aload_n 5 rfl dX8_init_4 rfl ?_
  refine R_bipush 7 rfl dX8_init_5 (by decide) ?_
  refine R_newaI 15 9 87 1 15 rfl dX8_init_7 rfl rfl (by decide) rfl (by decide) rfl rfl ⟨Nat.le_of_ble_eq_true rfl, Nat.le_of_ble_eq_true rfl⟩ ?_
  refine R_putFP 0 12 rfl dX8_init_9 rfl rfl fl_X8_9 rfl rfl ?_
  refine R_aload_n 13 rfl dX8_init_12 rfl ?_
  refine R_bipush 15 rfl dX8_init_13 (by decide) ?_
  refine R_newaI 15 17 88 2 30 rfl dX8_init_15 rfl rfl (by decide) rfl (by decide) rfl rfl ⟨Nat.le_of_ble_eq_true rfl, Nat.le_of_ble_eq_true rfl⟩ ?_
  refine R_putFP 1 20 rfl dX8_init_17 rfl rfl fl_X8_15 rfl rfl ?_
  refine R_aload_n 21 rfl dX8_init_20 rfl ?_
  refine R_iconst 22 rfl dX8_init_21 ?_
  refine R_putI 2 25 rfl dX8_init_22 rfl rfl fl_X8_18 ?_
  refine R_return dX8_init_25 rfl ?_
  exact Qv_mk rfl
theorem k_X8_init88 : C Γ mX8_init 1 40 2 30 [vr 88] (89, shF) m (Qv (91, shF) (mi8 m 88)) := by
  refine C_of_R rfl (Nat.le_of_ble_eq_true rfl) ?_
  refine R_aload_n 1 rfl dX8_init_0 rfl ?_
  refine R_objInit 4 rfl dX8_init_1 ml_X8_3 (by decide) ⟨Nat.le_of_ble_eq_true rfl, Nat.le_of_ble_eq_true rfl⟩ ?_
  refine R_aload_n 5 rfl dX8_init_4 rfl ?_
  refine R_bipush 7 rfl dX8_init_5 (by decide) ?_
  refine R_newaI 15 9 90 1 15 rfl dX8_init_7 rfl rfl (by decide) rfl (by decide) rfl rfl ⟨Nat.le_of_ble_eq_true rfl, Nat.le_of_ble_eq_true rfl⟩ ?_
  refine R_putFP 0 12 rfl dX8_init_9 rfl rfl fl_X8_9 rfl rfl ?_
  refine R_aload_n 13 rfl dX8_init_12 rfl ?_
  refine R_bipush 15 rfl dX8_init_13 (by decide) ?_
  refine R_newaI 15 17 91 2 30 rfl dX8_init_15 rfl rfl (by decide) rfl (by decide) rfl rfl ⟨Nat.le_of_ble_eq_true rfl, Nat.le_of_ble_eq_true rfl⟩ ?_
  refine R_putFP 1 20 rfl dX8_init_17 rfl rfl fl_X8_15 rfl rfl ?_
  refine R_aload_n 21 rfl dX8_init_20 rfl ?_
  refine R_iconst 22 rfl dX8_init_21 ?_
  refine R_putI 2 25 rfl dX8_init_22 rfl rfl fl_X8_18 ?_
  refine R_return dX8_init_25 rfl ?_
  exact Qv_mk rfl
theorem k_X9_init1 : C Γ mX9_init 1 40 1 320 [vr 1] (2, shF) m (Qv (3, shF) (mi9 m 1)) := by
  refine C_of_R rfl (Nat.le_of_ble_eq_true rfl) ?_
  refine R_aload_n 1 rfl dX9_init_0 rfl ?_
  refine R_objInit 4 rfl dX9_init_1 ml_X9_3 (by decide) ⟨Nat.le_of_ble_eq_true rfl, Nat.le_of_ble_eq_true rfl⟩ ?_
  refine R_aload_n 5 rfl dX9_init_4 rfl ?_
  refine R_sipush 8 rfl dX9_init_5 (by decide) ?_
  refine R_newaB 320 10 3 1 320 rfl dX9_init_8 rfl rfl (by decide) rfl (by decide) rfl rfl ⟨Nat.le_of_ble_eq_true rfl, Nat.le_of_ble_eq_true rfl⟩ ?_
  refine R_putFP 0 13 rfl dX9_init_10 rfl rfl fl_X9_9 rfl rfl ?_
  refine R_aload_n 14 rfl dX9_init_13 rfl ?_
  refine R_iconst 15 rfl dX9_init_14 ?_
  refine R_putI 1 18 rfl dX9_init_15 rfl rfl fl_X9_15 ?_
  refine R_return dX9_init_18 rfl ?_
  exact Qv_mk rfl
end
