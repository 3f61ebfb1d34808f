def a_twice (B : Bk) (w : Int) : Int := if 0 ≤ w ∧ w ≤ 2 then twc B w else -1
def a_find (L : Ld) (B : Bk) (p n w : Int) : Int := if (0 ≤ p ∧ p < L.1 0) ∧ (0 ≤ n ∧ n ≤ 4) ∧ (0 ≤ w ∧ w ≤ 1) then fnd B p n w else -1
theorem nrI_iff {B : Bk} {p n h : Int} {k : Nat} : nrI B p n h k = true ↔ ((B.2.1 0 (k / 2) = p ∧ B.2.2 0 k = 1) ∧ ap (B.2.2 2 k) h ≤ n) := by simp [nrI, nmI]
theorem two_01 (B : Bk) (p : Nat) : two B 0 p = two B 1 p := by simp [two]
section
variable {Γ : GX} {m m' : Mem} {B B' : Bk} {L : Ld} {ch ch' : Cs}
theorem c_X11_twice (w : Int) (hR : RS L B ch m) (hw : rg w) : C Γ mX11_twice 2 80 0 0 [vr 96, vi w] SH m (QM L B ch m (a_twice B w)) := by
  refine C_of_R rfl (Nat.le_of_ble_eq_true rfl) ?_
  have h3 := hR.2.2.2.2.1.1
  have Lp : 0 ≤ w ∧ w ≤ 2 → ∀ q : Nat, q ≤ 99 → ∀ a f b z x6 x7, a = (cnt (twI B 0) 99 : Int) - cnt (twI B 0) q → f = fsA (two B 1) (q + 1) (99 - q) → b = (cnt (twI B 2) 99 : Int) - cnt (twI B 2) q → z = (q : Int) → R Γ mX11_twice { frames := 2, cells := 0, slots := 0, locals := 80 } 0 0 (QM L B ch m (a_twice B w)) 0 0 26 [some (vr 96), some (vi w), some (vi a), some (vi f), some (vi b), some (vi z), x6, x7] [] SH m := by
    intro ho q
    induction q with
    | zero =>
      intro _ a f b z x6 x7 ha hf hb hz
      subst hz
      refine R_iload 28 rfl dX11_twice_26 rfl ?_
      refine R_if_le 31 90 rfl rfl dX11_twice_28 (by first | assumption | exact ⟨by omega, by omega⟩) (fun h28 => ?_) (fun h28 => ?_)
      · refine R_iload_n 91 rfl dX11_twice_90 rfl ?_
        refine R_if_ne 94 98 rfl rfl dX11_twice_91 (by first | assumption | exact ⟨by omega, by omega⟩) (fun h91 => ?_) (fun h91 => ?_)
        · refine R_iload_n 99 rfl dX11_twice_98 rfl ?_
          refine R_iconst 100 rfl dX11_twice_99 ?_
          refine R_icmp_ne 103 107 rfl rfl dX11_twice_100 (by first | assumption | exact ⟨by omega, by omega⟩) (by first | assumption | exact ⟨by omega, by omega⟩) (fun h100 => ?_) (fun h100 => ?_)
          · refine R_iload 109 rfl dX11_twice_107 rfl ?_
            refine R_ireturn dX11_twice_109 rfl ?_
            refine QI_mk ⟨?_, Fm.rf, hR⟩
            unfold a_twice twc
            rw [if_pos ho]
            first
              | (rw [if_pos (by omega)]; exact hf)
              | (rw [if_neg (by omega), show w = 0 by omega, ha]; simp [cnt])
              | (rw [if_neg (by omega), show w = 2 by omega, hb]; simp [cnt])
          · refine R_iload_n 104 rfl dX11_twice_103 rfl ?_
            refine R_goto 109 rfl dX11_twice_104 ?_
            refine R_ireturn dX11_twice_109 rfl ?_
            refine QI_mk ⟨?_, Fm.rf, hR⟩
            unfold a_twice twc
            rw [if_pos ho]
            first
              | (rw [if_pos (by omega)]; exact hf)
              | (rw [if_neg (by omega), show w = 0 by omega, ha]; simp [cnt])
              | (rw [if_neg (by omega), show w = 2 by omega, hb]; simp [cnt])
        · refine R_iload_n 95 rfl dX11_twice_94 rfl ?_
          refine R_goto 109 rfl dX11_twice_95 ?_
          refine R_ireturn dX11_twice_109 rfl ?_
          refine QI_mk ⟨?_, Fm.rf, hR⟩
          unfold a_twice twc
          rw [if_pos ho]
          first
            | (rw [if_pos (by omega)]; exact hf)
            | (rw [if_neg (by omega), show w = 0 by omega, ha]; simp [cnt])
            | (rw [if_neg (by omega), show w = 2 by omega, hb]; simp [cnt])
      · exfalso; omega
    | succ q ih =>
      intro hq a f b z x6 x7 ha hf hb hz
      have k0 := cnt_le (pfI B z 0) (2 * B.1)
      have k1 := cnt_le (pfI B z 1) (2 * B.1)
      have m0 : mko B z 0 ≤ 2 * B.1 := k0
      have m1 : mko B z 1 ≤ 2 * B.1 := k1
      have e0 := two_iff (B := B) (w := 0) (p := q + 1)
      have e1 := two_iff (B := B) (w := 1) (p := q + 1)
      have e2 := two_iff (B := B) (w := 2) (p := q + 1)
      have ez : ((q + 1 : Nat) : Int) = z := hz.symm
      rw [ez] at e0 e1 e2
      have ef : fsA (two B 1) (q + 1) (99 - q) = if two B 1 (q + 1) = true then ((q + 1 : Nat) : Int) else fsA (two B 1) (q + 1 + 1) (99 - (q + 1)) := by
        rw [show 99 - q = (99 - (q + 1)) + 1 by omega]
        rfl
      have c0 := cnt_pI (twI B 0) q
      have c2 := cnt_pI (twI B 2) q
      refine R_iload 28 rfl dX11_twice_26 rfl ?_
      refine R_if_le 31 90 rfl rfl dX11_twice_28 (by first | assumption | exact ⟨by omega, by omega⟩) (fun h28 => ?_) (fun h28 => ?_)
      · refine R_iload_n 91 rfl dX11_twice_90 rfl ?_
        refine R_if_ne 94 98 rfl rfl dX11_twice_91 (by first | assumption | exact ⟨by omega, by omega⟩) (fun h91 => ?_) (fun h91 => ?_)
        · refine R_iload_n 99 rfl dX11_twice_98 rfl ?_
          refine R_iconst 100 rfl dX11_twice_99 ?_
          refine R_icmp_ne 103 107 rfl rfl dX11_twice_100 (by first | assumption | exact ⟨by omega, by omega⟩) (by first | assumption | exact ⟨by omega, by omega⟩) (fun h100 => ?_) (fun h100 => ?_)
          · refine R_iload 109 rfl dX11_twice_107 rfl ?_
            refine R_ireturn dX11_twice_109 rfl ?_
            exfalso; omega
          · refine R_iload_n 104 rfl dX11_twice_103 rfl ?_
            refine R_goto 109 rfl dX11_twice_104 ?_
            refine R_ireturn dX11_twice_109 rfl ?_
            exfalso; omega
        · refine R_iload_n 95 rfl dX11_twice_94 rfl ?_
          refine R_goto 109 rfl dX11_twice_95 ?_
          refine R_ireturn dX11_twice_109 rfl ?_
          exfalso; omega
      · refine R_aload_n 32 rfl dX11_twice_31 rfl ?_
        refine R_iload 34 rfl dX11_twice_32 rfl ?_
        refine R_iconst 35 rfl dX11_twice_34 ?_
        refine R_callV_i (M' := mX11_marksOf) 38 rfl dX11_twice_35 ml_X11_318 kmX11_marksOf im_X11_marksOf se_X11_marksOf rfl ⟨by decide, rfl⟩ (c_X11_marksOf _ _ hR ⟨by omega, by omega⟩ ⟨by omega, by omega⟩) rfl rfl ⟨Nat.le_of_ble_eq_true rfl, Nat.le_of_ble_eq_true rfl⟩ (Nat.le_of_ble_eq_true rfl) ⟨Nat.le_of_ble_eq_true rfl, Nat.le_of_ble_eq_true rfl⟩ ?_
        refine R_istore [_, _, _, _, _, _, _, _] 40 rfl dX11_twice_38 rfl (by decide) ?_
        refine R_aload_n 41 rfl dX11_twice_40 rfl ?_
        refine R_iload 43 rfl dX11_twice_41 rfl ?_
        refine R_iconst 44 rfl dX11_twice_43 ?_
        refine R_callV_i (M' := mX11_marksOf) 47 rfl dX11_twice_44 ml_X11_318 kmX11_marksOf im_X11_marksOf se_X11_marksOf rfl ⟨by decide, rfl⟩ (c_X11_marksOf _ _ hR ⟨by omega, by omega⟩ ⟨by omega, by omega⟩) rfl rfl ⟨Nat.le_of_ble_eq_true rfl, Nat.le_of_ble_eq_true rfl⟩ (Nat.le_of_ble_eq_true rfl) ⟨Nat.le_of_ble_eq_true rfl, Nat.le_of_ble_eq_true rfl⟩ ?_
        refine R_istore [_, _, _, _, _, _, _, _] 49 rfl dX11_twice_47 rfl (by decide) ?_
        refine R_iload 51 rfl dX11_twice_49 rfl ?_
        refine R_iload 53 rfl dX11_twice_51 rfl ?_
        refine R_iadd 54 rfl dX11_twice_53 ?_
        refine R_iconst 55 rfl dX11_twice_54 ?_
        refine R_icmp_le 58 84 rfl rfl dX11_twice_55 (by first | assumption | exact ⟨by omega, by omega⟩) (by first | assumption | exact ⟨by omega, by omega⟩) (fun h55 => ?_) (fun h55 => ?_)
        · refine R_iinc [_, _, _, _, _, _, _, _] 87 rfl dX11_twice_84 rfl rfl (by decide) ?_
          refine R_goto 26 rfl dX11_twice_87 ?_
          first
            | (have t0 : twI B 0 q = true := e0.mpr ⟨by omega, fun q => by omega⟩
               have t1 : two B 1 (q + 1) = true := e1.mpr ⟨by omega, fun q => by omega⟩
               rw [pI_t t0] at c0
               rw [if_pos t1] at ef
               first
                 | (have t2 : twI B 2 q = true := e2.mpr ⟨by omega, fun q => by omega⟩
                    rw [pI_t t2] at c2
                    exact ih (by omega) _ _ _ _ _ _ (by omega) (by omega) (by omega) (by omega))
                 | (have t2 : ¬ twI B 2 q = true := fun w1 => by have := (e2.mp w1).2 rfl; omega
                    rw [pI_f t2] at c2
                    exact ih (by omega) _ _ _ _ _ _ (by omega) (by omega) (by omega) (by omega)))
            | (have t0 : ¬ twI B 0 q = true := fun w1 => by have := (e0.mp w1).1; omega
               have t1 : ¬ two B 1 (q + 1) = true := fun w1 => by have := (e1.mp w1).1; omega
               have t2 : ¬ twI B 2 q = true := fun w1 => by have := (e2.mp w1).1; omega
               rw [pI_f t0] at c0
               rw [pI_f t2] at c2
               rw [if_neg t1] at ef
               exact ih (by omega) _ _ _ _ _ _ (by omega) (by omega) (by omega) (by omega))
        · refine R_iinc [_, _, _, _, _, _, _, _] 61 rfl dX11_twice_58 rfl rfl (by decide) ?_
          refine R_iload 63 rfl dX11_twice_61 rfl ?_
          refine R_istore_n [_, _, _, _, _, _, _, _] 64 rfl dX11_twice_63 rfl (by decide) ?_
          refine R_iload 66 rfl dX11_twice_64 rfl ?_
          refine R_iload 68 rfl dX11_twice_66 rfl ?_
          refine R_if_le 71 80 rfl rfl dX11_twice_68 (by first | assumption | exact ⟨by omega, by omega⟩) (fun h68 => ?_) (fun h68 => ?_)
          · refine R_iconst 81 rfl dX11_twice_80 ?_
            refine R_iadd 82 rfl dX11_twice_81 ?_
            refine R_istore [_, _, _, _, _, _, _, _] 84 rfl dX11_twice_82 rfl (by decide) ?_
            refine R_iinc [_, _, _, _, _, _, _, _] 87 rfl dX11_twice_84 rfl rfl (by decide) ?_
            refine R_goto 26 rfl dX11_twice_87 ?_
            first
              | (have t0 : twI B 0 q = true := e0.mpr ⟨by omega, fun q => by omega⟩
                 have t1 : two B 1 (q + 1) = true := e1.mpr ⟨by omega, fun q => by omega⟩
                 rw [pI_t t0] at c0
                 rw [if_pos t1] at ef
                 first
                   | (have t2 : twI B 2 q = true := e2.mpr ⟨by omega, fun q => by omega⟩
                      rw [pI_t t2] at c2
                      exact ih (by omega) _ _ _ _ _ _ (by omega) (by omega) (by omega) (by omega))
                   | (have t2 : ¬ twI B 2 q = true := fun w1 => by have := (e2.mp w1).2 rfl; omega
                      rw [pI_f t2] at c2
                      exact ih (by omega) _ _ _ _ _ _ (by omega) (by omega) (by omega) (by omega)))
              | (have t0 : ¬ twI B 0 q = true := fun w1 => by have := (e0.mp w1).1; omega
                 have t1 : ¬ two B 1 (q + 1) = true := fun w1 => by have := (e1.mp w1).1; omega
                 have t2 : ¬ twI B 2 q = true := fun w1 => by have := (e2.mp w1).1; omega
                 rw [pI_f t0] at c0
                 rw [pI_f t2] at c2
                 rw [if_neg t1] at ef
                 exact ih (by omega) _ _ _ _ _ _ (by omega) (by omega) (by omega) (by omega))
          · refine R_iload 73 rfl dX11_twice_71 rfl ?_
            refine R_if_le 76 80 rfl rfl dX11_twice_73 (by first | assumption | exact ⟨by omega, by omega⟩) (fun h73 => ?_) (fun h73 => ?_)
            · refine R_iconst 81 rfl dX11_twice_80 ?_
              refine R_iadd 82 rfl dX11_twice_81 ?_
              refine R_istore [_, _, _, _, _, _, _, _] 84 rfl dX11_twice_82 rfl (by decide) ?_
              refine R_iinc [_, _, _, _, _, _, _, _] 87 rfl dX11_twice_84 rfl rfl (by decide) ?_
              refine R_goto 26 rfl dX11_twice_87 ?_
              first
                | (have t0 : twI B 0 q = true := e0.mpr ⟨by omega, fun q => by omega⟩
                   have t1 : two B 1 (q + 1) = true := e1.mpr ⟨by omega, fun q => by omega⟩
                   rw [pI_t t0] at c0
                   rw [if_pos t1] at ef
                   first
                     | (have t2 : twI B 2 q = true := e2.mpr ⟨by omega, fun q => by omega⟩
                        rw [pI_t t2] at c2
                        exact ih (by omega) _ _ _ _ _ _ (by omega) (by omega) (by omega) (by omega))
                     | (have t2 : ¬ twI B 2 q = true := fun w1 => by have := (e2.mp w1).2 rfl; omega
                        rw [pI_f t2] at c2
                        exact ih (by omega) _ _ _ _ _ _ (by omega) (by omega) (by omega) (by omega)))
                | (have t0 : ¬ twI B 0 q = true := fun w1 => by have := (e0.mp w1).1; omega
                   have t1 : ¬ two B 1 (q + 1) = true := fun w1 => by have := (e1.mp w1).1; omega
                   have t2 : ¬ twI B 2 q = true := fun w1 => by have := (e2.mp w1).1; omega
                   rw [pI_f t0] at c0
                   rw [pI_f t2] at c2
                   rw [if_neg t1] at ef
                   exact ih (by omega) _ _ _ _ _ _ (by omega) (by omega) (by omega) (by omega))
            · refine R_iconst 77 rfl dX11_twice_76 ?_
              refine R_goto 81 rfl dX11_twice_77 ?_
              refine R_iadd 82 rfl dX11_twice_81 ?_
              refine R_istore [_, _, _, _, _, _, _, _] 84 rfl dX11_twice_82 rfl (by decide) ?_
              refine R_iinc [_, _, _, _, _, _, _, _] 87 rfl dX11_twice_84 rfl rfl (by decide) ?_
              refine R_goto 26 rfl dX11_twice_87 ?_
              first
                | (have t0 : twI B 0 q = true := e0.mpr ⟨by omega, fun q => by omega⟩
                   have t1 : two B 1 (q + 1) = true := e1.mpr ⟨by omega, fun q => by omega⟩
                   rw [pI_t t0] at c0
                   rw [if_pos t1] at ef
                   first
                     | (have t2 : twI B 2 q = true := e2.mpr ⟨by omega, fun q => by omega⟩
                        rw [pI_t t2] at c2
                        exact ih (by omega) _ _ _ _ _ _ (by omega) (by omega) (by omega) (by omega))
                     | (have t2 : ¬ twI B 2 q = true := fun w1 => by have := (e2.mp w1).2 rfl; omega
                        rw [pI_f t2] at c2
                        exact ih (by omega) _ _ _ _ _ _ (by omega) (by omega) (by omega) (by omega)))
                | (have t0 : ¬ twI B 0 q = true := fun w1 => by have := (e0.mp w1).1; omega
                   have t1 : ¬ two B 1 (q + 1) = true := fun w1 => by have := (e1.mp w1).1; omega
                   have t2 : ¬ twI B 2 q = true := fun w1 => by have := (e2.mp w1).1; omega
                   rw [pI_f t0] at c0
                   rw [pI_f t2] at c2
                   rw [if_neg t1] at ef
                   exact ih (by omega) _ _ _ _ _ _ (by omega) (by omega) (by omega) (by omega))
  refine R_iload_n 1 rfl dX11_twice_0 rfl ?_
  refine R_i2l 2 rfl dX11_twice_1 (by first | assumption | exact ⟨by omega, by omega⟩) ?_
  refine R_lconst 3 rfl dX11_twice_2 ?_
  refine R_topL (b := 0) rfl ?_
  refine R_ldc2 (2) 6 rfl dX11_twice_3 kl_X11_202 (by decide) ?_
  refine R_callS_i (M' := mX11_in) 9 rfl dX11_twice_6 ml_X11_63 kmX11_in st_X11_in (c_X11_in _ _ _ (by first | assumption | exact ⟨by omega, by omega⟩ | exact rg_L (by assumption)) (by first | assumption | exact ⟨by omega, by omega⟩ | exact rg_L (by assumption)) (by first | assumption | exact ⟨by omega, by omega⟩ | exact rg_L (by assumption))) rfl rfl ⟨Nat.le_of_ble_eq_true rfl, Nat.le_of_ble_eq_true rfl⟩ (Nat.le_of_ble_eq_true rfl) ⟨Nat.le_of_ble_eq_true rfl, Nat.le_of_ble_eq_true rfl⟩ ?_
  refine R_ifp_ne 12 14 rfl rfl dX11_twice_9 (fun h9 => ?_) (fun h9 => ?_)
  · refine R_iconst 15 rfl dX11_twice_14 ?_
    refine R_istore_n [_, _, _, _, _, _, _, _] 16 rfl dX11_twice_15 rfl (by decide) ?_
    refine R_bipush 18 rfl dX11_twice_16 (by decide) ?_
    refine R_istore_n [_, _, _, _, _, _, _, _] 19 rfl dX11_twice_18 rfl (by decide) ?_
    refine R_iconst 20 rfl dX11_twice_19 ?_
    refine R_istore [_, _, _, _, _, _, _, _] 22 rfl dX11_twice_20 rfl (by decide) ?_
    refine R_bipush 24 rfl dX11_twice_22 (by decide) ?_
    refine R_istore [_, _, _, _, _, _, _, _] 26 rfl dX11_twice_24 rfl (by decide) ?_
    exact Lp (by omega) 99 (by omega) _ _ _ _ _ _ (by omega) rfl (by omega) rfl
  · refine R_iconst 13 rfl dX11_twice_12 ?_
    refine R_ireturn dX11_twice_13 rfl ?_
    exact QI_mk ⟨by unfold a_twice; rw [if_neg (by omega)], Fm.rf, hR⟩
theorem c_X11_find (p n w : Int) (hR : RS L B ch m) (hp : rg p) (hn : rg n) (hw : rg w) : C Γ mX11_find 2 80 0 0 [vr 96, vi p, vi n, vi w] SH m (QM L B ch m (a_find L B p n w)) := by
  refine C_of_R rfl (Nat.le_of_ble_eq_true rfl) ?_
  have hO := hR.2.2.2.2.1
  have h3 := hO.1
  have hl := hR.2.2.1.1
  have Lo : (0 ≤ p ∧ p < L.1 0) ∧ (0 ≤ n ∧ n ≤ 4) ∧ (0 ≤ w ∧ w ≤ 1) → ∀ h : Nat, h ≤ 256 → ∀ be mo z x7 x8 x9, be = fnB B p n h → mo = (fnM B p n h : Int) → z = (h : Int) → R Γ mX11_find { frames := 2, cells := 0, slots := 0, locals := 80 } 0 0 (QM L B ch m (a_find L B p n w)) 0 0 42 [some (vr 96), some (vi p), some (vi n), some (vi w), some (vi be), some (vi mo), some (vi z), x7, x8, x9] [] SH m := by
    intro ho
    refine up_ind 256 (fun h hh ih be mo z x7 x8 x9 hbe hmo hz => ?_)
    have fr := fn_rel B p n h
    have fl : fnM B p n h ≤ 2 * B.1 := by
      have key : ∀ h, fnM B p n h ≤ 2 * B.1 := by
        intro h
        induction h with
        | zero => simp [fnM]
        | succ h ih =>
          have : nr B p n h ≤ 2 * B.1 := cnt_le _ _
          unfold fnM
          split <;> omega
      exact key h
    have Li : h < 256 → ∀ k, k ≤ 2 * B.1 → ∀ a y x, a = (cnt (nrI B p n (h : Int)) k : Int) → y = (k : Int) → R Γ mX11_find { frames := 2, cells := 0, slots := 0, locals := 80 } 0 0 (QM L B ch m (a_find L B p n w)) 0 0 56 [some (vr 96), some (vi p), some (vi n), some (vi w), some (vi be), some (vi mo), some (vi z), some (vi a), some (vi y), x] [] SH m := by
      intro hlt
      subst hz
      refine up_ind (2 * B.1) (fun k hk ih2 a y x ha hy => ?_)
      have cl := cnt_le (nrI B p n (h : Int)) k
      refine R_iload 58 rfl dX11_find_56 rfl ?_
      refine R_iconst 59 rfl dX11_find_58 ?_
      refine R_aload_n 60 rfl dX11_find_59 rfl ?_
      refine R_callV_i (M' := mX11_size) 63 rfl dX11_find_60 ml_X11_150 kmX11_size im_X11_size se_X11_size rfl ⟨by decide, rfl⟩ (c_X11_size hR) rfl rfl ⟨Nat.le_of_ble_eq_true rfl, Nat.le_of_ble_eq_true rfl⟩ (Nat.le_of_ble_eq_true rfl) ⟨Nat.le_of_ble_eq_true rfl, Nat.le_of_ble_eq_true rfl⟩ ?_
      refine R_imul 64 rfl dX11_find_63 ?_
      refine R_icmp_ge 67 148 rfl rfl dX11_find_64 (by first | assumption | exact ⟨by omega, by omega⟩) (by first | assumption | exact ⟨by omega, by omega⟩) (fun h64 => ?_) (fun h64 => ?_)
      · refine R_iload 150 rfl dX11_find_148 rfl ?_
        refine R_iload 152 rfl dX11_find_150 rfl ?_
        refine R_icmp_le 155 160 rfl rfl dX11_find_152 (by first | assumption | exact ⟨by omega, by omega⟩) (by first | assumption | exact ⟨by omega, by omega⟩) (fun h152 => ?_) (fun h152 => ?_)
        · refine R_iload 162 rfl dX11_find_160 rfl ?_
          refine R_istore [_, _, _, _, _, _, _, _, _, _] 164 rfl dX11_find_162 rfl (by decide) ?_
          refine R_iload 166 rfl dX11_find_164 rfl ?_
          refine R_iload 168 rfl dX11_find_166 rfl ?_
          refine R_icmp_le 171 176 rfl rfl dX11_find_168 (by first | assumption | exact ⟨by omega, by omega⟩) (by first | assumption | exact ⟨by omega, by omega⟩) (fun h168 => ?_) (fun h168 => ?_)
          · refine R_iload 178 rfl dX11_find_176 rfl ?_
            refine R_istore [_, _, _, _, _, _, _, _, _, _] 180 rfl dX11_find_178 rfl (by decide) ?_
            refine R_iinc [_, _, _, _, _, _, _, _, _, _] 183 rfl dX11_find_180 rfl rfl (by decide) ?_
            refine R_goto 42 rfl dX11_find_183 ?_
            have ek : k = 2 * B.1 := by omega
            subst ek
            have ea : a = (nr B p n h : Int) := ha
            first
              | (exfalso; omega)
              | (have y := fn_y (B := B) (p := p) (n := n) (h := h) (by omega)
                 exact ih (by omega) _ _ _ _ _ _ (by omega) (by omega) (by omega))
              | (have y := fn_n (B := B) (p := p) (n := n) (h := h) (by omega)
                 exact ih (by omega) _ _ _ _ _ _ (by omega) (by omega) (by omega))
          · refine R_iload 173 rfl dX11_find_171 rfl ?_
            refine R_goto 178 rfl dX11_find_173 ?_
            refine R_istore [_, _, _, _, _, _, _, _, _, _] 180 rfl dX11_find_178 rfl (by decide) ?_
            refine R_iinc [_, _, _, _, _, _, _, _, _, _] 183 rfl dX11_find_180 rfl rfl (by decide) ?_
            refine R_goto 42 rfl dX11_find_183 ?_
            have ek : k = 2 * B.1 := by omega
            subst ek
            have ea : a = (nr B p n h : Int) := ha
            first
              | (exfalso; omega)
              | (have y := fn_y (B := B) (p := p) (n := n) (h := h) (by omega)
                 exact ih (by omega) _ _ _ _ _ _ (by omega) (by omega) (by omega))
              | (have y := fn_n (B := B) (p := p) (n := n) (h := h) (by omega)
                 exact ih (by omega) _ _ _ _ _ _ (by omega) (by omega) (by omega))
        · refine R_iload 157 rfl dX11_find_155 rfl ?_
          refine R_goto 162 rfl dX11_find_157 ?_
          refine R_istore [_, _, _, _, _, _, _, _, _, _] 164 rfl dX11_find_162 rfl (by decide) ?_
          refine R_iload 166 rfl dX11_find_164 rfl ?_
          refine R_iload 168 rfl dX11_find_166 rfl ?_
          refine R_icmp_le 171 176 rfl rfl dX11_find_168 (by first | assumption | exact ⟨by omega, by omega⟩) (by first | assumption | exact ⟨by omega, by omega⟩) (fun h168 => ?_) (fun h168 => ?_)
          · refine R_iload 178 rfl dX11_find_176 rfl ?_
            refine R_istore [_, _, _, _, _, _, _, _, _, _] 180 rfl dX11_find_178 rfl (by decide) ?_
            refine R_iinc [_, _, _, _, _, _, _, _, _, _] 183 rfl dX11_find_180 rfl rfl (by decide) ?_
            refine R_goto 42 rfl dX11_find_183 ?_
            have ek : k = 2 * B.1 := by omega
            subst ek
            have ea : a = (nr B p n h : Int) := ha
            first
              | (exfalso; omega)
              | (have y := fn_y (B := B) (p := p) (n := n) (h := h) (by omega)
                 exact ih (by omega) _ _ _ _ _ _ (by omega) (by omega) (by omega))
              | (have y := fn_n (B := B) (p := p) (n := n) (h := h) (by omega)
                 exact ih (by omega) _ _ _ _ _ _ (by omega) (by omega) (by omega))
          · refine R_iload 173 rfl dX11_find_171 rfl ?_
            refine R_goto 178 rfl dX11_find_173 ?_
            refine R_istore [_, _, _, _, _, _, _, _, _, _] 180 rfl dX11_find_178 rfl (by decide) ?_
            refine R_iinc [_, _, _, _, _, _, _, _, _, _] 183 rfl dX11_find_180 rfl rfl (by decide) ?_
            refine R_goto 42 rfl dX11_find_183 ?_
            have ek : k = 2 * B.1 := by omega
            subst ek
            have ea : a = (nr B p n h : Int) := ha
            first
              | (exfalso; omega)
              | (have y := fn_y (B := B) (p := p) (n := n) (h := h) (by omega)
                 exact ih (by omega) _ _ _ _ _ _ (by omega) (by omega) (by omega))
              | (have y := fn_n (B := B) (p := p) (n := n) (h := h) (by omega)
                 exact ih (by omega) _ _ _ _ _ _ (by omega) (by omega) (by omega))
      · have g4 := hO.2.1 (k / 2) (by omega)
        have g5 := hO.2.2 k (by omega)
        have ar := ap_rg (B.2.2 2 k) (h : Int)
        have ac := ap_comm (B.2.2 2 k) (h : Int)
        have e1 := nrI_iff (B := B) (p := p) (n := n) (h := (h : Int)) (k := k)
        refine R_aload_n 68 rfl dX11_find_67 rfl ?_
        refine R_iload 70 rfl dX11_find_68 rfl ?_
        refine R_iconst 71 rfl dX11_find_70 ?_
        refine R_idiv_p 72 rfl dX11_find_71 (by first | assumption | exact ⟨by omega, by omega⟩) (by first | assumption | exact ⟨by omega, by omega⟩) (by omega) (by omega) ?_
        refine R_iconst 73 rfl dX11_find_72 ?_
        refine R_callV_i (M' := mX11_its) 76 rfl dX11_find_73 ml_X11_153 kmX11_its im_X11_its se_X11_its rfl ⟨by decide, rfl⟩ (c_X11_its _ _ (k / 2) 0 hR (by omega) (by omega) (by omega) (by omega)) rfl rfl ⟨Nat.le_of_ble_eq_true rfl, Nat.le_of_ble_eq_true rfl⟩ (Nat.le_of_ble_eq_true rfl) ⟨Nat.le_of_ble_eq_true rfl, Nat.le_of_ble_eq_true rfl⟩ ?_
        refine R_iload_n 77 rfl dX11_find_76 rfl ?_
        refine R_icmp_ne 80 101 rfl rfl dX11_find_77 (by first | assumption | exact ⟨by omega, by omega⟩) (by first | assumption | exact ⟨by omega, by omega⟩) (fun h77 => ?_) (fun h77 => ?_)
        · refine R_iconst 102 rfl dX11_find_101 ?_
          refine R_istore [_, _, _, _, _, _, _, _, _, _] 104 rfl dX11_find_102 rfl (by decide) ?_
          refine R_iload 106 rfl dX11_find_104 rfl ?_
          refine R_iload 108 rfl dX11_find_106 rfl ?_
          refine R_if_eq 111 138 rfl rfl dX11_find_108 (by first | assumption | exact ⟨by omega, by omega⟩) (fun h108 => ?_) (fun h108 => ?_)
          rotate_left
          · exact absurd h108 (by omega)
          refine R_iconst 139 rfl dX11_find_138 ?_
          refine R_iadd 140 rfl dX11_find_139 ?_
          refine R_istore [_, _, _, _, _, _, _, _, _, _] 142 rfl dX11_find_140 rfl (by decide) ?_
          refine R_iinc [_, _, _, _, _, _, _, _, _, _] 145 rfl dX11_find_142 rfl rfl (by decide) ?_
          refine R_goto 56 rfl dX11_find_145 ?_
          first
            | exact ih2 (by omega) _ _ _ (by rw [cnt_y (e1.mpr (by omega))]; omega) (by omega)
            | exact ih2 (by omega) _ _ _ (by rw [cnt_n (fun q => by have := e1.mp q; omega)]; omega) (by omega)
        · refine R_aload_n 81 rfl dX11_find_80 rfl ?_
          refine R_iload 83 rfl dX11_find_81 rfl ?_
          refine R_iconst 84 rfl dX11_find_83 ?_
          refine R_idiv_p 85 rfl dX11_find_84 (by first | assumption | exact ⟨by omega, by omega⟩) (by first | assumption | exact ⟨by omega, by omega⟩) (by omega) (by omega) ?_
          refine R_iload 87 rfl dX11_find_85 rfl ?_
          refine R_iconst 88 rfl dX11_find_87 ?_
          refine R_irem_p 89 rfl dX11_find_88 (by first | assumption | exact ⟨by omega, by omega⟩) (by first | assumption | exact ⟨by omega, by omega⟩) (by omega) (by omega) ?_
          refine R_iconst 90 rfl dX11_find_89 ?_
          refine R_callV_i (M' := mX11_of5) 93 rfl dX11_find_90 ml_X11_198 kmX11_of5 im_X11_of5 se_X11_of5 rfl ⟨by decide, rfl⟩ (c_X11_of5 _ _ _ k 0 hR (by omega) (by omega) (by omega) (by omega) (by omega)) rfl rfl ⟨Nat.le_of_ble_eq_true rfl, Nat.le_of_ble_eq_true rfl⟩ (Nat.le_of_ble_eq_true rfl) ⟨Nat.le_of_ble_eq_true rfl, Nat.le_of_ble_eq_true rfl⟩ ?_
          refine R_iconst 94 rfl dX11_find_93 ?_
          refine R_icmp_ne 97 101 rfl rfl dX11_find_94 (by first | assumption | exact ⟨by omega, by omega⟩) (by first | assumption | exact ⟨by omega, by omega⟩) (fun h94 => ?_) (fun h94 => ?_)
          · refine R_iconst 102 rfl dX11_find_101 ?_
            refine R_istore [_, _, _, _, _, _, _, _, _, _] 104 rfl dX11_find_102 rfl (by decide) ?_
            refine R_iload 106 rfl dX11_find_104 rfl ?_
            refine R_iload 108 rfl dX11_find_106 rfl ?_
            refine R_if_eq 111 138 rfl rfl dX11_find_108 (by first | assumption | exact ⟨by omega, by omega⟩) (fun h108 => ?_) (fun h108 => ?_)
            rotate_left
            · exact absurd h108 (by omega)
            refine R_iconst 139 rfl dX11_find_138 ?_
            refine R_iadd 140 rfl dX11_find_139 ?_
            refine R_istore [_, _, _, _, _, _, _, _, _, _] 142 rfl dX11_find_140 rfl (by decide) ?_
            refine R_iinc [_, _, _, _, _, _, _, _, _, _] 145 rfl dX11_find_142 rfl rfl (by decide) ?_
            refine R_goto 56 rfl dX11_find_145 ?_
            first
              | exact ih2 (by omega) _ _ _ (by rw [cnt_y (e1.mpr (by omega))]; omega) (by omega)
              | exact ih2 (by omega) _ _ _ (by rw [cnt_n (fun q => by have := e1.mp q; omega)]; omega) (by omega)
          · refine R_iconst 98 rfl dX11_find_97 ?_
            refine R_goto 102 rfl dX11_find_98 ?_
            refine R_istore [_, _, _, _, _, _, _, _, _, _] 104 rfl dX11_find_102 rfl (by decide) ?_
            refine R_iload 106 rfl dX11_find_104 rfl ?_
            refine R_iload 108 rfl dX11_find_106 rfl ?_
            refine R_if_eq 111 138 rfl rfl dX11_find_108 (by first | assumption | exact ⟨by omega, by omega⟩) (fun h108 => ?_) (fun h108 => ?_)
            · exact absurd h108 (by omega)
            refine R_iload 113 rfl dX11_find_111 rfl ?_
            refine R_aload_n 114 rfl dX11_find_113 rfl ?_
            refine R_iload 116 rfl dX11_find_114 rfl ?_
            refine R_iconst 117 rfl dX11_find_116 ?_
            refine R_idiv_p 118 rfl dX11_find_117 (by first | assumption | exact ⟨by omega, by omega⟩) (by first | assumption | exact ⟨by omega, by omega⟩) (by omega) (by omega) ?_
            refine R_iload 120 rfl dX11_find_118 rfl ?_
            refine R_iconst 121 rfl dX11_find_120 ?_
            refine R_irem_p 122 rfl dX11_find_121 (by first | assumption | exact ⟨by omega, by omega⟩) (by first | assumption | exact ⟨by omega, by omega⟩) (by omega) (by omega) ?_
            refine R_iconst 123 rfl dX11_find_122 ?_
            refine R_callV_i (M' := mX11_of5) 126 rfl dX11_find_123 ml_X11_198 kmX11_of5 im_X11_of5 se_X11_of5 rfl ⟨by decide, rfl⟩ (c_X11_of5 _ _ _ k 2 hR (by omega) (by omega) (by omega) (by omega) (by omega)) rfl rfl ⟨Nat.le_of_ble_eq_true rfl, Nat.le_of_ble_eq_true rfl⟩ (Nat.le_of_ble_eq_true rfl) ⟨Nat.le_of_ble_eq_true rfl, Nat.le_of_ble_eq_true rfl⟩ ?_
            refine R_top (b := ((B.2.2 2 k).toNat : Int)) (by omega) ?_
            refine R_ixor 127 rfl dX11_find_126 ?_
            refine R_callS_i (M' := mX11_bitsOf) 130 rfl dX11_find_127 ml_X11_204 kmX11_bitsOf st_X11_bitsOf (c_X11_bitsOf _ (Nat.lt_of_lt_of_le (Nat.xor_lt_two_pow (n := 8) (by omega) (by omega)) (by decide))) rfl rfl ⟨Nat.le_of_ble_eq_true rfl, Nat.le_of_ble_eq_true rfl⟩ (Nat.le_of_ble_eq_true rfl) ⟨Nat.le_of_ble_eq_true rfl, Nat.le_of_ble_eq_true rfl⟩ ?_
            refine R_top (b := ap (h : Int) (B.2.2 2 k)) rfl ?_
            refine R_iload_n 131 rfl dX11_find_130 rfl ?_
            refine R_icmp_gt 134 138 rfl rfl dX11_find_131 (by first | assumption | exact ⟨by omega, by omega⟩) (by first | assumption | exact ⟨by omega, by omega⟩) (fun h131 => ?_) (fun h131 => ?_)
            · refine R_iconst 139 rfl dX11_find_138 ?_
              refine R_iadd 140 rfl dX11_find_139 ?_
              refine R_istore [_, _, _, _, _, _, _, _, _, _] 142 rfl dX11_find_140 rfl (by decide) ?_
              refine R_iinc [_, _, _, _, _, _, _, _, _, _] 145 rfl dX11_find_142 rfl rfl (by decide) ?_
              refine R_goto 56 rfl dX11_find_145 ?_
              first
                | exact ih2 (by omega) _ _ _ (by rw [cnt_y (e1.mpr (by omega))]; omega) (by omega)
                | exact ih2 (by omega) _ _ _ (by rw [cnt_n (fun q => by have := e1.mp q; omega)]; omega) (by omega)
            · refine R_iconst 135 rfl dX11_find_134 ?_
              refine R_goto 139 rfl dX11_find_135 ?_
              refine R_iadd 140 rfl dX11_find_139 ?_
              refine R_istore [_, _, _, _, _, _, _, _, _, _] 142 rfl dX11_find_140 rfl (by decide) ?_
              refine R_iinc [_, _, _, _, _, _, _, _, _, _] 145 rfl dX11_find_142 rfl rfl (by decide) ?_
              refine R_goto 56 rfl dX11_find_145 ?_
              first
                | exact ih2 (by omega) _ _ _ (by rw [cnt_y (e1.mpr (by omega))]; omega) (by omega)
                | exact ih2 (by omega) _ _ _ (by rw [cnt_n (fun q => by have := e1.mp q; omega)]; omega) (by omega)
    refine R_iload 44 rfl dX11_find_42 rfl ?_
    refine R_sipush 47 rfl dX11_find_44 (by decide) ?_
    refine R_icmp_ge 50 186 rfl rfl dX11_find_47 (by first | assumption | exact ⟨by omega, by omega⟩) (by first | assumption | exact ⟨by omega, by omega⟩) (fun h47 => ?_) (fun h47 => ?_)
    · refine R_iload 188 rfl dX11_find_186 rfl ?_
      refine R_bipush 190 rfl dX11_find_188 (by decide) ?_
      refine R_icmp_eq 193 197 rfl rfl dX11_find_190 (by first | assumption | exact ⟨by omega, by omega⟩) (by first | assumption | exact ⟨by omega, by omega⟩) (fun h190 => ?_) (fun h190 => ?_)
      · refine R_iload 199 rfl dX11_find_197 rfl ?_
        refine R_goto 204 rfl dX11_find_199 ?_
        refine R_ireturn dX11_find_204 rfl ?_
        have eh : h = 256 := by omega
        subst eh
        refine QI_mk ⟨?_, Fm.rf, hR⟩
        unfold a_find fnd
        rw [if_pos ho]
        first
          | (rw [if_pos (Or.inl (by omega))]; exact hbe)
          | (rw [if_pos (Or.inr (by omega))]; exact hbe)
          | (rw [if_neg (by omega)]; exact hmo)
      · refine R_iload_n 194 rfl dX11_find_193 rfl ?_
        refine R_if_ne 197 202 rfl rfl dX11_find_194 (by first | assumption | exact ⟨by omega, by omega⟩) (fun h194 => ?_) (fun h194 => ?_)
        · refine R_iload 204 rfl dX11_find_202 rfl ?_
          refine R_ireturn dX11_find_204 rfl ?_
          have eh : h = 256 := by omega
          subst eh
          refine QI_mk ⟨?_, Fm.rf, hR⟩
          unfold a_find fnd
          rw [if_pos ho]
          first
            | (rw [if_pos (Or.inl (by omega))]; exact hbe)
            | (rw [if_pos (Or.inr (by omega))]; exact hbe)
            | (rw [if_neg (by omega)]; exact hmo)
        · refine R_iload 199 rfl dX11_find_197 rfl ?_
          refine R_goto 204 rfl dX11_find_199 ?_
          refine R_ireturn dX11_find_204 rfl ?_
          have eh : h = 256 := by omega
          subst eh
          refine QI_mk ⟨?_, Fm.rf, hR⟩
          unfold a_find fnd
          rw [if_pos ho]
          first
            | (rw [if_pos (Or.inl (by omega))]; exact hbe)
            | (rw [if_pos (Or.inr (by omega))]; exact hbe)
            | (rw [if_neg (by omega)]; exact hmo)
    · refine R_iconst 51 rfl dX11_find_50 ?_
      refine R_istore [_, _, _, _, _, _, _, _, _, _] 53 rfl dX11_find_51 rfl (by decide) ?_
      refine R_iconst 54 rfl dX11_find_53 ?_
      refine R_istore [_, _, _, _, _, _, _, _, _, _] 56 rfl dX11_find_54 rfl (by decide) ?_
      exact Li (by omega) 0 (by omega) _ _ _ rfl rfl
  refine R_aload_n 1 rfl dX11_find_0 rfl ?_
  refine R_iload_n 2 rfl dX11_find_1 rfl ?_
  refine R_callV_i (M' := mX11_isParish) 5 rfl dX11_find_2 ml_X11_144 kmX11_isParish im_X11_isParish se_X11_isParish rfl ⟨by decide, rfl⟩ (c_X11_isParish _ hR (by first | assumption | exact ⟨by omega, by omega⟩)) rfl rfl ⟨Nat.le_of_ble_eq_true rfl, Nat.le_of_ble_eq_true rfl⟩ (Nat.le_of_ble_eq_true rfl) ⟨Nat.le_of_ble_eq_true rfl, Nat.le_of_ble_eq_true rfl⟩ ?_
  refine R_ifp_eq 8 30 rfl rfl dX11_find_5 (fun h5 => ?_) (fun h5 => ?_)
  · refine R_iconst 31 rfl dX11_find_30 ?_
    refine R_ireturn dX11_find_31 rfl ?_
    exact QI_mk ⟨by unfold a_find; rw [if_neg (by omega)], Fm.rf, hR⟩
  · refine R_iload_n 9 rfl dX11_find_8 rfl ?_
    refine R_i2l 10 rfl dX11_find_9 (by first | assumption | exact ⟨by omega, by omega⟩) ?_
    refine R_lconst 11 rfl dX11_find_10 ?_
    refine R_topL (b := 0) rfl ?_
    refine R_ldc2 (4) 14 rfl dX11_find_11 kl_X11_148 (by decide) ?_
    refine R_callS_i (M' := mX11_in) 17 rfl dX11_find_14 ml_X11_63 kmX11_in st_X11_in (c_X11_in _ _ _ (by first | assumption | exact ⟨by omega, by omega⟩ | exact rg_L (by assumption)) (by first | assumption | exact ⟨by omega, by omega⟩ | exact rg_L (by assumption)) (by first | assumption | exact ⟨by omega, by omega⟩ | exact rg_L (by assumption))) rfl rfl ⟨Nat.le_of_ble_eq_true rfl, Nat.le_of_ble_eq_true rfl⟩ (Nat.le_of_ble_eq_true rfl) ⟨Nat.le_of_ble_eq_true rfl, Nat.le_of_ble_eq_true rfl⟩ ?_
    refine R_ifp_eq 20 30 rfl rfl dX11_find_17 (fun h17 => ?_) (fun h17 => ?_)
    · refine R_iconst 31 rfl dX11_find_30 ?_
      refine R_ireturn dX11_find_31 rfl ?_
      exact QI_mk ⟨by unfold a_find; rw [if_neg (by omega)], Fm.rf, hR⟩
    · refine R_iload_n 21 rfl dX11_find_20 rfl ?_
      refine R_i2l 22 rfl dX11_find_21 (by first | assumption | exact ⟨by omega, by omega⟩) ?_
      refine R_lconst 23 rfl dX11_find_22 ?_
      refine R_topL (b := 0) rfl ?_
      refine R_lconst 24 rfl dX11_find_23 ?_
      refine R_topL (b := 1) rfl ?_
      refine R_callS_i (M' := mX11_in) 27 rfl dX11_find_24 ml_X11_63 kmX11_in st_X11_in (c_X11_in _ _ _ (by first | assumption | exact ⟨by omega, by omega⟩ | exact rg_L (by assumption)) (by first | assumption | exact ⟨by omega, by omega⟩ | exact rg_L (by assumption)) (by first | assumption | exact ⟨by omega, by omega⟩ | exact rg_L (by assumption))) rfl rfl ⟨Nat.le_of_ble_eq_true rfl, Nat.le_of_ble_eq_true rfl⟩ (Nat.le_of_ble_eq_true rfl) ⟨Nat.le_of_ble_eq_true rfl, Nat.le_of_ble_eq_true rfl⟩ ?_
      refine R_ifp_ne 30 32 rfl rfl dX11_find_27 (fun h27 => ?_) (fun h27 => ?_)
      · refine R_bipush 34 rfl dX11_find_32 (by decide) ?_
        refine R_istore [_, _, _, _, _, _, _, _, _, _] 36 rfl dX11_find_34 rfl (by decide) ?_
        refine R_iconst 37 rfl dX11_find_36 ?_
        refine R_istore [_, _, _, _, _, _, _, _, _, _] 39 rfl dX11_find_37 rfl (by decide) ?_
        refine R_iconst 40 rfl dX11_find_39 ?_
        refine R_istore [_, _, _, _, _, _, _, _, _, _] 42 rfl dX11_find_40 rfl (by decide) ?_
        exact Lo (by omega) 0 (by omega) _ _ _ _ _ _ rfl rfl rfl
      · refine R_iconst 31 rfl dX11_find_30 ?_
        refine R_ireturn dX11_find_31 rfl ?_
        exact QI_mk ⟨by unfold a_find; rw [if_neg (by omega)], Fm.rf, hR⟩
end
