theorem mmU_s (mk : Nat → Int) (g : Nat) : mmU mk (g + 1) = if mk (mmU mk g) < mk g then g else mmU mk g := rfl
theorem tnP_iff {L : Ld} {B : Bk} {ch : Cs} {c g k : Nat} : tnP L B ch c g k = true ↔ (B.2.2 1 k ≠ 0 ∧ (-60 ≤ tnY L B k ∧ tnY L B k ≤ 89) ∧ inC B ch c k = true ∧ (tnY L B k + 60) / 10 = (g : Int)) := by
  simp [tnP, tnA, and_assoc]
section
variable {Γ : GX} {m m' : Mem} {B B' : Bk} {L : Ld} {ch ch' : Cs}
theorem c_X11_learnt (c a b w : Int) (hR : RS L B ch m) (hc : rg c) (ha : rg a) (hb : rg b) (hw : rg w) : C Γ mX11_learnt 8 320 0 0 [vr 96, vi c, vi a, vi b, vi w] SH m (QM L B ch m (a_learnt L B ch c a b w)) := by
  refine C_of_R rfl (Nat.le_of_ble_eq_true rfl) ?_
  refine R_iload_n 1 rfl dX11_learnt_0 rfl ?_
  refine R_callS_i (M' := mX11_isChoice) 4 rfl dX11_learnt_1 ml_X11_222 kmX11_isChoice st_X11_isChoice (c_X11_isChoice _ (by first | assumption | exact ⟨by omega, by omega⟩)) rfl rfl ⟨Nat.le_of_ble_eq_true rfl, Nat.le_of_ble_eq_true rfl⟩ (Nat.le_of_ble_eq_true rfl) ⟨Nat.le_of_ble_eq_true rfl, Nat.le_of_ble_eq_true rfl⟩ ?_
  refine R_ifp_eq 7 28 rfl rfl dX11_learnt_4 (fun h4 => ?_) (fun h4 => ?_)
  · refine R_iconst 29 rfl dX11_learnt_28 ?_
    refine R_ireturn dX11_learnt_29 rfl ?_
    exact QI_mk ⟨by unfold a_learnt; rw [if_neg (by omega)], Fm.rf, hR⟩
  · refine R_iload_n 8 rfl dX11_learnt_7 rfl ?_
    refine R_iload_n 9 rfl dX11_learnt_8 rfl ?_
    refine R_callS_i (M' := mX11_isSpan) 12 rfl dX11_learnt_9 ml_X11_281 kmX11_isSpan st_X11_isSpan (c_X11_isSpan _ _ (by first | assumption | exact ⟨by omega, by omega⟩) (by first | assumption | exact ⟨by omega, by omega⟩)) rfl rfl ⟨Nat.le_of_ble_eq_true rfl, Nat.le_of_ble_eq_true rfl⟩ (Nat.le_of_ble_eq_true rfl) ⟨Nat.le_of_ble_eq_true rfl, Nat.le_of_ble_eq_true rfl⟩ ?_
    refine R_ifp_eq 15 28 rfl rfl dX11_learnt_12 (fun h12 => ?_) (fun h12 => ?_)
    · refine R_iconst 29 rfl dX11_learnt_28 ?_
      refine R_ireturn dX11_learnt_29 rfl ?_
      exact QI_mk ⟨by unfold a_learnt; rw [if_neg (by omega)], Fm.rf, hR⟩
    · refine R_iload 17 rfl dX11_learnt_15 rfl ?_
      refine R_i2l 18 rfl dX11_learnt_17 (by first | assumption | exact ⟨by omega, by omega⟩) ?_
      refine R_lconst 19 rfl dX11_learnt_18 ?_
      refine R_topL (b := 0) rfl ?_
      refine R_ldc2 (3) 22 rfl dX11_learnt_19 kl_X11_225 (by decide) ?_
      refine R_callS_i (M' := mX11_in) 25 rfl dX11_learnt_22 ml_X11_63 kmX11_in st_X11_in (c_X11_in _ _ _ (by first | assumption | exact ⟨by omega, by omega⟩ | exact rg_L (by assumption)) (by first | assumption | exact ⟨by omega, by omega⟩ | exact rg_L (by assumption)) (by first | assumption | exact ⟨by omega, by omega⟩ | exact rg_L (by assumption))) rfl rfl ⟨Nat.le_of_ble_eq_true rfl, Nat.le_of_ble_eq_true rfl⟩ (Nat.le_of_ble_eq_true rfl) ⟨Nat.le_of_ble_eq_true rfl, Nat.le_of_ble_eq_true rfl⟩ ?_
      refine R_ifp_ne 28 30 rfl rfl dX11_learnt_25 (fun h25 => ?_) (fun h25 => ?_)
      · refine R_aload_n 31 rfl dX11_learnt_30 rfl ?_
        refine R_iload_n 32 rfl dX11_learnt_31 rfl ?_
        refine R_iload_n 33 rfl dX11_learnt_32 rfl ?_
        refine R_iload_n 34 rfl dX11_learnt_33 rfl ?_
        refine R_callV_V (M' := mX11_layLearnt) 37 rfl dX11_learnt_34 ml_X11_284 kmX11_layLearnt im_X11_layLearnt se_X11_layLearnt rfl ⟨by decide, rfl⟩ (c_X11_layLearnt _ _ _ c.toNat hR (by omega) (by omega) ha hb) rfl rfl ⟨Nat.le_of_ble_eq_true rfl, Nat.le_of_ble_eq_true rfl⟩ (Nat.le_of_ble_eq_true rfl) ⟨Nat.le_of_ble_eq_true rfl, Nat.le_of_ble_eq_true rfl⟩ ?_
        rintro m34 h34
        obtain ⟨f34, z34, s0, s1, s2, s3⟩ := h34
        refine R_iload 39 rfl dX11_learnt_37 rfl ?_
        refine R_if_ne 42 49 rfl rfl dX11_learnt_39 (by first | assumption | exact ⟨by omega, by omega⟩) (fun h39 => ?_) (fun h39 => ?_)
        · refine R_iload 51 rfl dX11_learnt_49 rfl ?_
          refine R_iconst 52 rfl dX11_learnt_51 ?_
          refine R_icmp_ne 55 62 rfl rfl dX11_learnt_52 (by first | assumption | exact ⟨by omega, by omega⟩) (by first | assumption | exact ⟨by omega, by omega⟩) (fun h52 => ?_) (fun h52 => ?_)
          · refine R_iload 64 rfl dX11_learnt_62 rfl ?_
            refine R_iconst 65 rfl dX11_learnt_64 ?_
            refine R_icmp_ne 68 75 rfl rfl dX11_learnt_65 (by first | assumption | exact ⟨by omega, by omega⟩) (by first | assumption | exact ⟨by omega, by omega⟩) (fun h65 => ?_) (fun h65 => ?_)
            · refine R_aload_n 76 rfl dX11_learnt_75 rfl ?_
              refine R_getI 27 79 rfl dX11_learnt_76 rfl rfl fl_X11_276 ?_
              refine R_ireturn dX11_learnt_79 rfl ?_
              refine QI_mk ⟨?_, f34, z34.1⟩
              unfold a_learnt
              rw [if_pos (by omega)]
              first
                | (rw [s0, show w = 0 by omega])
                | (rw [s1, show w = 1 by omega])
                | (rw [s2, show w = 2 by omega])
                | (rw [s3, show w = 3 by omega])
            · refine R_aload_n 69 rfl dX11_learnt_68 rfl ?_
              refine R_getI 26 72 rfl dX11_learnt_69 rfl rfl fl_X11_273 ?_
              refine R_goto 79 rfl dX11_learnt_72 ?_
              refine R_ireturn dX11_learnt_79 rfl ?_
              refine QI_mk ⟨?_, f34, z34.1⟩
              unfold a_learnt
              rw [if_pos (by omega)]
              first
                | (rw [s0, show w = 0 by omega])
                | (rw [s1, show w = 1 by omega])
                | (rw [s2, show w = 2 by omega])
                | (rw [s3, show w = 3 by omega])
          · refine R_aload_n 56 rfl dX11_learnt_55 rfl ?_
            refine R_getI 25 59 rfl dX11_learnt_56 rfl rfl fl_X11_270 ?_
            refine R_goto 79 rfl dX11_learnt_59 ?_
            refine R_ireturn dX11_learnt_79 rfl ?_
            refine QI_mk ⟨?_, f34, z34.1⟩
            unfold a_learnt
            rw [if_pos (by omega)]
            first
              | (rw [s0, show w = 0 by omega])
              | (rw [s1, show w = 1 by omega])
              | (rw [s2, show w = 2 by omega])
              | (rw [s3, show w = 3 by omega])
        · refine R_aload_n 43 rfl dX11_learnt_42 rfl ?_
          refine R_getI 24 46 rfl dX11_learnt_43 rfl rfl fl_X11_267 ?_
          refine R_goto 79 rfl dX11_learnt_46 ?_
          refine R_ireturn dX11_learnt_79 rfl ?_
          refine QI_mk ⟨?_, f34, z34.1⟩
          unfold a_learnt
          rw [if_pos (by omega)]
          first
            | (rw [s0, show w = 0 by omega])
            | (rw [s1, show w = 1 by omega])
            | (rw [s2, show w = 2 by omega])
            | (rw [s3, show w = 3 by omega])
      · refine R_iconst 29 rfl dX11_learnt_28 ?_
        refine R_ireturn dX11_learnt_29 rfl ?_
        exact QI_mk ⟨by unfold a_learnt; rw [if_neg (by omega)], Fm.rf, hR⟩
theorem c_X11_bounds (c a b w : Int) (hR : RS L B ch m) (hc : rg c) (ha : rg a) (hb : rg b) (hw : rg w) : C Γ mX11_bounds 8 320 0 0 [vr 96, vi c, vi a, vi b, vi w] SH m (QM L B ch m (a_bounds L B ch c a b w)) := by
  refine C_of_R rfl (Nat.le_of_ble_eq_true rfl) ?_
  have hB := hR.2.2.2.2.1.1
  have l0 := hml_le L B ch c.toNat a b 0
  have l1 := hml_le L B ch c.toNat a b 1
  have l2 := hml_le L B ch c.toNat a b 2
  have l3 := hml_le L B ch c.toNat a b 3
  have l4 : hml L B ch c.toNat a b 3 ≤ hml L B ch c.toNat a b 1 := cnt_mono (fun k _ q => by
    have q2 := lnI_iff.mp q
    exact lnI_iff.mpr ⟨q2.1, Or.inl (by omega), q2.2.2⟩)
  refine R_iload_n 1 rfl dX11_bounds_0 rfl ?_
  refine R_callS_i (M' := mX11_isChoice) 4 rfl dX11_bounds_1 ml_X11_222 kmX11_isChoice st_X11_isChoice (c_X11_isChoice _ (by first | assumption | exact ⟨by omega, by omega⟩)) rfl rfl ⟨Nat.le_of_ble_eq_true rfl, Nat.le_of_ble_eq_true rfl⟩ (Nat.le_of_ble_eq_true rfl) ⟨Nat.le_of_ble_eq_true rfl, Nat.le_of_ble_eq_true rfl⟩ ?_
  refine R_ifp_eq 7 28 rfl rfl dX11_bounds_4 (fun h4 => ?_) (fun h4 => ?_)
  · refine R_iconst 29 rfl dX11_bounds_28 ?_
    refine R_ireturn dX11_bounds_29 rfl ?_
    exact QI_mk ⟨by unfold a_bounds; rw [if_neg (by omega)], Fm.rf, hR⟩
  · refine R_iload_n 8 rfl dX11_bounds_7 rfl ?_
    refine R_iload_n 9 rfl dX11_bounds_8 rfl ?_
    refine R_callS_i (M' := mX11_isSpan) 12 rfl dX11_bounds_9 ml_X11_281 kmX11_isSpan st_X11_isSpan (c_X11_isSpan _ _ (by first | assumption | exact ⟨by omega, by omega⟩) (by first | assumption | exact ⟨by omega, by omega⟩)) rfl rfl ⟨Nat.le_of_ble_eq_true rfl, Nat.le_of_ble_eq_true rfl⟩ (Nat.le_of_ble_eq_true rfl) ⟨Nat.le_of_ble_eq_true rfl, Nat.le_of_ble_eq_true rfl⟩ ?_
    refine R_ifp_eq 15 28 rfl rfl dX11_bounds_12 (fun h12 => ?_) (fun h12 => ?_)
    · refine R_iconst 29 rfl dX11_bounds_28 ?_
      refine R_ireturn dX11_bounds_29 rfl ?_
      exact QI_mk ⟨by unfold a_bounds; rw [if_neg (by omega)], Fm.rf, hR⟩
    · refine R_iload 17 rfl dX11_bounds_15 rfl ?_
      refine R_i2l 18 rfl dX11_bounds_17 (by first | assumption | exact ⟨by omega, by omega⟩) ?_
      refine R_lconst 19 rfl dX11_bounds_18 ?_
      refine R_topL (b := 0) rfl ?_
      refine R_ldc2 (3) 22 rfl dX11_bounds_19 kl_X11_225 (by decide) ?_
      refine R_callS_i (M' := mX11_in) 25 rfl dX11_bounds_22 ml_X11_63 kmX11_in st_X11_in (c_X11_in _ _ _ (by first | assumption | exact ⟨by omega, by omega⟩ | exact rg_L (by assumption)) (by first | assumption | exact ⟨by omega, by omega⟩ | exact rg_L (by assumption)) (by first | assumption | exact ⟨by omega, by omega⟩ | exact rg_L (by assumption))) rfl rfl ⟨Nat.le_of_ble_eq_true rfl, Nat.le_of_ble_eq_true rfl⟩ (Nat.le_of_ble_eq_true rfl) ⟨Nat.le_of_ble_eq_true rfl, Nat.le_of_ble_eq_true rfl⟩ ?_
      refine R_ifp_ne 28 30 rfl rfl dX11_bounds_25 (fun h25 => ?_) (fun h25 => ?_)
      · refine R_aload_n 31 rfl dX11_bounds_30 rfl ?_
        refine R_iload_n 32 rfl dX11_bounds_31 rfl ?_
        refine R_iload_n 33 rfl dX11_bounds_32 rfl ?_
        refine R_iload_n 34 rfl dX11_bounds_33 rfl ?_
        refine R_callV_V (M' := mX11_layLearnt) 37 rfl dX11_bounds_34 ml_X11_284 kmX11_layLearnt im_X11_layLearnt se_X11_layLearnt rfl ⟨by decide, rfl⟩ (c_X11_layLearnt _ _ _ c.toNat hR (by omega) (by omega) ha hb) rfl rfl ⟨Nat.le_of_ble_eq_true rfl, Nat.le_of_ble_eq_true rfl⟩ (Nat.le_of_ble_eq_true rfl) ⟨Nat.le_of_ble_eq_true rfl, Nat.le_of_ble_eq_true rfl⟩ ?_
        rintro m34 h34
        obtain ⟨f34, z34, s0, s1, s2, s3⟩ := h34
        refine R_iload 39 rfl dX11_bounds_37 rfl ?_
        refine R_iconst 40 rfl dX11_bounds_39 ?_
        refine R_icmp_ge 43 50 rfl rfl dX11_bounds_40 (by first | assumption | exact ⟨by omega, by omega⟩) (by first | assumption | exact ⟨by omega, by omega⟩) (fun h40 => ?_) (fun h40 => ?_)
        · refine R_aload_n 51 rfl dX11_bounds_50 rfl ?_
          refine R_getI 26 54 rfl dX11_bounds_51 rfl rfl fl_X11_273 ?_
          refine R_aload_n 55 rfl dX11_bounds_54 rfl ?_
          refine R_getI 27 58 rfl dX11_bounds_55 rfl rfl fl_X11_276 ?_
          refine R_iadd 59 rfl dX11_bounds_58 ?_
          first | rw [s2, s3] | rw [s2]
          refine R_istore [_, _, _, _, _, _, _] 61 rfl dX11_bounds_59 rfl (by decide) ?_
          refine R_iload 63 rfl dX11_bounds_61 rfl ?_
          refine R_iconst 64 rfl dX11_bounds_63 ?_
          refine R_icmp_ge 67 84 rfl rfl dX11_bounds_64 (by first | assumption | exact ⟨by omega, by omega⟩) (by first | assumption | exact ⟨by omega, by omega⟩) (fun h64 => ?_) (fun h64 => ?_)
          · refine R_aload_n 85 rfl dX11_bounds_84 rfl ?_
            refine R_getI 24 88 rfl dX11_bounds_85 rfl rfl fl_X11_267 ?_
            refine R_aload_n 89 rfl dX11_bounds_88 rfl ?_
            refine R_getI 27 92 rfl dX11_bounds_89 rfl rfl fl_X11_276 ?_
            refine R_iadd 93 rfl dX11_bounds_92 ?_
            first | rw [s0, s1, s3] | rw [s0, s3]
            refine R_istore [_, _, _, _, _, _, _] 95 rfl dX11_bounds_93 rfl (by decide) ?_
            refine R_iload 97 rfl dX11_bounds_95 rfl ?_
            refine R_if_ne 100 105 rfl rfl dX11_bounds_97 (by first | assumption | exact ⟨by omega, by omega⟩) (fun h97 => ?_) (fun h97 => ?_)
            · refine R_iload 107 rfl dX11_bounds_105 rfl ?_
              refine R_i2l 108 rfl dX11_bounds_107 (by first | assumption | exact ⟨by omega, by omega⟩) ?_
              refine R_iload 110 rfl dX11_bounds_108 rfl ?_
              refine R_i2l 111 rfl dX11_bounds_110 (by first | assumption | exact ⟨by omega, by omega⟩) ?_
              refine R_iload 113 rfl dX11_bounds_111 rfl ?_
              refine R_callS_l (M' := mX11_lowest) 116 rfl dX11_bounds_113 ml_X11_257 kmX11_lowest st_X11_lowest (c_X11_lowest _ _ _ (by omega) (by omega) (by omega)) rfl rfl ⟨Nat.le_of_ble_eq_true rfl, Nat.le_of_ble_eq_true rfl⟩ (Nat.le_of_ble_eq_true rfl) ⟨Nat.le_of_ble_eq_true rfl, Nat.le_of_ble_eq_true rfl⟩ ?_
              refine R_l2i 117 rfl dX11_bounds_116 ?_
              refine R_ireturn dX11_bounds_117 rfl ?_
              first
                | (exfalso; omega)
                | (refine QI_mk ⟨?_, f34, z34.1⟩
                   unfold a_bounds frc
                   rw [if_pos (show (0 ≤ c ∧ c ≤ 1) ∧ ((-60 ≤ a ∧ a ≤ 89) ∧ a ≤ b ∧ b ≤ 89) ∧ (0 ≤ w ∧ w ≤ 3) by omega)]
                   first
                     | rw [if_pos (show 2 ≤ w by omega), if_pos (show (hml L B ch c.toNat a b 0 : Int) + hml L B ch c.toNat a b 3 = 0 by omega)]
                     | rw [if_pos (show 2 ≤ w by omega), if_neg (show ¬ ((hml L B ch c.toNat a b 0 : Int) + hml L B ch c.toNat a b 3 = 0) by omega)]
                     | rw [if_neg (show ¬ 2 ≤ w by omega), if_pos (show (hml L B ch c.toNat a b 0 : Int) + ((hml L B ch c.toNat a b 1 : Int) - hml L B ch c.toNat a b 3) = 0 by omega)]
                     | rw [if_neg (show ¬ 2 ≤ w by omega), if_neg (show ¬ ((hml L B ch c.toNat a b 0 : Int) + ((hml L B ch c.toNat a b 1 : Int) - hml L B ch c.toNat a b 3) = 0) by omega), ← Int.add_sub_assoc])
            · refine R_bipush 102 rfl dX11_bounds_100 (by decide) ?_
              refine R_goto 117 rfl dX11_bounds_102 ?_
              refine R_ireturn dX11_bounds_117 rfl ?_
              first
                | (exfalso; omega)
                | (refine QI_mk ⟨?_, f34, z34.1⟩
                   unfold a_bounds frc
                   rw [if_pos (show (0 ≤ c ∧ c ≤ 1) ∧ ((-60 ≤ a ∧ a ≤ 89) ∧ a ≤ b ∧ b ≤ 89) ∧ (0 ≤ w ∧ w ≤ 3) by omega)]
                   first
                     | rw [if_pos (show 2 ≤ w by omega), if_pos (show (hml L B ch c.toNat a b 0 : Int) + hml L B ch c.toNat a b 3 = 0 by omega)]
                     | rw [if_pos (show 2 ≤ w by omega), if_neg (show ¬ ((hml L B ch c.toNat a b 0 : Int) + hml L B ch c.toNat a b 3 = 0) by omega)]
                     | rw [if_neg (show ¬ 2 ≤ w by omega), if_pos (show (hml L B ch c.toNat a b 0 : Int) + ((hml L B ch c.toNat a b 1 : Int) - hml L B ch c.toNat a b 3) = 0 by omega)]
                     | rw [if_neg (show ¬ 2 ≤ w by omega), if_neg (show ¬ ((hml L B ch c.toNat a b 0 : Int) + ((hml L B ch c.toNat a b 1 : Int) - hml L B ch c.toNat a b 3) = 0) by omega), ← Int.add_sub_assoc])
          · refine R_aload_n 68 rfl dX11_bounds_67 rfl ?_
            refine R_getI 24 71 rfl dX11_bounds_68 rfl rfl fl_X11_267 ?_
            refine R_aload_n 72 rfl dX11_bounds_71 rfl ?_
            refine R_getI 25 75 rfl dX11_bounds_72 rfl rfl fl_X11_270 ?_
            refine R_iadd 76 rfl dX11_bounds_75 ?_
            refine R_aload_n 77 rfl dX11_bounds_76 rfl ?_
            refine R_getI 27 80 rfl dX11_bounds_77 rfl rfl fl_X11_276 ?_
            refine R_isub 81 rfl dX11_bounds_80 ?_
            refine R_goto 93 rfl dX11_bounds_81 ?_
            first | rw [s0, s1, s3] | rw [s0, s3]
            refine R_istore [_, _, _, _, _, _, _] 95 rfl dX11_bounds_93 rfl (by decide) ?_
            refine R_iload 97 rfl dX11_bounds_95 rfl ?_
            refine R_if_ne 100 105 rfl rfl dX11_bounds_97 (by first | assumption | exact ⟨by omega, by omega⟩) (fun h97 => ?_) (fun h97 => ?_)
            · refine R_iload 107 rfl dX11_bounds_105 rfl ?_
              refine R_i2l 108 rfl dX11_bounds_107 (by first | assumption | exact ⟨by omega, by omega⟩) ?_
              refine R_iload 110 rfl dX11_bounds_108 rfl ?_
              refine R_i2l 111 rfl dX11_bounds_110 (by first | assumption | exact ⟨by omega, by omega⟩) ?_
              refine R_iload 113 rfl dX11_bounds_111 rfl ?_
              refine R_callS_l (M' := mX11_lowest) 116 rfl dX11_bounds_113 ml_X11_257 kmX11_lowest st_X11_lowest (c_X11_lowest _ _ _ (by omega) (by omega) (by omega)) rfl rfl ⟨Nat.le_of_ble_eq_true rfl, Nat.le_of_ble_eq_true rfl⟩ (Nat.le_of_ble_eq_true rfl) ⟨Nat.le_of_ble_eq_true rfl, Nat.le_of_ble_eq_true rfl⟩ ?_
              refine R_l2i 117 rfl dX11_bounds_116 ?_
              refine R_ireturn dX11_bounds_117 rfl ?_
              first
                | (exfalso; omega)
                | (refine QI_mk ⟨?_, f34, z34.1⟩
                   unfold a_bounds frc
                   rw [if_pos (show (0 ≤ c ∧ c ≤ 1) ∧ ((-60 ≤ a ∧ a ≤ 89) ∧ a ≤ b ∧ b ≤ 89) ∧ (0 ≤ w ∧ w ≤ 3) by omega)]
                   first
                     | rw [if_pos (show 2 ≤ w by omega), if_pos (show (hml L B ch c.toNat a b 0 : Int) + hml L B ch c.toNat a b 3 = 0 by omega)]
                     | rw [if_pos (show 2 ≤ w by omega), if_neg (show ¬ ((hml L B ch c.toNat a b 0 : Int) + hml L B ch c.toNat a b 3 = 0) by omega)]
                     | rw [if_neg (show ¬ 2 ≤ w by omega), if_pos (show (hml L B ch c.toNat a b 0 : Int) + ((hml L B ch c.toNat a b 1 : Int) - hml L B ch c.toNat a b 3) = 0 by omega)]
                     | rw [if_neg (show ¬ 2 ≤ w by omega), if_neg (show ¬ ((hml L B ch c.toNat a b 0 : Int) + ((hml L B ch c.toNat a b 1 : Int) - hml L B ch c.toNat a b 3) = 0) by omega), ← Int.add_sub_assoc])
            · refine R_bipush 102 rfl dX11_bounds_100 (by decide) ?_
              refine R_goto 117 rfl dX11_bounds_102 ?_
              refine R_ireturn dX11_bounds_117 rfl ?_
              first
                | (exfalso; omega)
                | (refine QI_mk ⟨?_, f34, z34.1⟩
                   unfold a_bounds frc
                   rw [if_pos (show (0 ≤ c ∧ c ≤ 1) ∧ ((-60 ≤ a ∧ a ≤ 89) ∧ a ≤ b ∧ b ≤ 89) ∧ (0 ≤ w ∧ w ≤ 3) by omega)]
                   first
                     | rw [if_pos (show 2 ≤ w by omega), if_pos (show (hml L B ch c.toNat a b 0 : Int) + hml L B ch c.toNat a b 3 = 0 by omega)]
                     | rw [if_pos (show 2 ≤ w by omega), if_neg (show ¬ ((hml L B ch c.toNat a b 0 : Int) + hml L B ch c.toNat a b 3 = 0) by omega)]
                     | rw [if_neg (show ¬ 2 ≤ w by omega), if_pos (show (hml L B ch c.toNat a b 0 : Int) + ((hml L B ch c.toNat a b 1 : Int) - hml L B ch c.toNat a b 3) = 0 by omega)]
                     | rw [if_neg (show ¬ 2 ≤ w by omega), if_neg (show ¬ ((hml L B ch c.toNat a b 0 : Int) + ((hml L B ch c.toNat a b 1 : Int) - hml L B ch c.toNat a b 3) = 0) by omega), ← Int.add_sub_assoc])
        · refine R_aload_n 44 rfl dX11_bounds_43 rfl ?_
          refine R_getI 26 47 rfl dX11_bounds_44 rfl rfl fl_X11_273 ?_
          refine R_goto 59 rfl dX11_bounds_47 ?_
          first | rw [s2, s3] | rw [s2]
          refine R_istore [_, _, _, _, _, _, _] 61 rfl dX11_bounds_59 rfl (by decide) ?_
          refine R_iload 63 rfl dX11_bounds_61 rfl ?_
          refine R_iconst 64 rfl dX11_bounds_63 ?_
          refine R_icmp_ge 67 84 rfl rfl dX11_bounds_64 (by first | assumption | exact ⟨by omega, by omega⟩) (by first | assumption | exact ⟨by omega, by omega⟩) (fun h64 => ?_) (fun h64 => ?_)
          · refine R_aload_n 85 rfl dX11_bounds_84 rfl ?_
            refine R_getI 24 88 rfl dX11_bounds_85 rfl rfl fl_X11_267 ?_
            refine R_aload_n 89 rfl dX11_bounds_88 rfl ?_
            refine R_getI 27 92 rfl dX11_bounds_89 rfl rfl fl_X11_276 ?_
            refine R_iadd 93 rfl dX11_bounds_92 ?_
            first | rw [s0, s1, s3] | rw [s0, s3]
            refine R_istore [_, _, _, _, _, _, _] 95 rfl dX11_bounds_93 rfl (by decide) ?_
            refine R_iload 97 rfl dX11_bounds_95 rfl ?_
            refine R_if_ne 100 105 rfl rfl dX11_bounds_97 (by first | assumption | exact ⟨by omega, by omega⟩) (fun h97 => ?_) (fun h97 => ?_)
            · refine R_iload 107 rfl dX11_bounds_105 rfl ?_
              refine R_i2l 108 rfl dX11_bounds_107 (by first | assumption | exact ⟨by omega, by omega⟩) ?_
              refine R_iload 110 rfl dX11_bounds_108 rfl ?_
              refine R_i2l 111 rfl dX11_bounds_110 (by first | assumption | exact ⟨by omega, by omega⟩) ?_
              refine R_iload 113 rfl dX11_bounds_111 rfl ?_
              refine R_callS_l (M' := mX11_lowest) 116 rfl dX11_bounds_113 ml_X11_257 kmX11_lowest st_X11_lowest (c_X11_lowest _ _ _ (by omega) (by omega) (by omega)) rfl rfl ⟨Nat.le_of_ble_eq_true rfl, Nat.le_of_ble_eq_true rfl⟩ (Nat.le_of_ble_eq_true rfl) ⟨Nat.le_of_ble_eq_true rfl, Nat.le_of_ble_eq_true rfl⟩ ?_
              refine R_l2i 117 rfl dX11_bounds_116 ?_
              refine R_ireturn dX11_bounds_117 rfl ?_
              first
                | (exfalso; omega)
                | (refine QI_mk ⟨?_, f34, z34.1⟩
                   unfold a_bounds frc
                   rw [if_pos (show (0 ≤ c ∧ c ≤ 1) ∧ ((-60 ≤ a ∧ a ≤ 89) ∧ a ≤ b ∧ b ≤ 89) ∧ (0 ≤ w ∧ w ≤ 3) by omega)]
                   first
                     | rw [if_pos (show 2 ≤ w by omega), if_pos (show (hml L B ch c.toNat a b 0 : Int) + hml L B ch c.toNat a b 3 = 0 by omega)]
                     | rw [if_pos (show 2 ≤ w by omega), if_neg (show ¬ ((hml L B ch c.toNat a b 0 : Int) + hml L B ch c.toNat a b 3 = 0) by omega)]
                     | rw [if_neg (show ¬ 2 ≤ w by omega), if_pos (show (hml L B ch c.toNat a b 0 : Int) + ((hml L B ch c.toNat a b 1 : Int) - hml L B ch c.toNat a b 3) = 0 by omega)]
                     | rw [if_neg (show ¬ 2 ≤ w by omega), if_neg (show ¬ ((hml L B ch c.toNat a b 0 : Int) + ((hml L B ch c.toNat a b 1 : Int) - hml L B ch c.toNat a b 3) = 0) by omega), ← Int.add_sub_assoc])
            · refine R_bipush 102 rfl dX11_bounds_100 (by decide) ?_
              refine R_goto 117 rfl dX11_bounds_102 ?_
              refine R_ireturn dX11_bounds_117 rfl ?_
              first
                | (exfalso; omega)
                | (refine QI_mk ⟨?_, f34, z34.1⟩
                   unfold a_bounds frc
                   rw [if_pos (show (0 ≤ c ∧ c ≤ 1) ∧ ((-60 ≤ a ∧ a ≤ 89) ∧ a ≤ b ∧ b ≤ 89) ∧ (0 ≤ w ∧ w ≤ 3) by omega)]
                   first
                     | rw [if_pos (show 2 ≤ w by omega), if_pos (show (hml L B ch c.toNat a b 0 : Int) + hml L B ch c.toNat a b 3 = 0 by omega)]
                     | rw [if_pos (show 2 ≤ w by omega), if_neg (show ¬ ((hml L B ch c.toNat a b 0 : Int) + hml L B ch c.toNat a b 3 = 0) by omega)]
                     | rw [if_neg (show ¬ 2 ≤ w by omega), if_pos (show (hml L B ch c.toNat a b 0 : Int) + ((hml L B ch c.toNat a b 1 : Int) - hml L B ch c.toNat a b 3) = 0 by omega)]
                     | rw [if_neg (show ¬ 2 ≤ w by omega), if_neg (show ¬ ((hml L B ch c.toNat a b 0 : Int) + ((hml L B ch c.toNat a b 1 : Int) - hml L B ch c.toNat a b 3) = 0) by omega), ← Int.add_sub_assoc])
          · refine R_aload_n 68 rfl dX11_bounds_67 rfl ?_
            refine R_getI 24 71 rfl dX11_bounds_68 rfl rfl fl_X11_267 ?_
            refine R_aload_n 72 rfl dX11_bounds_71 rfl ?_
            refine R_getI 25 75 rfl dX11_bounds_72 rfl rfl fl_X11_270 ?_
            refine R_iadd 76 rfl dX11_bounds_75 ?_
            refine R_aload_n 77 rfl dX11_bounds_76 rfl ?_
            refine R_getI 27 80 rfl dX11_bounds_77 rfl rfl fl_X11_276 ?_
            refine R_isub 81 rfl dX11_bounds_80 ?_
            refine R_goto 93 rfl dX11_bounds_81 ?_
            first | rw [s0, s1, s3] | rw [s0, s3]
            refine R_istore [_, _, _, _, _, _, _] 95 rfl dX11_bounds_93 rfl (by decide) ?_
            refine R_iload 97 rfl dX11_bounds_95 rfl ?_
            refine R_if_ne 100 105 rfl rfl dX11_bounds_97 (by first | assumption | exact ⟨by omega, by omega⟩) (fun h97 => ?_) (fun h97 => ?_)
            · refine R_iload 107 rfl dX11_bounds_105 rfl ?_
              refine R_i2l 108 rfl dX11_bounds_107 (by first | assumption | exact ⟨by omega, by omega⟩) ?_
              refine R_iload 110 rfl dX11_bounds_108 rfl ?_
              refine R_i2l 111 rfl dX11_bounds_110 (by first | assumption | exact ⟨by omega, by omega⟩) ?_
              refine R_iload 113 rfl dX11_bounds_111 rfl ?_
              refine R_callS_l (M' := mX11_lowest) 116 rfl dX11_bounds_113 ml_X11_257 kmX11_lowest st_X11_lowest (c_X11_lowest _ _ _ (by omega) (by omega) (by omega)) rfl rfl ⟨Nat.le_of_ble_eq_true rfl, Nat.le_of_ble_eq_true rfl⟩ (Nat.le_of_ble_eq_true rfl) ⟨Nat.le_of_ble_eq_true rfl, Nat.le_of_ble_eq_true rfl⟩ ?_
              refine R_l2i 117 rfl dX11_bounds_116 ?_
              refine R_ireturn dX11_bounds_117 rfl ?_
              first
                | (exfalso; omega)
                | (refine QI_mk ⟨?_, f34, z34.1⟩
                   unfold a_bounds frc
                   rw [if_pos (show (0 ≤ c ∧ c ≤ 1) ∧ ((-60 ≤ a ∧ a ≤ 89) ∧ a ≤ b ∧ b ≤ 89) ∧ (0 ≤ w ∧ w ≤ 3) by omega)]
                   first
                     | rw [if_pos (show 2 ≤ w by omega), if_pos (show (hml L B ch c.toNat a b 0 : Int) + hml L B ch c.toNat a b 3 = 0 by omega)]
                     | rw [if_pos (show 2 ≤ w by omega), if_neg (show ¬ ((hml L B ch c.toNat a b 0 : Int) + hml L B ch c.toNat a b 3 = 0) by omega)]
                     | rw [if_neg (show ¬ 2 ≤ w by omega), if_pos (show (hml L B ch c.toNat a b 0 : Int) + ((hml L B ch c.toNat a b 1 : Int) - hml L B ch c.toNat a b 3) = 0 by omega)]
                     | rw [if_neg (show ¬ 2 ≤ w by omega), if_neg (show ¬ ((hml L B ch c.toNat a b 0 : Int) + ((hml L B ch c.toNat a b 1 : Int) - hml L B ch c.toNat a b 3) = 0) by omega), ← Int.add_sub_assoc])
            · refine R_bipush 102 rfl dX11_bounds_100 (by decide) ?_
              refine R_goto 117 rfl dX11_bounds_102 ?_
              refine R_ireturn dX11_bounds_117 rfl ?_
              first
                | (exfalso; omega)
                | (refine QI_mk ⟨?_, f34, z34.1⟩
                   unfold a_bounds frc
                   rw [if_pos (show (0 ≤ c ∧ c ≤ 1) ∧ ((-60 ≤ a ∧ a ≤ 89) ∧ a ≤ b ∧ b ≤ 89) ∧ (0 ≤ w ∧ w ≤ 3) by omega)]
                   first
                     | rw [if_pos (show 2 ≤ w by omega), if_pos (show (hml L B ch c.toNat a b 0 : Int) + hml L B ch c.toNat a b 3 = 0 by omega)]
                     | rw [if_pos (show 2 ≤ w by omega), if_neg (show ¬ ((hml L B ch c.toNat a b 0 : Int) + hml L B ch c.toNat a b 3 = 0) by omega)]
                     | rw [if_neg (show ¬ 2 ≤ w by omega), if_pos (show (hml L B ch c.toNat a b 0 : Int) + ((hml L B ch c.toNat a b 1 : Int) - hml L B ch c.toNat a b 3) = 0 by omega)]
                     | rw [if_neg (show ¬ 2 ≤ w by omega), if_neg (show ¬ ((hml L B ch c.toNat a b 0 : Int) + ((hml L B ch c.toNat a b 1 : Int) - hml L B ch c.toNat a b 3) = 0) by omega), ← Int.add_sub_assoc])
      · refine R_iconst 29 rfl dX11_bounds_28 ?_
        refine R_ireturn dX11_bounds_29 rfl ?_
        exact QI_mk ⟨by unfold a_bounds; rw [if_neg (by omega)], Fm.rf, hR⟩
theorem c_X11_tens (c w : Int) (hR : RS L B ch m) (hc : rg c) (hw : rg w) : C Γ mX11_tens 3 120 0 0 [vr 96, vi c, vi w] SH m (QM L B ch m (a_tens L B ch c w)) := by
  refine C_of_R rfl (Nat.le_of_ble_eq_true rfl) ?_
  have hO := hR.2.2.2.2.1
  have hb := hO.1
  have hl := hR.2.2.1.1
  have tr := tn_rg L B ch c.toNat hb
  have Lo : (0 ≤ c ∧ c ≤ 1) ∧ (0 ≤ w ∧ w ≤ 1) → ∀ m1, Fm m m1 → RW L B ch m1 → ∀ g : Nat, g ≤ 15 → ∀ be mo t x6 x7 x8, t = -60 + 10 * (g : Int) → ((g = 0 ∧ mo = 0) ∨ (0 < g ∧ mo = tnM L B ch c.toNat (mmU (tnM L B ch c.toNat) g))) → (0 < mo → be = -60 + 10 * (mmU (tnM L B ch c.toNat) g : Int)) → (0 ≤ mo ∧ mo ≤ 80) → (-100 ≤ be ∧ be ≤ 100) → R Γ mX11_tens { frames := 3, cells := 0, slots := 0, locals := 120 } 0 0 (QM L B ch m (a_tens L B ch c w)) 0 0 35 [some (vr 96), some (vi c), some (vi w), some (vi be), some (vi mo), some (vi t), x6, x7, x8] [] SH m1 := by
    intro ho m1 hf hW
    have hP := hW.1.1
    have r2 := hW.1.2.1.1 2 (by omega)
    refine up_ind 15 (fun g hg ih be mo t x6 x7 x8 ht hm hbe rm rb => ?_)
    have Li : g < 15 → ∀ k, k ≤ 2 * B.1 → ∀ n z y, n = (cnt (tnP L B ch c.toNat g) k : Int) → z = (k : Int) → R Γ mX11_tens { frames := 3, cells := 0, slots := 0, locals := 120 } 0 0 (QM L B ch m (a_tens L B ch c w)) 0 0 48 [some (vr 96), some (vi c), some (vi w), some (vi be), some (vi mo), some (vi t), some (vi n), some (vi z), y] [] SH m1 := by
      intro hlt
      have t1 := tr g hlt
      have ms := mmU_s (tnM L B ch c.toNat) g
      have mr : 0 < g → mmU (tnM L B ch c.toNat) g < g := fun q => by
        have := mmU_rg (tnM L B ch c.toNat) (g - 1)
        rw [show g - 1 + 1 = g by omega] at this
        omega
      refine up_ind (2 * B.1) (fun k hk ih2 n z y hn hz => ?_)
      have cl := cnt_le (tnP L B ch c.toNat g) k
      refine R_iload 50 rfl dX11_tens_48 rfl ?_
      refine R_iconst 51 rfl dX11_tens_50 ?_
      refine R_aload_n 52 rfl dX11_tens_51 rfl ?_
      refine R_callV_i (M' := mX11_size) 55 rfl dX11_tens_52 ml_X11_150 kmX11_size im_X11_size se_X11_size rfl ⟨by decide, rfl⟩ (c_X11_size hW.1) rfl rfl ⟨Nat.le_of_ble_eq_true rfl, Nat.le_of_ble_eq_true rfl⟩ (Nat.le_of_ble_eq_true rfl) ⟨Nat.le_of_ble_eq_true rfl, Nat.le_of_ble_eq_true rfl⟩ ?_
      refine R_imul 56 rfl dX11_tens_55 ?_
      refine R_icmp_ge 59 140 rfl rfl dX11_tens_56 (by first | assumption | exact ⟨by omega, by omega⟩) (by first | assumption | exact ⟨by omega, by omega⟩) (fun h56 => ?_) (fun h56 => ?_)
      · refine R_iload 142 rfl dX11_tens_140 rfl ?_
        refine R_iload 144 rfl dX11_tens_142 rfl ?_
        refine R_icmp_le 147 152 rfl rfl dX11_tens_144 (by first | assumption | exact ⟨by omega, by omega⟩) (by first | assumption | exact ⟨by omega, by omega⟩) (fun h144 => ?_) (fun h144 => ?_)
        · refine R_iload_n 153 rfl dX11_tens_152 rfl ?_
          refine R_istore_n [_, _, _, _, _, _, _, _, _] 154 rfl dX11_tens_153 rfl (by decide) ?_
          refine R_iload 156 rfl dX11_tens_154 rfl ?_
          refine R_iload 158 rfl dX11_tens_156 rfl ?_
          refine R_icmp_le 161 166 rfl rfl dX11_tens_158 (by first | assumption | exact ⟨by omega, by omega⟩) (by first | assumption | exact ⟨by omega, by omega⟩) (fun h158 => ?_) (fun h158 => ?_)
          · refine R_iload 168 rfl dX11_tens_166 rfl ?_
            refine R_istore [_, _, _, _, _, _, _, _, _] 170 rfl dX11_tens_168 rfl (by decide) ?_
            refine R_iinc [_, _, _, _, _, _, _, _, _] 173 rfl dX11_tens_170 rfl rfl (by decide) ?_
            refine R_goto 35 rfl dX11_tens_173 ?_
            have ek : k = 2 * B.1 := by omega
            subst ek
            have en : n = tnM L B ch c.toNat g := hn
            first
              | (exfalso; omega)
              | (have m1 : mmU (tnM L B ch c.toNat) (g + 1) = g := by
                   rw [ms]
                   rcases hm with ⟨q1, q2⟩ | ⟨q1, q2⟩
                   · subst q1; simp [mmU]
                   · rw [if_pos (by omega)]
                 exact ih (by omega) _ _ _ _ _ _ (by omega) (Or.inr ⟨by omega, by rw [m1]; exact en⟩) (fun _ => by rw [m1]; omega) (by omega) (by omega))
              | (rcases hm with ⟨q1, q2⟩ | ⟨q1, q2⟩
                 · subst q1
                   exact ih (by omega) _ _ _ _ _ _ (by omega) (Or.inr ⟨by omega, by rw [mmU_1]; omega⟩) (fun q => by omega) (by omega) (by omega)
                 · have m1 : mmU (tnM L B ch c.toNat) (g + 1) = mmU (tnM L B ch c.toNat) g := by rw [ms, if_neg (by omega)]
                   exact ih (by omega) _ _ _ _ _ _ (by omega) (Or.inr ⟨by omega, by rw [m1]; exact q2⟩) (fun q => by rw [m1]; exact hbe q) (by omega) (by omega))
          · refine R_iload 163 rfl dX11_tens_161 rfl ?_
            refine R_goto 168 rfl dX11_tens_163 ?_
            refine R_istore [_, _, _, _, _, _, _, _, _] 170 rfl dX11_tens_168 rfl (by decide) ?_
            refine R_iinc [_, _, _, _, _, _, _, _, _] 173 rfl dX11_tens_170 rfl rfl (by decide) ?_
            refine R_goto 35 rfl dX11_tens_173 ?_
            have ek : k = 2 * B.1 := by omega
            subst ek
            have en : n = tnM L B ch c.toNat g := hn
            first
              | (exfalso; omega)
              | (have m1 : mmU (tnM L B ch c.toNat) (g + 1) = g := by
                   rw [ms]
                   rcases hm with ⟨q1, q2⟩ | ⟨q1, q2⟩
                   · subst q1; simp [mmU]
                   · rw [if_pos (by omega)]
                 exact ih (by omega) _ _ _ _ _ _ (by omega) (Or.inr ⟨by omega, by rw [m1]; exact en⟩) (fun _ => by rw [m1]; omega) (by omega) (by omega))
              | (rcases hm with ⟨q1, q2⟩ | ⟨q1, q2⟩
                 · subst q1
                   exact ih (by omega) _ _ _ _ _ _ (by omega) (Or.inr ⟨by omega, by rw [mmU_1]; omega⟩) (fun q => by omega) (by omega) (by omega)
                 · have m1 : mmU (tnM L B ch c.toNat) (g + 1) = mmU (tnM L B ch c.toNat) g := by rw [ms, if_neg (by omega)]
                   exact ih (by omega) _ _ _ _ _ _ (by omega) (Or.inr ⟨by omega, by rw [m1]; exact q2⟩) (fun q => by rw [m1]; exact hbe q) (by omega) (by omega))
        · refine R_iload 149 rfl dX11_tens_147 rfl ?_
          refine R_goto 153 rfl dX11_tens_149 ?_
          refine R_istore_n [_, _, _, _, _, _, _, _, _] 154 rfl dX11_tens_153 rfl (by decide) ?_
          refine R_iload 156 rfl dX11_tens_154 rfl ?_
          refine R_iload 158 rfl dX11_tens_156 rfl ?_
          refine R_icmp_le 161 166 rfl rfl dX11_tens_158 (by first | assumption | exact ⟨by omega, by omega⟩) (by first | assumption | exact ⟨by omega, by omega⟩) (fun h158 => ?_) (fun h158 => ?_)
          · refine R_iload 168 rfl dX11_tens_166 rfl ?_
            refine R_istore [_, _, _, _, _, _, _, _, _] 170 rfl dX11_tens_168 rfl (by decide) ?_
            refine R_iinc [_, _, _, _, _, _, _, _, _] 173 rfl dX11_tens_170 rfl rfl (by decide) ?_
            refine R_goto 35 rfl dX11_tens_173 ?_
            have ek : k = 2 * B.1 := by omega
            subst ek
            have en : n = tnM L B ch c.toNat g := hn
            first
              | (exfalso; omega)
              | (have m1 : mmU (tnM L B ch c.toNat) (g + 1) = g := by
                   rw [ms]
                   rcases hm with ⟨q1, q2⟩ | ⟨q1, q2⟩
                   · subst q1; simp [mmU]
                   · rw [if_pos (by omega)]
                 exact ih (by omega) _ _ _ _ _ _ (by omega) (Or.inr ⟨by omega, by rw [m1]; exact en⟩) (fun _ => by rw [m1]; omega) (by omega) (by omega))
              | (rcases hm with ⟨q1, q2⟩ | ⟨q1, q2⟩
                 · subst q1
                   exact ih (by omega) _ _ _ _ _ _ (by omega) (Or.inr ⟨by omega, by rw [mmU_1]; omega⟩) (fun q => by omega) (by omega) (by omega)
                 · have m1 : mmU (tnM L B ch c.toNat) (g + 1) = mmU (tnM L B ch c.toNat) g := by rw [ms, if_neg (by omega)]
                   exact ih (by omega) _ _ _ _ _ _ (by omega) (Or.inr ⟨by omega, by rw [m1]; exact q2⟩) (fun q => by rw [m1]; exact hbe q) (by omega) (by omega))
          · refine R_iload 163 rfl dX11_tens_161 rfl ?_
            refine R_goto 168 rfl dX11_tens_163 ?_
            refine R_istore [_, _, _, _, _, _, _, _, _] 170 rfl dX11_tens_168 rfl (by decide) ?_
            refine R_iinc [_, _, _, _, _, _, _, _, _] 173 rfl dX11_tens_170 rfl rfl (by decide) ?_
            refine R_goto 35 rfl dX11_tens_173 ?_
            have ek : k = 2 * B.1 := by omega
            subst ek
            have en : n = tnM L B ch c.toNat g := hn
            first
              | (exfalso; omega)
              | (have m1 : mmU (tnM L B ch c.toNat) (g + 1) = g := by
                   rw [ms]
                   rcases hm with ⟨q1, q2⟩ | ⟨q1, q2⟩
                   · subst q1; simp [mmU]
                   · rw [if_pos (by omega)]
                 exact ih (by omega) _ _ _ _ _ _ (by omega) (Or.inr ⟨by omega, by rw [m1]; exact en⟩) (fun _ => by rw [m1]; omega) (by omega) (by omega))
              | (rcases hm with ⟨q1, q2⟩ | ⟨q1, q2⟩
                 · subst q1
                   exact ih (by omega) _ _ _ _ _ _ (by omega) (Or.inr ⟨by omega, by rw [mmU_1]; omega⟩) (fun q => by omega) (by omega) (by omega)
                 · have m1 : mmU (tnM L B ch c.toNat) (g + 1) = mmU (tnM L B ch c.toNat) g := by rw [ms, if_neg (by omega)]
                   exact ih (by omega) _ _ _ _ _ _ (by omega) (Or.inr ⟨by omega, by rw [m1]; exact q2⟩) (fun q => by rw [m1]; exact hbe q) (by omega) (by omega))
      · have g4 := hO.2.1 (k / 2) (by omega)
        have g5 := hO.2.2 k (by omega)
        have e1 := tnP_iff (L := L) (B := B) (ch := ch) (c := c.toNat) (g := g) (k := k)
        have e2 : tnY L B k = B.2.1 1 (k / 2) - B.2.2 1 k + L.1 2 := rfl
        refine R_aload_n 60 rfl dX11_tens_59 rfl ?_
        refine R_iload 62 rfl dX11_tens_60 rfl ?_
        refine R_iconst 63 rfl dX11_tens_62 ?_
        refine R_idiv_p 64 rfl dX11_tens_63 (by first | assumption | exact ⟨by omega, by omega⟩) (by first | assumption | exact ⟨by omega, by omega⟩) (by omega) (by omega) ?_
        refine R_iload 66 rfl dX11_tens_64 rfl ?_
        refine R_iconst 67 rfl dX11_tens_66 ?_
        refine R_irem_p 68 rfl dX11_tens_67 (by first | assumption | exact ⟨by omega, by omega⟩) (by first | assumption | exact ⟨by omega, by omega⟩) (by omega) (by omega) ?_
        refine R_iconst 69 rfl dX11_tens_68 ?_
        refine R_callV_i (M' := mX11_of5) 72 rfl dX11_tens_69 ml_X11_198 kmX11_of5 im_X11_of5 se_X11_of5 rfl ⟨by decide, rfl⟩ (c_X11_of5 _ _ _ k 1 hW.1 (by omega) (by omega) (by omega) (by omega) (by omega)) rfl rfl ⟨Nat.le_of_ble_eq_true rfl, Nat.le_of_ble_eq_true rfl⟩ (Nat.le_of_ble_eq_true rfl) ⟨Nat.le_of_ble_eq_true rfl, Nat.le_of_ble_eq_true rfl⟩ ?_
        refine R_istore [_, _, _, _, _, _, _, _, _] 74 rfl dX11_tens_72 rfl (by decide) ?_
        refine R_iload 76 rfl dX11_tens_74 rfl ?_
        refine R_iload 78 rfl dX11_tens_76 rfl ?_
        refine R_if_le 81 130 rfl rfl dX11_tens_78 (by first | assumption | exact ⟨by omega, by omega⟩) (fun h78 => ?_) (fun h78 => ?_)
        · refine R_iconst 131 rfl dX11_tens_130 ?_
          refine R_iadd 132 rfl dX11_tens_131 ?_
          refine R_istore [_, _, _, _, _, _, _, _, _] 134 rfl dX11_tens_132 rfl (by decide) ?_
          refine R_iinc [_, _, _, _, _, _, _, _, _] 137 rfl dX11_tens_134 rfl rfl (by decide) ?_
          refine R_goto 48 rfl dX11_tens_137 ?_
          first
            | exact ih2 (by omega) _ _ _ (by rw [cnt_y (e1.mpr ⟨by omega, by omega, h88, by omega⟩)]; omega) (by omega)
            | exact ih2 (by omega) _ _ _ (by rw [cnt_n (fun q => h88 (e1.mp q).2.2.1)]; omega) (by omega)
            | exact ih2 (by omega) _ _ _ (by rw [cnt_n (fun q => by have q1 := (e1.mp q).1; have q2 := (e1.mp q).2.1; have q3 := (e1.mp q).2.2.2; omega)]; omega) (by omega)
        · refine R_aload_n 82 rfl dX11_tens_81 rfl ?_
          refine R_iload_n 83 rfl dX11_tens_82 rfl ?_
          refine R_iload 85 rfl dX11_tens_83 rfl ?_
          refine R_callV_i (M' := mX11_isIn) 88 rfl dX11_tens_85 ml_X11_240 kmX11_isIn im_X11_isIn se_X11_isIn rfl ⟨by decide, rfl⟩ (c_X11_isIn _ _ c.toNat k hW (by omega) (by omega) (by omega) (by omega)) rfl rfl ⟨Nat.le_of_ble_eq_true rfl, Nat.le_of_ble_eq_true rfl⟩ (Nat.le_of_ble_eq_true rfl) ⟨Nat.le_of_ble_eq_true rfl, Nat.le_of_ble_eq_true rfl⟩ ?_
          refine R_ifp_eq 91 130 rfl rfl dX11_tens_88 (fun h88 => ?_) (fun h88 => ?_)
          · refine R_iconst 131 rfl dX11_tens_130 ?_
            refine R_iadd 132 rfl dX11_tens_131 ?_
            refine R_istore [_, _, _, _, _, _, _, _, _] 134 rfl dX11_tens_132 rfl (by decide) ?_
            refine R_iinc [_, _, _, _, _, _, _, _, _] 137 rfl dX11_tens_134 rfl rfl (by decide) ?_
            refine R_goto 48 rfl dX11_tens_137 ?_
            first
              | exact ih2 (by omega) _ _ _ (by rw [cnt_y (e1.mpr ⟨by omega, by omega, h88, by omega⟩)]; omega) (by omega)
              | exact ih2 (by omega) _ _ _ (by rw [cnt_n (fun q => h88 (e1.mp q).2.2.1)]; omega) (by omega)
              | exact ih2 (by omega) _ _ _ (by rw [cnt_n (fun q => by have q1 := (e1.mp q).1; have q2 := (e1.mp q).2.1; have q3 := (e1.mp q).2.2.2; omega)]; omega) (by omega)
          · refine R_aload_n 92 rfl dX11_tens_91 rfl ?_
            refine R_iload 94 rfl dX11_tens_92 rfl ?_
            refine R_iconst 95 rfl dX11_tens_94 ?_
            refine R_idiv_p 96 rfl dX11_tens_95 (by first | assumption | exact ⟨by omega, by omega⟩) (by first | assumption | exact ⟨by omega, by omega⟩) (by omega) (by omega) ?_
            refine R_iconst 97 rfl dX11_tens_96 ?_
            refine R_callV_i (M' := mX11_its) 100 rfl dX11_tens_97 ml_X11_153 kmX11_its im_X11_its se_X11_its rfl ⟨by decide, rfl⟩ (c_X11_its _ _ (k / 2) 1 hW.1 (by omega) (by omega) (by omega) (by omega)) rfl rfl ⟨Nat.le_of_ble_eq_true rfl, Nat.le_of_ble_eq_true rfl⟩ (Nat.le_of_ble_eq_true rfl) ⟨Nat.le_of_ble_eq_true rfl, Nat.le_of_ble_eq_true rfl⟩ ?_
            refine R_iload 102 rfl dX11_tens_100 rfl ?_
            refine R_isub 103 rfl dX11_tens_102 ?_
            refine R_aload_n 104 rfl dX11_tens_103 rfl ?_
            refine R_getP 12 107 rfl dX11_tens_104 rfl rfl fl_X11_22 (hP _ _ _ rfl) ?_
            refine R_iconst 108 rfl dX11_tens_107 ?_
            refine R_iald 2 109 rfl dX11_tens_108 rfl (by first | rfl | omega) (by decide) (by decide) ?_
            rw [r2]
            refine R_iadd 110 rfl dX11_tens_109 ?_
            refine R_i2l 111 rfl dX11_tens_110 (by first | assumption | exact ⟨by omega, by omega⟩) ?_
            refine R_iload 113 rfl dX11_tens_111 rfl ?_
            refine R_i2l 114 rfl dX11_tens_113 (by first | assumption | exact ⟨by omega, by omega⟩) ?_
            refine R_iload 116 rfl dX11_tens_114 rfl ?_
            refine R_bipush 118 rfl dX11_tens_116 (by decide) ?_
            refine R_iadd 119 rfl dX11_tens_118 ?_
            refine R_i2l 120 rfl dX11_tens_119 (by first | assumption | exact ⟨by omega, by omega⟩) ?_
            refine R_callS_i (M' := mX11_in) 123 rfl dX11_tens_120 ml_X11_63 kmX11_in st_X11_in (c_X11_in _ _ _ (by first | assumption | exact ⟨by omega, by omega⟩ | exact rg_L (by assumption)) (by first | assumption | exact ⟨by omega, by omega⟩ | exact rg_L (by assumption)) (by first | assumption | exact ⟨by omega, by omega⟩ | exact rg_L (by assumption))) rfl rfl ⟨Nat.le_of_ble_eq_true rfl, Nat.le_of_ble_eq_true rfl⟩ (Nat.le_of_ble_eq_true rfl) ⟨Nat.le_of_ble_eq_true rfl, Nat.le_of_ble_eq_true rfl⟩ ?_
            refine R_ifp_eq 126 130 rfl rfl dX11_tens_123 (fun h123 => ?_) (fun h123 => ?_)
            · refine R_iconst 131 rfl dX11_tens_130 ?_
              refine R_iadd 132 rfl dX11_tens_131 ?_
              refine R_istore [_, _, _, _, _, _, _, _, _] 134 rfl dX11_tens_132 rfl (by decide) ?_
              refine R_iinc [_, _, _, _, _, _, _, _, _] 137 rfl dX11_tens_134 rfl rfl (by decide) ?_
              refine R_goto 48 rfl dX11_tens_137 ?_
              first
                | exact ih2 (by omega) _ _ _ (by rw [cnt_y (e1.mpr ⟨by omega, by omega, h88, by omega⟩)]; omega) (by omega)
                | exact ih2 (by omega) _ _ _ (by rw [cnt_n (fun q => h88 (e1.mp q).2.2.1)]; omega) (by omega)
                | exact ih2 (by omega) _ _ _ (by rw [cnt_n (fun q => by have q1 := (e1.mp q).1; have q2 := (e1.mp q).2.1; have q3 := (e1.mp q).2.2.2; omega)]; omega) (by omega)
            · refine R_iconst 127 rfl dX11_tens_126 ?_
              refine R_goto 131 rfl dX11_tens_127 ?_
              refine R_iadd 132 rfl dX11_tens_131 ?_
              refine R_istore [_, _, _, _, _, _, _, _, _] 134 rfl dX11_tens_132 rfl (by decide) ?_
              refine R_iinc [_, _, _, _, _, _, _, _, _] 137 rfl dX11_tens_134 rfl rfl (by decide) ?_
              refine R_goto 48 rfl dX11_tens_137 ?_
              first
                | exact ih2 (by omega) _ _ _ (by rw [cnt_y (e1.mpr ⟨by omega, by omega, h88, by omega⟩)]; omega) (by omega)
                | exact ih2 (by omega) _ _ _ (by rw [cnt_n (fun q => h88 (e1.mp q).2.2.1)]; omega) (by omega)
                | exact ih2 (by omega) _ _ _ (by rw [cnt_n (fun q => by have q1 := (e1.mp q).1; have q2 := (e1.mp q).2.1; have q3 := (e1.mp q).2.2.2; omega)]; omega) (by omega)
    refine R_iload 37 rfl dX11_tens_35 rfl ?_
    refine R_bipush 39 rfl dX11_tens_37 (by decide) ?_
    refine R_icmp_ge 42 176 rfl rfl dX11_tens_39 (by first | assumption | exact ⟨by omega, by omega⟩) (by first | assumption | exact ⟨by omega, by omega⟩) (fun h39 => ?_) (fun h39 => ?_)
    · refine R_iload 178 rfl dX11_tens_176 rfl ?_
      refine R_if_ne 181 187 rfl rfl dX11_tens_178 (by first | assumption | exact ⟨by omega, by omega⟩) (fun h178 => ?_) (fun h178 => ?_)
      · refine R_iload_n 188 rfl dX11_tens_187 rfl ?_
        refine R_if_ne 191 195 rfl rfl dX11_tens_188 (by first | assumption | exact ⟨by omega, by omega⟩) (fun h188 => ?_) (fun h188 => ?_)
        · refine R_iload 197 rfl dX11_tens_195 rfl ?_
          refine R_ireturn dX11_tens_197 rfl ?_
          have eg : g = 15 := by omega
          subst eg
          have em : mo = tnM L B ch c.toNat (mmU (tnM L B ch c.toNat) 15) := by omega
          refine QI_mk ⟨?_, hf, hW.1⟩
          unfold a_tens tns
          rw [if_pos ho, ← em]
          first
            | (rw [if_pos (by omega)])
            | (rw [if_neg (by omega), if_pos (by omega)]; exact hbe (by omega))
            | (rw [if_neg (by omega), if_neg (by omega)])
        · refine R_iload_n 192 rfl dX11_tens_191 rfl ?_
          refine R_goto 197 rfl dX11_tens_192 ?_
          refine R_ireturn dX11_tens_197 rfl ?_
          have eg : g = 15 := by omega
          subst eg
          have em : mo = tnM L B ch c.toNat (mmU (tnM L B ch c.toNat) 15) := by omega
          refine QI_mk ⟨?_, hf, hW.1⟩
          unfold a_tens tns
          rw [if_pos ho, ← em]
          first
            | (rw [if_pos (by omega)])
            | (rw [if_neg (by omega), if_pos (by omega)]; exact hbe (by omega))
            | (rw [if_neg (by omega), if_neg (by omega)])
      · refine R_sipush 184 rfl dX11_tens_181 (by decide) ?_
        refine R_goto 197 rfl dX11_tens_184 ?_
        refine R_ireturn dX11_tens_197 rfl ?_
        have eg : g = 15 := by omega
        subst eg
        have em : mo = tnM L B ch c.toNat (mmU (tnM L B ch c.toNat) 15) := by omega
        refine QI_mk ⟨?_, hf, hW.1⟩
        unfold a_tens tns
        rw [if_pos ho, ← em]
        first
          | (rw [if_pos (by omega)])
          | (rw [if_neg (by omega), if_pos (by omega)]; exact hbe (by omega))
          | (rw [if_neg (by omega), if_neg (by omega)])
    · refine R_iconst 43 rfl dX11_tens_42 ?_
      refine R_istore [_, _, _, _, _, _, _, _, _] 45 rfl dX11_tens_43 rfl (by decide) ?_
      refine R_iconst 46 rfl dX11_tens_45 ?_
      refine R_istore [_, _, _, _, _, _, _, _, _] 48 rfl dX11_tens_46 rfl (by decide) ?_
      exact Li (by omega) 0 (by omega) _ _ _ rfl rfl
  refine R_iload_n 1 rfl dX11_tens_0 rfl ?_
  refine R_callS_i (M' := mX11_isChoice) 4 rfl dX11_tens_1 ml_X11_222 kmX11_isChoice st_X11_isChoice (c_X11_isChoice _ (by first | assumption | exact ⟨by omega, by omega⟩)) rfl rfl ⟨Nat.le_of_ble_eq_true rfl, Nat.le_of_ble_eq_true rfl⟩ (Nat.le_of_ble_eq_true rfl) ⟨Nat.le_of_ble_eq_true rfl, Nat.le_of_ble_eq_true rfl⟩ ?_
  refine R_ifp_eq 7 17 rfl rfl dX11_tens_4 (fun h4 => ?_) (fun h4 => ?_)
  · refine R_sipush 20 rfl dX11_tens_17 (by decide) ?_
    refine R_ireturn dX11_tens_20 rfl ?_
    exact QI_mk ⟨by unfold a_tens; rw [if_neg (by omega)], Fm.rf, hR⟩
  · refine R_iload_n 8 rfl dX11_tens_7 rfl ?_
    refine R_i2l 9 rfl dX11_tens_8 (by first | assumption | exact ⟨by omega, by omega⟩) ?_
    refine R_lconst 10 rfl dX11_tens_9 ?_
    refine R_topL (b := 0) rfl ?_
    refine R_lconst 11 rfl dX11_tens_10 ?_
    refine R_topL (b := 1) rfl ?_
    refine R_callS_i (M' := mX11_in) 14 rfl dX11_tens_11 ml_X11_63 kmX11_in st_X11_in (c_X11_in _ _ _ (by first | assumption | exact ⟨by omega, by omega⟩ | exact rg_L (by assumption)) (by first | assumption | exact ⟨by omega, by omega⟩ | exact rg_L (by assumption)) (by first | assumption | exact ⟨by omega, by omega⟩ | exact rg_L (by assumption))) rfl rfl ⟨Nat.le_of_ble_eq_true rfl, Nat.le_of_ble_eq_true rfl⟩ (Nat.le_of_ble_eq_true rfl) ⟨Nat.le_of_ble_eq_true rfl, Nat.le_of_ble_eq_true rfl⟩ ?_
    refine R_ifp_ne 17 21 rfl rfl dX11_tens_14 (fun h14 => ?_) (fun h14 => ?_)
    · refine R_aload_n 22 rfl dX11_tens_21 rfl ?_
      refine R_callV_V (M' := mX11_awake) 25 rfl dX11_tens_22 ml_X11_219 kmX11_awake im_X11_awake se_X11_awake rfl ⟨by decide, rfl⟩ (c_X11_awake hR) rfl rfl ⟨Nat.le_of_ble_eq_true rfl, Nat.le_of_ble_eq_true rfl⟩ (Nat.le_of_ble_eq_true rfl) ⟨Nat.le_of_ble_eq_true rfl, Nat.le_of_ble_eq_true rfl⟩ ?_
      rintro m22 h22
      obtain ⟨f22, w22, -⟩ := h22
      refine R_bipush 27 rfl dX11_tens_25 (by decide) ?_
      refine R_istore_n [_, _, _, _, _, _, _, _, _] 28 rfl dX11_tens_27 rfl (by decide) ?_
      refine R_iconst 29 rfl dX11_tens_28 ?_
      refine R_istore [_, _, _, _, _, _, _, _, _] 31 rfl dX11_tens_29 rfl (by decide) ?_
      refine R_bipush 33 rfl dX11_tens_31 (by decide) ?_
      refine R_istore [_, _, _, _, _, _, _, _, _] 35 rfl dX11_tens_33 rfl (by decide) ?_
      exact Lo (by omega) _ f22 w22 0 (by omega) _ _ _ _ _ _ (by omega) (Or.inl ⟨rfl, rfl⟩) (fun q => by omega) (by omega) (by omega)
    · refine R_sipush 20 rfl dX11_tens_17 (by decide) ?_
      refine R_ireturn dX11_tens_20 rfl ?_
      exact QI_mk ⟨by unfold a_tens; rw [if_neg (by omega)], Fm.rf, hR⟩
end
