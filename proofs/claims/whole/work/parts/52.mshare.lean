section
variable {Γ : GX} {m m' : Mem} {B B' : Bk} {L : Ld} {ch ch' : Cs}
theorem c_X11_share (c w : Int) (hR : RS L B ch m) (hc : rg c) (hw : rg w) : C Γ mX11_share 7 280 0 0 [vr 96, vi c, vi w] SH m (QM L B ch m (a_share L B ch c w)) := by
  refine C_of_R rfl (Nat.le_of_ble_eq_true rfl) ?_
  have g0 := hmy_le L B ch c.toNat 0
  have g1 := hmy_le L B ch c.toNat 1
  have g2 := hR.2.2.2.2.1.1
  refine R_iload_n 1 rfl dX11_share_0 rfl ?_
  refine R_callS_i (M' := mX11_isChoice) 4 rfl dX11_share_1 ml_X11_222 kmX11_isChoice st_X11_isChoice (c_X11_isChoice _ (by first | assumption | exact ⟨by omega, by omega⟩)) rfl rfl ⟨Nat.le_of_ble_eq_true rfl, Nat.le_of_ble_eq_true rfl⟩ (Nat.le_of_ble_eq_true rfl) ⟨Nat.le_of_ble_eq_true rfl, Nat.le_of_ble_eq_true rfl⟩ ?_
  refine R_ifp_eq 7 17 rfl rfl dX11_share_4 (fun h4 => ?_) (fun h4 => ?_)
  · refine R_iconst 18 rfl dX11_share_17 ?_
    refine R_ireturn dX11_share_18 rfl ?_
    exact QI_mk ⟨by unfold a_share; rw [if_neg (by omega)], Fm.rf, hR⟩
  · refine R_iload_n 8 rfl dX11_share_7 rfl ?_
    refine R_i2l 9 rfl dX11_share_8 (by first | assumption | exact ⟨by omega, by omega⟩) ?_
    refine R_lconst 10 rfl dX11_share_9 ?_
    refine R_topL (b := 0) rfl ?_
    refine R_lconst 11 rfl dX11_share_10 ?_
    refine R_topL (b := 1) rfl ?_
    refine R_callS_i (M' := mX11_in) 14 rfl dX11_share_11 ml_X11_63 kmX11_in st_X11_in (c_X11_in _ _ _ (by first | assumption | exact ⟨by omega, by omega⟩ | exact rg_L (by assumption)) (by first | assumption | exact ⟨by omega, by omega⟩ | exact rg_L (by assumption)) (by first | assumption | exact ⟨by omega, by omega⟩ | exact rg_L (by assumption))) rfl rfl ⟨Nat.le_of_ble_eq_true rfl, Nat.le_of_ble_eq_true rfl⟩ (Nat.le_of_ble_eq_true rfl) ⟨Nat.le_of_ble_eq_true rfl, Nat.le_of_ble_eq_true rfl⟩ ?_
    refine R_ifp_ne 17 19 rfl rfl dX11_share_14 (fun h14 => ?_) (fun h14 => ?_)
    · refine R_aload_n 20 rfl dX11_share_19 rfl ?_
      refine R_callV_V (M' := mX11_layKinds) 23 rfl dX11_share_20 ml_X11_227 kmX11_layKinds im_X11_layKinds se_X11_layKinds rfl ⟨by decide, rfl⟩ (c_X11_layKinds hR) rfl rfl ⟨Nat.le_of_ble_eq_true rfl, Nat.le_of_ble_eq_true rfl⟩ (Nat.le_of_ble_eq_true rfl) ⟨Nat.le_of_ble_eq_true rfl, Nat.le_of_ble_eq_true rfl⟩ ?_
      rintro m20 h20
      obtain ⟨f20, z20⟩ := h20
      refine R_aload_n 24 rfl dX11_share_23 rfl ?_
      refine R_iload_n 25 rfl dX11_share_24 rfl ?_
      refine R_bipush 27 rfl dX11_share_25 (by decide) ?_
      refine R_iconst 28 rfl dX11_share_27 ?_
      refine R_callV_V (M' := mX11_tally) 31 rfl dX11_share_28 ml_X11_230 kmX11_tally im_X11_tally se_X11_tally rfl ⟨by decide, rfl⟩ (c_X11_tally _ _ _ c.toNat z20 (by omega) (by omega) (Or.inl rfl) ⟨by omega, by omega⟩) rfl rfl ⟨Nat.le_of_ble_eq_true rfl, Nat.le_of_ble_eq_true rfl⟩ (Nat.le_of_ble_eq_true rfl) ⟨Nat.le_of_ble_eq_true rfl, Nat.le_of_ble_eq_true rfl⟩ ?_
      rintro m28 h28
      obtain ⟨f28, z28, a28, b28⟩ := h28
      rw [ty_all L] at a28
      rw [ty_abl] at b28
      refine R_aload_n 32 rfl dX11_share_31 rfl ?_
      refine R_getI 22 35 rfl dX11_share_32 rfl rfl fl_X11_234 ?_
      rw [a28]
      refine R_if_ne 38 43 rfl rfl dX11_share_35 (by first | assumption | exact ⟨by omega, by omega⟩) (fun h35 => ?_) (fun h35 => ?_)
      · refine R_aload_n 44 rfl dX11_share_43 rfl ?_
        refine R_getI 23 47 rfl dX11_share_44 rfl rfl fl_X11_237 ?_
        refine R_i2l 48 rfl dX11_share_47 (by first | assumption | exact ⟨by omega, by omega⟩) ?_
        rw [b28]
        refine R_aload_n 49 rfl dX11_share_48 rfl ?_
        refine R_getI 22 52 rfl dX11_share_49 rfl rfl fl_X11_234 ?_
        refine R_i2l 53 rfl dX11_share_52 (by first | assumption | exact ⟨by omega, by omega⟩) ?_
        rw [a28]
        refine R_iload_n 54 rfl dX11_share_53 rfl ?_
        refine R_callS_l (M' := mX11_lowest) 57 rfl dX11_share_54 ml_X11_257 kmX11_lowest st_X11_lowest (c_X11_lowest _ _ _ (by omega) (by omega) (by omega)) rfl rfl ⟨Nat.le_of_ble_eq_true rfl, Nat.le_of_ble_eq_true rfl⟩ (Nat.le_of_ble_eq_true rfl) ⟨Nat.le_of_ble_eq_true rfl, Nat.le_of_ble_eq_true rfl⟩ ?_
        refine R_l2i 58 rfl dX11_share_57 ?_
        refine R_ireturn dX11_share_58 rfl ?_
        first | exact QI_mk ⟨by unfold a_share frc; rw [if_pos (by omega), if_pos (by omega)], f20.tr f28, z28.1⟩ | exact QI_mk ⟨by unfold a_share frc; rw [if_pos (show (0 ≤ c ∧ c ≤ 1) ∧ 0 ≤ w ∧ w ≤ 1 by omega), if_neg (show ¬ ((hmy L B ch c.toNat 0 : Int) = 0) by omega)], f20.tr f28, z28.1⟩
      · refine R_bipush 40 rfl dX11_share_38 (by decide) ?_
        refine R_goto 58 rfl dX11_share_40 ?_
        refine R_ireturn dX11_share_58 rfl ?_
        first | exact QI_mk ⟨by unfold a_share frc; rw [if_pos (by omega), if_pos (by omega)], f20.tr f28, z28.1⟩ | exact QI_mk ⟨by unfold a_share frc; rw [if_pos (show (0 ≤ c ∧ c ≤ 1) ∧ 0 ≤ w ∧ w ≤ 1 by omega), if_neg (show ¬ ((hmy L B ch c.toNat 0 : Int) = 0) by omega)], f20.tr f28, z28.1⟩
    · refine R_iconst 18 rfl dX11_share_17 ?_
      refine R_ireturn dX11_share_18 rfl ?_
      exact QI_mk ⟨by unfold a_share; rw [if_neg (by omega)], Fm.rf, hR⟩
theorem c_X11_pairsOf (cz g b : Int) (c : Nat) (hW : RW L B ch m) (hc : cz = (c : Int)) (hc2 : c < 2) (hg : rg g) (hb : rg b) : C Γ mX11_pairsOf 2 80 0 0 [vr 96, vi cz, vi g, vi b] SH m (Qi SH m (prs B ch c g b : Int)) := by
  refine C_of_R rfl (Nat.le_of_ble_eq_true rfl) ?_
  have hO := hW.1.2.2.2.2.1
  have h3 := hO.1
  have hR := hW.1
  have Lp : ∀ k, k ≤ B.1 → ∀ a z x, a = (cnt (prI B ch c g b) k : Int) → z = (k : Int) → R Γ mX11_pairsOf { frames := 2, cells := 0, slots := 0, locals := 80 } 0 0 (Qi SH m (prs B ch c g b : Int)) 0 0 6 [some (vr 96), some (vi cz), some (vi g), some (vi b), some (vi a), some (vi z), x] [] SH m := by
    refine up_ind B.1 (fun k hk ih a z x ha hz => ?_)
    refine R_iload 8 rfl dX11_pairsOf_6 rfl ?_
    refine R_aload_n 9 rfl dX11_pairsOf_8 rfl ?_
    refine R_callV_i (M' := mX11_size) 12 rfl dX11_pairsOf_9 ml_X11_150 kmX11_size im_X11_size se_X11_size rfl ⟨by decide, rfl⟩ (c_X11_size hR) rfl rfl ⟨Nat.le_of_ble_eq_true rfl, Nat.le_of_ble_eq_true rfl⟩ (Nat.le_of_ble_eq_true rfl) ⟨Nat.le_of_ble_eq_true rfl, Nat.le_of_ble_eq_true rfl⟩ ?_
    refine R_icmp_ge 15 93 rfl rfl dX11_pairsOf_12 (by first | assumption | exact ⟨by omega, by omega⟩) (by first | assumption | exact ⟨by omega, by omega⟩) (fun h12 => ?_) (fun h12 => ?_)
    · refine R_iload 95 rfl dX11_pairsOf_93 rfl ?_
      refine R_ireturn dX11_pairsOf_95 rfl ?_
      exact Qi_mk (by rw [ha, show k = B.1 by omega]; rfl)
    · have g0 := hO.2.2 (2 * k) (by omega)
      have g1 := hO.2.2 (2 * k + 1) (by omega)
      have e1 := prI_iff (B := B) (ch := ch) (c := c) (k := k) (g := g) (b := b)
      refine R_aload_n 16 rfl dX11_pairsOf_15 rfl ?_
      refine R_iload_n 17 rfl dX11_pairsOf_16 rfl ?_
      refine R_iconst 18 rfl dX11_pairsOf_17 ?_
      refine R_iload 20 rfl dX11_pairsOf_18 rfl ?_
      refine R_imul 21 rfl dX11_pairsOf_20 ?_
      refine R_callV_i (M' := mX11_isIn) 24 rfl dX11_pairsOf_21 ml_X11_240 kmX11_isIn im_X11_isIn se_X11_isIn rfl ⟨by decide, rfl⟩ (c_X11_isIn _ _ c (2 * k) hW (by omega) (by omega) (by omega) (by omega)) rfl rfl ⟨Nat.le_of_ble_eq_true rfl, Nat.le_of_ble_eq_true rfl⟩ (Nat.le_of_ble_eq_true rfl) ⟨Nat.le_of_ble_eq_true rfl, Nat.le_of_ble_eq_true rfl⟩ ?_
      refine R_ifp_eq 27 45 rfl rfl dX11_pairsOf_24 (fun h24 => ?_) (fun h24 => ?_)
      · refine R_iconst 46 rfl dX11_pairsOf_45 ?_
        refine R_istore [_, _, _, _, _, _, _] 48 rfl dX11_pairsOf_46 rfl (by decide) ?_
        refine R_iload 50 rfl dX11_pairsOf_48 rfl ?_
        refine R_iload 52 rfl dX11_pairsOf_50 rfl ?_
        refine R_if_eq 55 83 rfl rfl dX11_pairsOf_52 (by first | assumption | exact ⟨by omega, by omega⟩) (fun h52 => ?_) (fun h52 => ?_)
        rotate_left
        · exact absurd h52 (by omega)
        refine R_iconst 84 rfl dX11_pairsOf_83 ?_
        refine R_iadd 85 rfl dX11_pairsOf_84 ?_
        refine R_istore [_, _, _, _, _, _, _] 87 rfl dX11_pairsOf_85 rfl (by decide) ?_
        refine R_iinc [_, _, _, _, _, _, _] 90 rfl dX11_pairsOf_87 rfl rfl (by decide) ?_
        refine R_goto 6 rfl dX11_pairsOf_90 ?_
        first
          | exact ih (by omega) _ _ _ (by rw [cnt_y (e1.mpr ⟨h24, h38, by omega, by omega⟩)]; omega) (by omega)
          | exact ih (by omega) _ _ _ (by rw [cnt_n (fun q => h24 (e1.mp q).1)]; omega) (by omega)
          | exact ih (by omega) _ _ _ (by rw [cnt_n (fun q => h38 (e1.mp q).2.1)]; omega) (by omega)
          | exact ih (by omega) _ _ _ (by rw [cnt_n (fun q => by have := (e1.mp q).2.2; omega)]; omega) (by omega)
      · refine R_aload_n 28 rfl dX11_pairsOf_27 rfl ?_
        refine R_iload_n 29 rfl dX11_pairsOf_28 rfl ?_
        refine R_iconst 30 rfl dX11_pairsOf_29 ?_
        refine R_iload 32 rfl dX11_pairsOf_30 rfl ?_
        refine R_imul 33 rfl dX11_pairsOf_32 ?_
        refine R_iconst 34 rfl dX11_pairsOf_33 ?_
        refine R_iadd 35 rfl dX11_pairsOf_34 ?_
        refine R_callV_i (M' := mX11_isIn) 38 rfl dX11_pairsOf_35 ml_X11_240 kmX11_isIn im_X11_isIn se_X11_isIn rfl ⟨by decide, rfl⟩ (c_X11_isIn _ _ c (2 * k + 1) hW (by omega) (by omega) (by omega) (by omega)) rfl rfl ⟨Nat.le_of_ble_eq_true rfl, Nat.le_of_ble_eq_true rfl⟩ (Nat.le_of_ble_eq_true rfl) ⟨Nat.le_of_ble_eq_true rfl, Nat.le_of_ble_eq_true rfl⟩ ?_
        refine R_ifp_eq 41 45 rfl rfl dX11_pairsOf_38 (fun h38 => ?_) (fun h38 => ?_)
        · refine R_iconst 46 rfl dX11_pairsOf_45 ?_
          refine R_istore [_, _, _, _, _, _, _] 48 rfl dX11_pairsOf_46 rfl (by decide) ?_
          refine R_iload 50 rfl dX11_pairsOf_48 rfl ?_
          refine R_iload 52 rfl dX11_pairsOf_50 rfl ?_
          refine R_if_eq 55 83 rfl rfl dX11_pairsOf_52 (by first | assumption | exact ⟨by omega, by omega⟩) (fun h52 => ?_) (fun h52 => ?_)
          rotate_left
          · exact absurd h52 (by omega)
          refine R_iconst 84 rfl dX11_pairsOf_83 ?_
          refine R_iadd 85 rfl dX11_pairsOf_84 ?_
          refine R_istore [_, _, _, _, _, _, _] 87 rfl dX11_pairsOf_85 rfl (by decide) ?_
          refine R_iinc [_, _, _, _, _, _, _] 90 rfl dX11_pairsOf_87 rfl rfl (by decide) ?_
          refine R_goto 6 rfl dX11_pairsOf_90 ?_
          first
            | exact ih (by omega) _ _ _ (by rw [cnt_y (e1.mpr ⟨h24, h38, by omega, by omega⟩)]; omega) (by omega)
            | exact ih (by omega) _ _ _ (by rw [cnt_n (fun q => h24 (e1.mp q).1)]; omega) (by omega)
            | exact ih (by omega) _ _ _ (by rw [cnt_n (fun q => h38 (e1.mp q).2.1)]; omega) (by omega)
            | exact ih (by omega) _ _ _ (by rw [cnt_n (fun q => by have := (e1.mp q).2.2; omega)]; omega) (by omega)
        · refine R_iconst 42 rfl dX11_pairsOf_41 ?_
          refine R_goto 46 rfl dX11_pairsOf_42 ?_
          refine R_istore [_, _, _, _, _, _, _] 48 rfl dX11_pairsOf_46 rfl (by decide) ?_
          refine R_iload 50 rfl dX11_pairsOf_48 rfl ?_
          refine R_iload 52 rfl dX11_pairsOf_50 rfl ?_
          refine R_if_eq 55 83 rfl rfl dX11_pairsOf_52 (by first | assumption | exact ⟨by omega, by omega⟩) (fun h52 => ?_) (fun h52 => ?_)
          · exact absurd h52 (by omega)
          refine R_aload_n 56 rfl dX11_pairsOf_55 rfl ?_
          refine R_iload 58 rfl dX11_pairsOf_56 rfl ?_
          refine R_iconst 59 rfl dX11_pairsOf_58 ?_
          refine R_iconst 60 rfl dX11_pairsOf_59 ?_
          refine R_callV_i (M' := mX11_of5) 63 rfl dX11_pairsOf_60 ml_X11_198 kmX11_of5 im_X11_of5 se_X11_of5 rfl ⟨by decide, rfl⟩ (c_X11_of5 _ _ _ (2 * k) 0 hR (by omega) (by omega) (by omega) (by omega) (by omega)) rfl rfl ⟨Nat.le_of_ble_eq_true rfl, Nat.le_of_ble_eq_true rfl⟩ (Nat.le_of_ble_eq_true rfl) ⟨Nat.le_of_ble_eq_true rfl, Nat.le_of_ble_eq_true rfl⟩ ?_
          refine R_iload_n 64 rfl dX11_pairsOf_63 rfl ?_
          refine R_icmp_ne 67 83 rfl rfl dX11_pairsOf_64 (by first | assumption | exact ⟨by omega, by omega⟩) (by first | assumption | exact ⟨by omega, by omega⟩) (fun h64 => ?_) (fun h64 => ?_)
          · refine R_iconst 84 rfl dX11_pairsOf_83 ?_
            refine R_iadd 85 rfl dX11_pairsOf_84 ?_
            refine R_istore [_, _, _, _, _, _, _] 87 rfl dX11_pairsOf_85 rfl (by decide) ?_
            refine R_iinc [_, _, _, _, _, _, _] 90 rfl dX11_pairsOf_87 rfl rfl (by decide) ?_
            refine R_goto 6 rfl dX11_pairsOf_90 ?_
            first
              | exact ih (by omega) _ _ _ (by rw [cnt_y (e1.mpr ⟨h24, h38, by omega, by omega⟩)]; omega) (by omega)
              | exact ih (by omega) _ _ _ (by rw [cnt_n (fun q => h24 (e1.mp q).1)]; omega) (by omega)
              | exact ih (by omega) _ _ _ (by rw [cnt_n (fun q => h38 (e1.mp q).2.1)]; omega) (by omega)
              | exact ih (by omega) _ _ _ (by rw [cnt_n (fun q => by have := (e1.mp q).2.2; omega)]; omega) (by omega)
          · refine R_aload_n 68 rfl dX11_pairsOf_67 rfl ?_
            refine R_iload 70 rfl dX11_pairsOf_68 rfl ?_
            refine R_iconst 71 rfl dX11_pairsOf_70 ?_
            refine R_iconst 72 rfl dX11_pairsOf_71 ?_
            refine R_callV_i (M' := mX11_of5) 75 rfl dX11_pairsOf_72 ml_X11_198 kmX11_of5 im_X11_of5 se_X11_of5 rfl ⟨by decide, rfl⟩ (c_X11_of5 _ _ _ (2 * k + 1) 0 hR (by omega) (by omega) (by omega) (by omega) (by omega)) rfl rfl ⟨Nat.le_of_ble_eq_true rfl, Nat.le_of_ble_eq_true rfl⟩ (Nat.le_of_ble_eq_true rfl) ⟨Nat.le_of_ble_eq_true rfl, Nat.le_of_ble_eq_true rfl⟩ ?_
            refine R_iload_n 76 rfl dX11_pairsOf_75 rfl ?_
            refine R_icmp_ne 79 83 rfl rfl dX11_pairsOf_76 (by first | assumption | exact ⟨by omega, by omega⟩) (by first | assumption | exact ⟨by omega, by omega⟩) (fun h76 => ?_) (fun h76 => ?_)
            · refine R_iconst 84 rfl dX11_pairsOf_83 ?_
              refine R_iadd 85 rfl dX11_pairsOf_84 ?_
              refine R_istore [_, _, _, _, _, _, _] 87 rfl dX11_pairsOf_85 rfl (by decide) ?_
              refine R_iinc [_, _, _, _, _, _, _] 90 rfl dX11_pairsOf_87 rfl rfl (by decide) ?_
              refine R_goto 6 rfl dX11_pairsOf_90 ?_
              first
                | exact ih (by omega) _ _ _ (by rw [cnt_y (e1.mpr ⟨h24, h38, by omega, by omega⟩)]; omega) (by omega)
                | exact ih (by omega) _ _ _ (by rw [cnt_n (fun q => h24 (e1.mp q).1)]; omega) (by omega)
                | exact ih (by omega) _ _ _ (by rw [cnt_n (fun q => h38 (e1.mp q).2.1)]; omega) (by omega)
                | exact ih (by omega) _ _ _ (by rw [cnt_n (fun q => by have := (e1.mp q).2.2; omega)]; omega) (by omega)
            · refine R_iconst 80 rfl dX11_pairsOf_79 ?_
              refine R_goto 84 rfl dX11_pairsOf_80 ?_
              refine R_iadd 85 rfl dX11_pairsOf_84 ?_
              refine R_istore [_, _, _, _, _, _, _] 87 rfl dX11_pairsOf_85 rfl (by decide) ?_
              refine R_iinc [_, _, _, _, _, _, _] 90 rfl dX11_pairsOf_87 rfl rfl (by decide) ?_
              refine R_goto 6 rfl dX11_pairsOf_90 ?_
              first
                | exact ih (by omega) _ _ _ (by rw [cnt_y (e1.mpr ⟨h24, h38, by omega, by omega⟩)]; omega) (by omega)
                | exact ih (by omega) _ _ _ (by rw [cnt_n (fun q => h24 (e1.mp q).1)]; omega) (by omega)
                | exact ih (by omega) _ _ _ (by rw [cnt_n (fun q => h38 (e1.mp q).2.1)]; omega) (by omega)
                | exact ih (by omega) _ _ _ (by rw [cnt_n (fun q => by have := (e1.mp q).2.2; omega)]; omega) (by omega)
  refine R_iconst 1 rfl dX11_pairsOf_0 ?_
  refine R_istore [_, _, _, _, _, _, _] 3 rfl dX11_pairsOf_1 rfl (by decide) ?_
  refine R_iconst 4 rfl dX11_pairsOf_3 ?_
  refine R_istore [_, _, _, _, _, _, _] 6 rfl dX11_pairsOf_4 rfl (by decide) ?_
  exact Lp 0 (by omega) _ _ _ rfl rfl
theorem c_X11_pairs (c w : Int) (hR : RS L B ch m) (hc : rg c) (hw : rg w) : C Γ mX11_pairs 3 120 0 0 [vr 96, vi c, vi w] SH m (QM L B ch m (a_pairs B ch c w)) := by
  refine C_of_R rfl (Nat.le_of_ble_eq_true rfl) ?_
  refine R_iload_n 1 rfl dX11_pairs_0 rfl ?_
  refine R_callS_i (M' := mX11_isChoice) 4 rfl dX11_pairs_1 ml_X11_222 kmX11_isChoice st_X11_isChoice (c_X11_isChoice _ (by first | assumption | exact ⟨by omega, by omega⟩)) rfl rfl ⟨Nat.le_of_ble_eq_true rfl, Nat.le_of_ble_eq_true rfl⟩ (Nat.le_of_ble_eq_true rfl) ⟨Nat.le_of_ble_eq_true rfl, Nat.le_of_ble_eq_true rfl⟩ ?_
  refine R_ifp_eq 7 19 rfl rfl dX11_pairs_4 (fun h4 => ?_) (fun h4 => ?_)
  · refine R_iconst 20 rfl dX11_pairs_19 ?_
    refine R_ireturn dX11_pairs_20 rfl ?_
    exact QI_mk ⟨by unfold a_pairs; rw [if_neg (by omega)], Fm.rf, hR⟩
  · refine R_iload_n 8 rfl dX11_pairs_7 rfl ?_
    refine R_i2l 9 rfl dX11_pairs_8 (by first | assumption | exact ⟨by omega, by omega⟩) ?_
    refine R_lconst 10 rfl dX11_pairs_9 ?_
    refine R_topL (b := 0) rfl ?_
    refine R_ldc2 (3) 13 rfl dX11_pairs_10 kl_X11_225 (by decide) ?_
    refine R_callS_i (M' := mX11_in) 16 rfl dX11_pairs_13 ml_X11_63 kmX11_in st_X11_in (c_X11_in _ _ _ (by first | assumption | exact ⟨by omega, by omega⟩ | exact rg_L (by assumption)) (by first | assumption | exact ⟨by omega, by omega⟩ | exact rg_L (by assumption)) (by first | assumption | exact ⟨by omega, by omega⟩ | exact rg_L (by assumption))) rfl rfl ⟨Nat.le_of_ble_eq_true rfl, Nat.le_of_ble_eq_true rfl⟩ (Nat.le_of_ble_eq_true rfl) ⟨Nat.le_of_ble_eq_true rfl, Nat.le_of_ble_eq_true rfl⟩ ?_
    refine R_ifp_ne 19 21 rfl rfl dX11_pairs_16 (fun h16 => ?_) (fun h16 => ?_)
    · refine R_aload_n 22 rfl dX11_pairs_21 rfl ?_
      refine R_callV_V (M' := mX11_awake) 25 rfl dX11_pairs_22 ml_X11_219 kmX11_awake im_X11_awake se_X11_awake rfl ⟨by decide, rfl⟩ (c_X11_awake hR) rfl rfl ⟨Nat.le_of_ble_eq_true rfl, Nat.le_of_ble_eq_true rfl⟩ (Nat.le_of_ble_eq_true rfl) ⟨Nat.le_of_ble_eq_true rfl, Nat.le_of_ble_eq_true rfl⟩ ?_
      rintro m22 h22
      obtain ⟨f22, hW, -⟩ := h22
      refine R_aload_n 26 rfl dX11_pairs_25 rfl ?_
      refine R_iload_n 27 rfl dX11_pairs_26 rfl ?_
      refine R_iload_n 28 rfl dX11_pairs_27 rfl ?_
      refine R_iconst 29 rfl dX11_pairs_28 ?_
      refine R_idiv_p 30 rfl dX11_pairs_29 (by first | assumption | exact ⟨by omega, by omega⟩) (by first | assumption | exact ⟨by omega, by omega⟩) (by omega) (by omega) ?_
      refine R_iload_n 31 rfl dX11_pairs_30 rfl ?_
      refine R_iconst 32 rfl dX11_pairs_31 ?_
      refine R_irem_p 33 rfl dX11_pairs_32 (by first | assumption | exact ⟨by omega, by omega⟩) (by first | assumption | exact ⟨by omega, by omega⟩) (by omega) (by omega) ?_
      refine R_callV_i (M' := mX11_pairsOf) 36 rfl dX11_pairs_33 ml_X11_264 kmX11_pairsOf im_X11_pairsOf se_X11_pairsOf rfl ⟨by decide, rfl⟩ (c_X11_pairsOf _ _ _ c.toNat hW (by omega) (by omega) ⟨by omega, by omega⟩ ⟨by omega, by omega⟩) rfl rfl ⟨Nat.le_of_ble_eq_true rfl, Nat.le_of_ble_eq_true rfl⟩ (Nat.le_of_ble_eq_true rfl) ⟨Nat.le_of_ble_eq_true rfl, Nat.le_of_ble_eq_true rfl⟩ ?_
      refine R_ireturn dX11_pairs_36 rfl ?_
      exact QI_mk ⟨by unfold a_pairs; rw [if_pos (by omega)], f22, hW.1⟩
    · refine R_iconst 20 rfl dX11_pairs_19 ?_
      refine R_ireturn dX11_pairs_20 rfl ?_
      exact QI_mk ⟨by unfold a_pairs; rw [if_neg (by omega)], Fm.rf, hR⟩
theorem spr_rg (B : Bk) (ch : Cs) (c : Nat) (h : B.1 ≤ 40) : -10000 ≤ sprU B ch c ∧ sprU B ch c ≤ 10000 := by
  have p0 := prs_le B ch c 0 0
  have p1 := prs_le B ch c 0 1
  have p2 := prs_le B ch c 1 0
  have p3 := prs_le B ch c 1 1
  have k1 : (prs B ch c 0 0 : Int) * ((prs B ch c 1 0 : Int) + prs B ch c 1 1) ≤ 40 * 80 := Int.mul_le_mul (by omega) (by omega) (by omega) (by omega)
  have k2 : 0 ≤ (prs B ch c 0 0 : Int) * ((prs B ch c 1 0 : Int) + prs B ch c 1 1) := Int.mul_nonneg (by omega) (by omega)
  have k3 : ((prs B ch c 0 0 : Int) + prs B ch c 0 1) * prs B ch c 1 0 ≤ 80 * 40 := Int.mul_le_mul (by omega) (by omega) (by omega) (by omega)
  have k4 : 0 ≤ ((prs B ch c 0 0 : Int) + prs B ch c 0 1) * prs B ch c 1 0 := Int.mul_nonneg (by omega) (by omega)
  unfold sprU
  omega
theorem c_X11_spared (c w : Int) (hR : RS L B ch m) (hc : rg c) (hw : rg w) : C Γ mX11_spared 3 120 0 0 [vr 96, vi c, vi w] SH m (QM L B ch m (a_spared B ch c w)) := by
  refine C_of_R rfl (Nat.le_of_ble_eq_true rfl) ?_
  have g2 := hR.2.2.2.2.1.1
  have p2 := prs_le B ch c.toNat 1 0
  have p3 := prs_le B ch c.toNat 1 1
  have sr := spr_rg B ch c.toNat g2
  refine R_iload_n 1 rfl dX11_spared_0 rfl ?_
  refine R_callS_i (M' := mX11_isChoice) 4 rfl dX11_spared_1 ml_X11_222 kmX11_isChoice st_X11_isChoice (c_X11_isChoice _ (by first | assumption | exact ⟨by omega, by omega⟩)) rfl rfl ⟨Nat.le_of_ble_eq_true rfl, Nat.le_of_ble_eq_true rfl⟩ (Nat.le_of_ble_eq_true rfl) ⟨Nat.le_of_ble_eq_true rfl, Nat.le_of_ble_eq_true rfl⟩ ?_
  refine R_ifp_eq 7 17 rfl rfl dX11_spared_4 (fun h4 => ?_) (fun h4 => ?_)
  · refine R_iconst 18 rfl dX11_spared_17 ?_
    refine R_ireturn dX11_spared_18 rfl ?_
    exact QI_mk ⟨by unfold a_spared; rw [if_neg (by omega)], Fm.rf, hR⟩
  · refine R_iload_n 8 rfl dX11_spared_7 rfl ?_
    refine R_i2l 9 rfl dX11_spared_8 (by first | assumption | exact ⟨by omega, by omega⟩) ?_
    refine R_lconst 10 rfl dX11_spared_9 ?_
    refine R_topL (b := 0) rfl ?_
    refine R_lconst 11 rfl dX11_spared_10 ?_
    refine R_topL (b := 1) rfl ?_
    refine R_callS_i (M' := mX11_in) 14 rfl dX11_spared_11 ml_X11_63 kmX11_in st_X11_in (c_X11_in _ _ _ (by first | assumption | exact ⟨by omega, by omega⟩ | exact rg_L (by assumption)) (by first | assumption | exact ⟨by omega, by omega⟩ | exact rg_L (by assumption)) (by first | assumption | exact ⟨by omega, by omega⟩ | exact rg_L (by assumption))) rfl rfl ⟨Nat.le_of_ble_eq_true rfl, Nat.le_of_ble_eq_true rfl⟩ (Nat.le_of_ble_eq_true rfl) ⟨Nat.le_of_ble_eq_true rfl, Nat.le_of_ble_eq_true rfl⟩ ?_
    refine R_ifp_ne 17 19 rfl rfl dX11_spared_14 (fun h14 => ?_) (fun h14 => ?_)
    · refine R_aload_n 20 rfl dX11_spared_19 rfl ?_
      refine R_callV_V (M' := mX11_awake) 23 rfl dX11_spared_20 ml_X11_219 kmX11_awake im_X11_awake se_X11_awake rfl ⟨by decide, rfl⟩ (c_X11_awake hR) rfl rfl ⟨Nat.le_of_ble_eq_true rfl, Nat.le_of_ble_eq_true rfl⟩ (Nat.le_of_ble_eq_true rfl) ⟨Nat.le_of_ble_eq_true rfl, Nat.le_of_ble_eq_true rfl⟩ ?_
      rintro m20 h20
      obtain ⟨f20, hW, -⟩ := h20
      refine R_aload_n 24 rfl dX11_spared_23 rfl ?_
      refine R_iload_n 25 rfl dX11_spared_24 rfl ?_
      refine R_iconst 26 rfl dX11_spared_25 ?_
      refine R_iconst 27 rfl dX11_spared_26 ?_
      refine R_callV_i (M' := mX11_pairsOf) 30 rfl dX11_spared_27 ml_X11_264 kmX11_pairsOf im_X11_pairsOf se_X11_pairsOf rfl ⟨by decide, rfl⟩ (c_X11_pairsOf _ _ _ c.toNat hW (by omega) (by omega) ⟨by omega, by omega⟩ ⟨by omega, by omega⟩) rfl rfl ⟨Nat.le_of_ble_eq_true rfl, Nat.le_of_ble_eq_true rfl⟩ (Nat.le_of_ble_eq_true rfl) ⟨Nat.le_of_ble_eq_true rfl, Nat.le_of_ble_eq_true rfl⟩ ?_
      refine R_istore_n [_, _, _, _, _, _, _, _] 31 rfl dX11_spared_30 rfl (by decide) ?_
      refine R_iload_n 32 rfl dX11_spared_31 rfl ?_
      refine R_aload_n 33 rfl dX11_spared_32 rfl ?_
      refine R_iload_n 34 rfl dX11_spared_33 rfl ?_
      refine R_iconst 35 rfl dX11_spared_34 ?_
      refine R_iconst 36 rfl dX11_spared_35 ?_
      refine R_callV_i (M' := mX11_pairsOf) 39 rfl dX11_spared_36 ml_X11_264 kmX11_pairsOf im_X11_pairsOf se_X11_pairsOf rfl ⟨by decide, rfl⟩ (c_X11_pairsOf _ _ _ c.toNat hW (by omega) (by omega) ⟨by omega, by omega⟩ ⟨by omega, by omega⟩) rfl rfl ⟨Nat.le_of_ble_eq_true rfl, Nat.le_of_ble_eq_true rfl⟩ (Nat.le_of_ble_eq_true rfl) ⟨Nat.le_of_ble_eq_true rfl, Nat.le_of_ble_eq_true rfl⟩ ?_
      refine R_iadd 40 rfl dX11_spared_39 ?_
      refine R_istore [_, _, _, _, _, _, _, _] 42 rfl dX11_spared_40 rfl (by decide) ?_
      refine R_aload_n 43 rfl dX11_spared_42 rfl ?_
      refine R_iload_n 44 rfl dX11_spared_43 rfl ?_
      refine R_iconst 45 rfl dX11_spared_44 ?_
      refine R_iconst 46 rfl dX11_spared_45 ?_
      refine R_callV_i (M' := mX11_pairsOf) 49 rfl dX11_spared_46 ml_X11_264 kmX11_pairsOf im_X11_pairsOf se_X11_pairsOf rfl ⟨by decide, rfl⟩ (c_X11_pairsOf _ _ _ c.toNat hW (by omega) (by omega) ⟨by omega, by omega⟩ ⟨by omega, by omega⟩) rfl rfl ⟨Nat.le_of_ble_eq_true rfl, Nat.le_of_ble_eq_true rfl⟩ (Nat.le_of_ble_eq_true rfl) ⟨Nat.le_of_ble_eq_true rfl, Nat.le_of_ble_eq_true rfl⟩ ?_
      refine R_istore [_, _, _, _, _, _, _, _] 51 rfl dX11_spared_49 rfl (by decide) ?_
      refine R_iload 53 rfl dX11_spared_51 rfl ?_
      refine R_aload_n 54 rfl dX11_spared_53 rfl ?_
      refine R_iload_n 55 rfl dX11_spared_54 rfl ?_
      refine R_iconst 56 rfl dX11_spared_55 ?_
      refine R_iconst 57 rfl dX11_spared_56 ?_
      refine R_callV_i (M' := mX11_pairsOf) 60 rfl dX11_spared_57 ml_X11_264 kmX11_pairsOf im_X11_pairsOf se_X11_pairsOf rfl ⟨by decide, rfl⟩ (c_X11_pairsOf _ _ _ c.toNat hW (by omega) (by omega) ⟨by omega, by omega⟩ ⟨by omega, by omega⟩) rfl rfl ⟨Nat.le_of_ble_eq_true rfl, Nat.le_of_ble_eq_true rfl⟩ (Nat.le_of_ble_eq_true rfl) ⟨Nat.le_of_ble_eq_true rfl, Nat.le_of_ble_eq_true rfl⟩ ?_
      refine R_iadd 61 rfl dX11_spared_60 ?_
      refine R_istore [_, _, _, _, _, _, _, _] 63 rfl dX11_spared_61 rfl (by decide) ?_
      refine R_iload_n 64 rfl dX11_spared_63 rfl ?_
      refine R_iload 66 rfl dX11_spared_64 rfl ?_
      refine R_imul 67 rfl dX11_spared_66 ?_
      refine R_iload 69 rfl dX11_spared_67 rfl ?_
      refine R_iload 71 rfl dX11_spared_69 rfl ?_
      refine R_imul 72 rfl dX11_spared_71 ?_
      refine R_isub 73 rfl dX11_spared_72 ?_
      refine R_top (b := sprU B ch c.toNat) rfl ?_
      refine R_istore [_, _, _, _, _, _, _, _] 75 rfl dX11_spared_73 rfl (by decide) ?_
      refine R_iload 77 rfl dX11_spared_75 rfl ?_
      refine R_if_ne 80 85 rfl rfl dX11_spared_77 (by first | assumption | exact ⟨by omega, by omega⟩) (fun h77 => ?_) (fun h77 => ?_)
      · refine R_iload 87 rfl dX11_spared_85 rfl ?_
        refine R_if_ge 90 94 rfl rfl dX11_spared_87 (by first | assumption | exact ⟨by omega, by omega⟩) (fun h87 => ?_) (fun h87 => ?_)
        · refine R_iload 96 rfl dX11_spared_94 rfl ?_
          refine R_i2l 97 rfl dX11_spared_96 (by first | assumption | exact ⟨by omega, by omega⟩) ?_
          refine R_iload 99 rfl dX11_spared_97 rfl ?_
          refine R_i2l 100 rfl dX11_spared_99 (by first | assumption | exact ⟨by omega, by omega⟩) ?_
          refine R_iload_n 101 rfl dX11_spared_100 rfl ?_
          refine R_callS_l (M' := mX11_lowest) 104 rfl dX11_spared_101 ml_X11_257 kmX11_lowest st_X11_lowest (c_X11_lowest _ _ _ (by omega) (by omega) (by omega)) rfl rfl ⟨Nat.le_of_ble_eq_true rfl, Nat.le_of_ble_eq_true rfl⟩ (Nat.le_of_ble_eq_true rfl) ⟨Nat.le_of_ble_eq_true rfl, Nat.le_of_ble_eq_true rfl⟩ ?_
          refine R_l2i 105 rfl dX11_spared_104 ?_
          refine R_ireturn dX11_spared_105 rfl ?_
          first | exact QI_mk ⟨by unfold a_spared frc; rw [if_pos (by omega), if_pos (by omega)], f20, hW.1⟩ | exact QI_mk ⟨by unfold a_spared frc; rw [if_pos (show (0 ≤ c ∧ c ≤ 1) ∧ 0 ≤ w ∧ w ≤ 1 by omega), if_neg (show ¬ ((prs B ch c.toNat 1 0 : Int) + prs B ch c.toNat 1 1 = 0) by omega), show max (sprU B ch c.toNat) 0 = 0 by omega], f20, hW.1⟩ | exact QI_mk ⟨by unfold a_spared frc; rw [if_pos (show (0 ≤ c ∧ c ≤ 1) ∧ 0 ≤ w ∧ w ≤ 1 by omega), if_neg (show ¬ ((prs B ch c.toNat 1 0 : Int) + prs B ch c.toNat 1 1 = 0) by omega), show max (sprU B ch c.toNat) 0 = sprU B ch c.toNat by omega], f20, hW.1⟩
        · refine R_lconst 91 rfl dX11_spared_90 ?_
          refine R_topL (b := 0) rfl ?_
          refine R_goto 97 rfl dX11_spared_91 ?_
          refine R_iload 99 rfl dX11_spared_97 rfl ?_
          refine R_i2l 100 rfl dX11_spared_99 (by first | assumption | exact ⟨by omega, by omega⟩) ?_
          refine R_iload_n 101 rfl dX11_spared_100 rfl ?_
          refine R_callS_l (M' := mX11_lowest) 104 rfl dX11_spared_101 ml_X11_257 kmX11_lowest st_X11_lowest (c_X11_lowest _ _ _ (by omega) (by omega) (by omega)) rfl rfl ⟨Nat.le_of_ble_eq_true rfl, Nat.le_of_ble_eq_true rfl⟩ (Nat.le_of_ble_eq_true rfl) ⟨Nat.le_of_ble_eq_true rfl, Nat.le_of_ble_eq_true rfl⟩ ?_
          refine R_l2i 105 rfl dX11_spared_104 ?_
          refine R_ireturn dX11_spared_105 rfl ?_
          first | exact QI_mk ⟨by unfold a_spared frc; rw [if_pos (by omega), if_pos (by omega)], f20, hW.1⟩ | exact QI_mk ⟨by unfold a_spared frc; rw [if_pos (show (0 ≤ c ∧ c ≤ 1) ∧ 0 ≤ w ∧ w ≤ 1 by omega), if_neg (show ¬ ((prs B ch c.toNat 1 0 : Int) + prs B ch c.toNat 1 1 = 0) by omega), show max (sprU B ch c.toNat) 0 = 0 by omega], f20, hW.1⟩ | exact QI_mk ⟨by unfold a_spared frc; rw [if_pos (show (0 ≤ c ∧ c ≤ 1) ∧ 0 ≤ w ∧ w ≤ 1 by omega), if_neg (show ¬ ((prs B ch c.toNat 1 0 : Int) + prs B ch c.toNat 1 1 = 0) by omega), show max (sprU B ch c.toNat) 0 = sprU B ch c.toNat by omega], f20, hW.1⟩
      · refine R_bipush 82 rfl dX11_spared_80 (by decide) ?_
        refine R_goto 105 rfl dX11_spared_82 ?_
        refine R_ireturn dX11_spared_105 rfl ?_
        first | exact QI_mk ⟨by unfold a_spared frc; rw [if_pos (by omega), if_pos (by omega)], f20, hW.1⟩ | exact QI_mk ⟨by unfold a_spared frc; rw [if_pos (show (0 ≤ c ∧ c ≤ 1) ∧ 0 ≤ w ∧ w ≤ 1 by omega), if_neg (show ¬ ((prs B ch c.toNat 1 0 : Int) + prs B ch c.toNat 1 1 = 0) by omega), show max (sprU B ch c.toNat) 0 = 0 by omega], f20, hW.1⟩ | exact QI_mk ⟨by unfold a_spared frc; rw [if_pos (show (0 ≤ c ∧ c ≤ 1) ∧ 0 ≤ w ∧ w ≤ 1 by omega), if_neg (show ¬ ((prs B ch c.toNat 1 0 : Int) + prs B ch c.toNat 1 1 = 0) by omega), show max (sprU B ch c.toNat) 0 = sprU B ch c.toNat by omega], f20, hW.1⟩
    · refine R_iconst 18 rfl dX11_spared_17 ?_
      refine R_ireturn dX11_spared_18 rfl ?_
      exact QI_mk ⟨by unfold a_spared; rw [if_neg (by omega)], Fm.rf, hR⟩
theorem c_X11_groupMany (gr : Int) (hR : RS L B ch m) (hg : 0 ≤ gr ∧ gr ≤ 3) : C Γ mX11_groupMany 0 0 0 0 [vr 96, vi gr] SH m (Qi SH m (gMy L gr : Int)) := by
  refine C_of_R rfl (Nat.le_of_ble_eq_true rfl) ?_
  have hP := hR.1
  have h2 := hR.2.1.1 0 (by omega)
  have h1 := npN_le hR.2.2.1
  refine R_iload_n 1 rfl dX11_groupMany_0 rfl ?_
  refine R_if_ne 4 13 rfl rfl dX11_groupMany_1 (by first | assumption | exact ⟨by omega, by omega⟩) (fun h1 => ?_) (fun h1 => ?_)
  · refine R_iload_n 14 rfl dX11_groupMany_13 rfl ?_
    refine R_iconst 15 rfl dX11_groupMany_14 ?_
    refine R_icmp_ne 18 23 rfl rfl dX11_groupMany_15 (by first | assumption | exact ⟨by omega, by omega⟩) (by first | assumption | exact ⟨by omega, by omega⟩) (fun h15 => ?_) (fun h15 => ?_)
    · refine R_iconst 24 rfl dX11_groupMany_23 ?_
      refine R_ireturn dX11_groupMany_24 rfl ?_
      exact Qi_mk (by unfold gMy; first | (rw [if_pos (by omega)]; omega) | (rw [if_neg (by omega), if_pos (by omega)]; rfl) | (rw [if_neg (by omega), if_neg (by omega)]; rfl))
    · refine R_bipush 20 rfl dX11_groupMany_18 (by decide) ?_
      refine R_goto 24 rfl dX11_groupMany_20 ?_
      refine R_ireturn dX11_groupMany_24 rfl ?_
      exact Qi_mk (by unfold gMy; first | (rw [if_pos (by omega)]; omega) | (rw [if_neg (by omega), if_pos (by omega)]; rfl) | (rw [if_neg (by omega), if_neg (by omega)]; rfl))
  · refine R_aload_n 5 rfl dX11_groupMany_4 rfl ?_
    refine R_getP 12 8 rfl dX11_groupMany_5 rfl rfl fl_X11_22 (hP _ _ _ rfl) ?_
    refine R_iconst 9 rfl dX11_groupMany_8 ?_
    refine R_iald 0 10 rfl dX11_groupMany_9 rfl (by first | rfl | omega) (by decide) (by decide) ?_
    refine R_goto 24 rfl dX11_groupMany_10 ?_
    refine R_ireturn dX11_groupMany_24 rfl ?_
    exact Qi_mk (by unfold gMy; first | (rw [if_pos (by omega)]; omega) | (rw [if_neg (by omega), if_pos (by omega)]; rfl) | (rw [if_neg (by omega), if_neg (by omega)]; rfl))
theorem c_X11_unwed (c w : Int) (hR : RS L B ch m) (hc : rg c) (hw : rg w) : C Γ mX11_unwed 7 280 0 0 [vr 96, vi c, vi w] SH m (QM L B ch m (a_unwed L B ch c w)) := by
  refine C_of_R rfl (Nat.le_of_ble_eq_true rfl) ?_
  have g0 := hmy_le L B ch c.toNat 0
  have g1 := hmy_le L B ch c.toNat 1
  have g2 := hR.2.2.2.2.1.1
  have hl := hR.2.2.1.1
  refine R_iload_n 1 rfl dX11_unwed_0 rfl ?_
  refine R_callS_i (M' := mX11_isChoice) 4 rfl dX11_unwed_1 ml_X11_222 kmX11_isChoice st_X11_isChoice (c_X11_isChoice _ (by first | assumption | exact ⟨by omega, by omega⟩)) rfl rfl ⟨Nat.le_of_ble_eq_true rfl, Nat.le_of_ble_eq_true rfl⟩ (Nat.le_of_ble_eq_true rfl) ⟨Nat.le_of_ble_eq_true rfl, Nat.le_of_ble_eq_true rfl⟩ ?_
  refine R_ifp_eq 7 19 rfl rfl dX11_unwed_4 (fun h4 => ?_) (fun h4 => ?_)
  · refine R_iconst 20 rfl dX11_unwed_19 ?_
    refine R_ireturn dX11_unwed_20 rfl ?_
    exact QI_mk ⟨by unfold a_unwed; rw [if_neg (by omega)], Fm.rf, hR⟩
  · refine R_iload_n 8 rfl dX11_unwed_7 rfl ?_
    refine R_i2l 9 rfl dX11_unwed_8 (by first | assumption | exact ⟨by omega, by omega⟩) ?_
    refine R_lconst 10 rfl dX11_unwed_9 ?_
    refine R_topL (b := 0) rfl ?_
    refine R_ldc2 (3) 13 rfl dX11_unwed_10 kl_X11_225 (by decide) ?_
    refine R_callS_i (M' := mX11_in) 16 rfl dX11_unwed_13 ml_X11_63 kmX11_in st_X11_in (c_X11_in _ _ _ (by first | assumption | exact ⟨by omega, by omega⟩ | exact rg_L (by assumption)) (by first | assumption | exact ⟨by omega, by omega⟩ | exact rg_L (by assumption)) (by first | assumption | exact ⟨by omega, by omega⟩ | exact rg_L (by assumption))) rfl rfl ⟨Nat.le_of_ble_eq_true rfl, Nat.le_of_ble_eq_true rfl⟩ (Nat.le_of_ble_eq_true rfl) ⟨Nat.le_of_ble_eq_true rfl, Nat.le_of_ble_eq_true rfl⟩ ?_
    refine R_ifp_ne 19 21 rfl rfl dX11_unwed_16 (fun h16 => ?_) (fun h16 => ?_)
    · refine R_aload_n 22 rfl dX11_unwed_21 rfl ?_
      refine R_callV_V (M' := mX11_layKinds) 25 rfl dX11_unwed_22 ml_X11_227 kmX11_layKinds im_X11_layKinds se_X11_layKinds rfl ⟨by decide, rfl⟩ (c_X11_layKinds hR) rfl rfl ⟨Nat.le_of_ble_eq_true rfl, Nat.le_of_ble_eq_true rfl⟩ (Nat.le_of_ble_eq_true rfl) ⟨Nat.le_of_ble_eq_true rfl, Nat.le_of_ble_eq_true rfl⟩ ?_
      rintro m22 h22
      obtain ⟨f22, z22⟩ := h22
      refine R_aload_n 26 rfl dX11_unwed_25 rfl ?_
      refine R_iload_n 27 rfl dX11_unwed_26 rfl ?_
      refine R_bipush 29 rfl dX11_unwed_27 (by decide) ?_
      refine R_iconst 30 rfl dX11_unwed_29 ?_
      refine R_callV_V (M' := mX11_tally) 33 rfl dX11_unwed_30 ml_X11_230 kmX11_tally im_X11_tally se_X11_tally rfl ⟨by decide, rfl⟩ (c_X11_tally _ _ _ c.toNat z22 (by omega) (by omega) (Or.inl rfl) ⟨by omega, by omega⟩) rfl rfl ⟨Nat.le_of_ble_eq_true rfl, Nat.le_of_ble_eq_true rfl⟩ (Nat.le_of_ble_eq_true rfl) ⟨Nat.le_of_ble_eq_true rfl, Nat.le_of_ble_eq_true rfl⟩ ?_
      rintro m30 h30
      obtain ⟨f30, z30, a30, b30⟩ := h30
      rw [ty_all L] at a30
      rw [ty_abl] at b30
      have hP := z30.1.1
      refine R_aload_n 34 rfl dX11_unwed_33 rfl ?_
      refine R_getI 22 37 rfl dX11_unwed_34 rfl rfl fl_X11_234 ?_
      rw [a30]
      refine R_aload_n 38 rfl dX11_unwed_37 rfl ?_
      refine R_getP 12 41 rfl dX11_unwed_38 rfl rfl fl_X11_22 (hP _ _ _ rfl) ?_
      refine R_iconst 42 rfl dX11_unwed_41 ?_
      refine R_iald 5 43 rfl dX11_unwed_42 rfl (by first | rfl | omega) (by decide) (by decide) ?_
      rw [z30.1.2.1.1 5 (by omega)]
      refine R_iadd 44 rfl dX11_unwed_43 ?_
      refine R_istore_n [_, _, _, _] 45 rfl dX11_unwed_44 rfl (by decide) ?_
      refine R_iload_n 46 rfl dX11_unwed_45 rfl ?_
      refine R_if_ne 49 54 rfl rfl dX11_unwed_46 (by first | assumption | exact ⟨by omega, by omega⟩) (fun h46 => ?_) (fun h46 => ?_)
      · refine R_aload_n 55 rfl dX11_unwed_54 rfl ?_
        refine R_getI 23 58 rfl dX11_unwed_55 rfl rfl fl_X11_237 ?_
        rw [b30]
        refine R_iload_n 59 rfl dX11_unwed_58 rfl ?_
        refine R_iconst 60 rfl dX11_unwed_59 ?_
        refine R_icmp_ge 63 67 rfl rfl dX11_unwed_60 (by first | assumption | exact ⟨by omega, by omega⟩) (by first | assumption | exact ⟨by omega, by omega⟩) (fun h60 => ?_) (fun h60 => ?_)
        · refine R_aload_n 68 rfl dX11_unwed_67 rfl ?_
          refine R_getP 12 71 rfl dX11_unwed_68 rfl rfl fl_X11_22 (hP _ _ _ rfl) ?_
          refine R_iconst 72 rfl dX11_unwed_71 ?_
          refine R_iald 5 73 rfl dX11_unwed_72 rfl (by first | rfl | omega) (by decide) (by decide) ?_
          first | rw [z30.1.2.1.1 5 (by omega)] | skip
          refine R_iadd 74 rfl dX11_unwed_73 ?_
          refine R_i2l 75 rfl dX11_unwed_74 (by first | assumption | exact ⟨by omega, by omega⟩) ?_
          refine R_iload_n 76 rfl dX11_unwed_75 rfl ?_
          refine R_i2l 77 rfl dX11_unwed_76 (by first | assumption | exact ⟨by omega, by omega⟩) ?_
          refine R_iload_n 78 rfl dX11_unwed_77 rfl ?_
          refine R_callS_l (M' := mX11_lowest) 81 rfl dX11_unwed_78 ml_X11_257 kmX11_lowest st_X11_lowest (c_X11_lowest _ _ _ (by omega) (by omega) (by omega)) rfl rfl ⟨Nat.le_of_ble_eq_true rfl, Nat.le_of_ble_eq_true rfl⟩ (Nat.le_of_ble_eq_true rfl) ⟨Nat.le_of_ble_eq_true rfl, Nat.le_of_ble_eq_true rfl⟩ ?_
          refine R_l2i 82 rfl dX11_unwed_81 ?_
          refine R_ireturn dX11_unwed_82 rfl ?_
          first | exact QI_mk ⟨by unfold a_unwed frc; rw [if_pos (by omega), if_pos (by omega)], f22.tr f30, z30.1⟩ | exact QI_mk ⟨by unfold a_unwed frc; rw [if_pos (show (0 ≤ c ∧ c ≤ 1) ∧ 0 ≤ w ∧ w ≤ 3 by omega), if_neg (show ¬ ((hmy L B ch c.toNat 0 : Int) + L.1 5 = 0) by omega), if_pos (show w < 2 by omega), Int.add_zero], f22.tr f30, z30.1⟩ | exact QI_mk ⟨by unfold a_unwed frc; rw [if_pos (show (0 ≤ c ∧ c ≤ 1) ∧ 0 ≤ w ∧ w ≤ 3 by omega), if_neg (show ¬ ((hmy L B ch c.toNat 0 : Int) + L.1 5 = 0) by omega), if_neg (show ¬ w < 2 by omega)], f22.tr f30, z30.1⟩
        · refine R_iconst 64 rfl dX11_unwed_63 ?_
          refine R_goto 73 rfl dX11_unwed_64 ?_
          first | rw [z30.1.2.1.1 5 (by omega)] | skip
          refine R_iadd 74 rfl dX11_unwed_73 ?_
          refine R_i2l 75 rfl dX11_unwed_74 (by first | assumption | exact ⟨by omega, by omega⟩) ?_
          refine R_iload_n 76 rfl dX11_unwed_75 rfl ?_
          refine R_i2l 77 rfl dX11_unwed_76 (by first | assumption | exact ⟨by omega, by omega⟩) ?_
          refine R_iload_n 78 rfl dX11_unwed_77 rfl ?_
          refine R_callS_l (M' := mX11_lowest) 81 rfl dX11_unwed_78 ml_X11_257 kmX11_lowest st_X11_lowest (c_X11_lowest _ _ _ (by omega) (by omega) (by omega)) rfl rfl ⟨Nat.le_of_ble_eq_true rfl, Nat.le_of_ble_eq_true rfl⟩ (Nat.le_of_ble_eq_true rfl) ⟨Nat.le_of_ble_eq_true rfl, Nat.le_of_ble_eq_true rfl⟩ ?_
          refine R_l2i 82 rfl dX11_unwed_81 ?_
          refine R_ireturn dX11_unwed_82 rfl ?_
          first | exact QI_mk ⟨by unfold a_unwed frc; rw [if_pos (by omega), if_pos (by omega)], f22.tr f30, z30.1⟩ | exact QI_mk ⟨by unfold a_unwed frc; rw [if_pos (show (0 ≤ c ∧ c ≤ 1) ∧ 0 ≤ w ∧ w ≤ 3 by omega), if_neg (show ¬ ((hmy L B ch c.toNat 0 : Int) + L.1 5 = 0) by omega), if_pos (show w < 2 by omega), Int.add_zero], f22.tr f30, z30.1⟩ | exact QI_mk ⟨by unfold a_unwed frc; rw [if_pos (show (0 ≤ c ∧ c ≤ 1) ∧ 0 ≤ w ∧ w ≤ 3 by omega), if_neg (show ¬ ((hmy L B ch c.toNat 0 : Int) + L.1 5 = 0) by omega), if_neg (show ¬ w < 2 by omega)], f22.tr f30, z30.1⟩
      · refine R_bipush 51 rfl dX11_unwed_49 (by decide) ?_
        refine R_goto 82 rfl dX11_unwed_51 ?_
        refine R_ireturn dX11_unwed_82 rfl ?_
        first | exact QI_mk ⟨by unfold a_unwed frc; rw [if_pos (by omega), if_pos (by omega)], f22.tr f30, z30.1⟩ | exact QI_mk ⟨by unfold a_unwed frc; rw [if_pos (show (0 ≤ c ∧ c ≤ 1) ∧ 0 ≤ w ∧ w ≤ 3 by omega), if_neg (show ¬ ((hmy L B ch c.toNat 0 : Int) + L.1 5 = 0) by omega), if_pos (show w < 2 by omega), Int.add_zero], f22.tr f30, z30.1⟩ | exact QI_mk ⟨by unfold a_unwed frc; rw [if_pos (show (0 ≤ c ∧ c ≤ 1) ∧ 0 ≤ w ∧ w ≤ 3 by omega), if_neg (show ¬ ((hmy L B ch c.toNat 0 : Int) + L.1 5 = 0) by omega), if_neg (show ¬ w < 2 by omega)], f22.tr f30, z30.1⟩
    · refine R_iconst 20 rfl dX11_unwed_19 ?_
      refine R_ireturn dX11_unwed_20 rfl ?_
      exact QI_mk ⟨by unfold a_unwed; rw [if_neg (by omega)], Fm.rf, hR⟩
end
