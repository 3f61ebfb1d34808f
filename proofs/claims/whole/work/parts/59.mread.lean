section
variable {Γ : GX} {m m' : Mem} {B B' : Bk} {L : Ld} {ch ch' : Cs}
set_option maxHeartbeats 1000000 in
theorem c_X11_reading (c w : Int) (hR : RS L B ch m) (hc : rg c) (hw : rg w) : C Γ mX11_reading 7 280 0 0 [vr 96, vi c, vi w] SH m (QN L B ch m (a_reading L B ch c w)) := by
  refine C_of_R rfl (Nat.le_of_ble_eq_true rfl) ?_
  have g0 := hmy_le L B ch c.toNat 0
  have g3 : hmy L B ch c.toNat 2 ≤ hmy L B ch c.toNat 0 := cnt_mono (fun k hk q => inS_iff.mpr ⟨(inS_iff.mp q).1, rfl⟩)
  have hO := hR.2.2.2.2.1
  have g2 := hO.1
  have hLO := hR.2.2.1.2.1
  have Lp : (0 ≤ c ∧ c ≤ 1) ∧ (0 ≤ w ∧ w ≤ 1) → ∀ m1, Fm m m1 → RZ L B ch m1 → m1.1 96 22 = (hmy L B ch c.toNat 0 : Int) → ∀ k, k ≤ 2 * B.1 → ∀ a z, a = (cnt (inS L B ch c.toNat 0) k : Int) - cnt (inS L B ch c.toNat 2) k → z = (k : Int) → R Γ mX11_reading { frames := 7, cells := 0, slots := 0, locals := 280 } 0 0 (QN L B ch m (a_reading L B ch c w)) 0 0 38 [some (vr 96), some (vi c), some (vi w), some (vi a), some (vi z)] [] SH m1 := by
    intro ho m1 hf hZ h22
    have hW := hZ.w
    have hP := hZ.1.1
    refine up_ind (2 * B.1) (fun k hk ih a z ha hz => ?_)
    refine R_iload 40 rfl dX11_reading_38 rfl ?_
    refine R_iconst 41 rfl dX11_reading_40 ?_
    refine R_aload_n 42 rfl dX11_reading_41 rfl ?_
    refine R_callV_i (M' := mX11_size) 45 rfl dX11_reading_42 ml_X11_150 kmX11_size im_X11_size se_X11_size rfl ⟨by decide, rfl⟩ (c_X11_size hZ.1) rfl rfl ⟨Nat.le_of_ble_eq_true rfl, Nat.le_of_ble_eq_true rfl⟩ (Nat.le_of_ble_eq_true rfl) ⟨Nat.le_of_ble_eq_true rfl, Nat.le_of_ble_eq_true rfl⟩ ?_
    refine R_imul 46 rfl dX11_reading_45 ?_
    refine R_icmp_ge 49 85 rfl rfl dX11_reading_46 (by first | assumption | exact ⟨by omega, by omega⟩) (by first | assumption | exact ⟨by omega, by omega⟩) (fun h46 => ?_) (fun h46 => ?_)
    · have ek : k = 2 * B.1 := by omega
      subst ek
      have ha2 : a = (hmy L B ch c.toNat 0 : Int) - hmy L B ch c.toNat 2 := ha
      refine R_aload_n 86 rfl dX11_reading_85 rfl ?_
      refine R_getI 22 89 rfl dX11_reading_86 rfl rfl fl_X11_234 ?_
      rw [h22]
      refine R_if_ne 92 96 rfl rfl dX11_reading_89 (by first | assumption | exact ⟨by omega, by omega⟩) (fun h89 => ?_) (fun h89 => ?_)
      · refine R_aload_n 97 rfl dX11_reading_96 rfl ?_
        obtain ⟨D1, D2, D3, D4, D5⟩ := rd_bd hLO (a := (hmy L B ch c.toNat 0 : Int)) (k := (hmy L B ch c.toNat 2 : Int)) (by omega) (by omega)
        have u1 := mulb (x := (hmy L B ch c.toNat 2 : Int)) (y := L.1 7) (X := 80) (Y := 999) (by omega) (by omega)
        have u2 := mulb (x := (hmy L B ch c.toNat 0 : Int) - hmy L B ch c.toNat 2) (y := L.1 9) (X := 80) (Y := 999) (by omega) (by omega)
        refine R_callV_V (M' := mX11_nothing) 100 rfl dX11_reading_97 ml_X11_304 kmX11_nothing im_X11_nothing se_X11_nothing rfl ⟨by decide, rfl⟩ (c_X11_nothing hP) rfl rfl ⟨Nat.le_of_ble_eq_true rfl, Nat.le_of_ble_eq_true rfl⟩ (Nat.le_of_ble_eq_true rfl) ⟨Nat.le_of_ble_eq_true rfl, Nat.le_of_ble_eq_true rfl⟩ ?_
        rintro m97 h97
        obtain ⟨f97, r97⟩ := h97
        have z97 := f97.z hZ
        have e22 : m97.1 96 22 = (hmy L B ch c.toNat 0 : Int) := (f97.1 96 22 (Or.inr (by decide))).trans h22
        clear hP
        have hP := z97.1.1
        refine R_aload_n 101 rfl dX11_reading_100 rfl ?_
        refine R_aload_n 102 rfl dX11_reading_101 rfl ?_
        refine R_getI 22 105 rfl dX11_reading_102 rfl rfl fl_X11_234 ?_
        rw [e22]
        refine R_iload_n 106 rfl dX11_reading_105 rfl ?_
        refine R_isub 107 rfl dX11_reading_106 ?_
        refine R_top (b := (hmy L B ch c.toNat 2 : Int)) (by omega) ?_
        refine R_i2l 108 rfl dX11_reading_107 (by first | assumption | exact ⟨by omega, by omega⟩) ?_
        refine R_aload_n 109 rfl dX11_reading_108 rfl ?_
        refine R_getP 12 112 rfl dX11_reading_109 rfl rfl fl_X11_22 (hP _ _ _ rfl) ?_
        refine R_bipush 114 rfl dX11_reading_112 (by decide) ?_
        refine R_iald 7 115 rfl dX11_reading_114 rfl (by first | rfl | omega) (by decide) (by decide) ?_
        rw [z97.1.2.1.1 7 (by omega)]
        refine R_i2l 116 rfl dX11_reading_115 (by first | assumption | exact ⟨by omega, by omega⟩) ?_
        refine R_lmul 117 rfl dX11_reading_116 ?_
        refine R_aload_n 118 rfl dX11_reading_117 rfl ?_
        refine R_getI 22 121 rfl dX11_reading_118 rfl rfl fl_X11_234 ?_
        rw [e22]
        refine R_i2l 122 rfl dX11_reading_121 (by first | assumption | exact ⟨by omega, by omega⟩) ?_
        refine R_aload_n 123 rfl dX11_reading_122 rfl ?_
        refine R_getP 12 126 rfl dX11_reading_123 rfl rfl fl_X11_22 (hP _ _ _ rfl) ?_
        refine R_bipush 128 rfl dX11_reading_126 (by decide) ?_
        refine R_iald 8 129 rfl dX11_reading_128 rfl (by first | rfl | omega) (by decide) (by decide) ?_
        rw [z97.1.2.1.1 8 (by omega)]
        refine R_i2l 130 rfl dX11_reading_129 (by first | assumption | exact ⟨by omega, by omega⟩) ?_
        refine R_lmul 131 rfl dX11_reading_130 ?_
        refine R_callV_V (M' := mX11_plus) 134 rfl dX11_reading_131 ml_X11_310 kmX11_plus im_X11_plus se_X11_plus rfl ⟨by decide, rfl⟩ (c_X11_plus 0 ((hmy L B ch c.toNat 0 : Int) * L.1 8 * L.1 10) ((hmy L B ch c.toNat 2 : Int) * L.1 7) ((hmy L B ch c.toNat 0 : Int) * L.1 8) (L.1 10) (RtM_0 r97 D1.1) ⟨D1.1, by omega⟩ D2 rfl ⟨by omega, by omega⟩ ⟨by omega, by omega⟩) rfl rfl ⟨Nat.le_of_ble_eq_true rfl, Nat.le_of_ble_eq_true rfl⟩ (Nat.le_of_ble_eq_true rfl) ⟨Nat.le_of_ble_eq_true rfl, Nat.le_of_ble_eq_true rfl⟩ ?_
        rintro m131 h131
        obtain ⟨f131, r131⟩ := h131
        have z131 := f131.z z97
        have e23 : m131.1 96 22 = (hmy L B ch c.toNat 0 : Int) := (f131.1 96 22 (Or.inr (by decide))).trans e22
        clear hP
        have hP := z131.1.1
        refine R_aload_n 135 rfl dX11_reading_134 rfl ?_
        refine R_iload_n 136 rfl dX11_reading_135 rfl ?_
        refine R_top (b := (hmy L B ch c.toNat 0 : Int) - hmy L B ch c.toNat 2) (by omega) ?_
        refine R_i2l 137 rfl dX11_reading_136 (by first | assumption | exact ⟨by omega, by omega⟩) ?_
        refine R_aload_n 138 rfl dX11_reading_137 rfl ?_
        refine R_getP 12 141 rfl dX11_reading_138 rfl rfl fl_X11_22 (hP _ _ _ rfl) ?_
        refine R_bipush 143 rfl dX11_reading_141 (by decide) ?_
        refine R_iald 9 144 rfl dX11_reading_143 rfl (by first | rfl | omega) (by decide) (by decide) ?_
        rw [z131.1.2.1.1 9 (by omega)]
        refine R_i2l 145 rfl dX11_reading_144 (by first | assumption | exact ⟨by omega, by omega⟩) ?_
        refine R_lmul 146 rfl dX11_reading_145 ?_
        refine R_aload_n 147 rfl dX11_reading_146 rfl ?_
        refine R_getI 22 150 rfl dX11_reading_147 rfl rfl fl_X11_234 ?_
        rw [e23]
        refine R_i2l 151 rfl dX11_reading_150 (by first | assumption | exact ⟨by omega, by omega⟩) ?_
        refine R_aload_n 152 rfl dX11_reading_151 rfl ?_
        refine R_getP 12 155 rfl dX11_reading_152 rfl rfl fl_X11_22 (hP _ _ _ rfl) ?_
        refine R_bipush 157 rfl dX11_reading_155 (by decide) ?_
        refine R_iald 10 158 rfl dX11_reading_157 rfl (by first | rfl | omega) (by decide) (by decide) ?_
        rw [z131.1.2.1.1 10 (by omega)]
        refine R_i2l 159 rfl dX11_reading_158 (by first | assumption | exact ⟨by omega, by omega⟩) ?_
        refine R_lmul 160 rfl dX11_reading_159 ?_
        refine R_callV_V (M' := mX11_plus) 163 rfl dX11_reading_160 ml_X11_310 kmX11_plus im_X11_plus se_X11_plus rfl ⟨by decide, rfl⟩ (c_X11_plus _ ((hmy L B ch c.toNat 0 : Int) * L.1 8 * L.1 10) (((hmy L B ch c.toNat 0 : Int) - hmy L B ch c.toNat 2) * L.1 9) ((hmy L B ch c.toNat 0 : Int) * L.1 10) (L.1 8) r131 ⟨D1.1, by omega⟩ D3 (by rw [Int.mul_assoc, Int.mul_comm (L.1 8), ← Int.mul_assoc]) ⟨by omega, by omega⟩ ⟨by omega, by omega⟩) rfl rfl ⟨Nat.le_of_ble_eq_true rfl, Nat.le_of_ble_eq_true rfl⟩ (Nat.le_of_ble_eq_true rfl) ⟨Nat.le_of_ble_eq_true rfl, Nat.le_of_ble_eq_true rfl⟩ ?_
        rintro m160 h160
        obtain ⟨f160, r160⟩ := h160
        have z160 := f160.z z131
        rw [Int.zero_add] at r160
        refine R_iload_n 164 rfl dX11_reading_163 rfl ?_
        refine R_if_ne 167 174 rfl rfl dX11_reading_164 (by first | assumption | exact ⟨by omega, by omega⟩) (fun h164 => ?_) (fun h164 => ?_)
        · refine R_aload_n 175 rfl dX11_reading_174 rfl ?_
          refine R_getL 29 178 rfl dX11_reading_175 rfl rfl fl_X11_291 ?_
          refine R_lreturn dX11_reading_178 rfl ?_
          refine QL_mk ⟨Eq.symm ?_, ((hf.tr f97.m).tr f131.m).tr f160.m, z160.1⟩
          rw [a_reading, if_pos ho, if_neg (by omega)]
          first
            | (rw [if_pos (by omega)]; exact r160.1.symm)
            | (rw [if_neg (by omega)]; exact r160.2.symm)
        · refine R_aload_n 168 rfl dX11_reading_167 rfl ?_
          refine R_getL 28 171 rfl dX11_reading_168 rfl rfl fl_X11_287 ?_
          refine R_goto 178 rfl dX11_reading_171 ?_
          refine R_lreturn dX11_reading_178 rfl ?_
          refine QL_mk ⟨Eq.symm ?_, ((hf.tr f97.m).tr f131.m).tr f160.m, z160.1⟩
          rw [a_reading, if_pos ho, if_neg (by omega)]
          first
            | (rw [if_pos (by omega)]; exact r160.1.symm)
            | (rw [if_neg (by omega)]; exact r160.2.symm)
      · refine R_ldc2 (-4) 95 rfl dX11_reading_92 kl_X11_302 (by decide) ?_
        refine R_lreturn dX11_reading_95 rfl ?_
        exact QL_mk ⟨by unfold a_reading; rw [if_pos ho, if_pos (by omega)], hf, hZ.1⟩
    · have g5 := hO.2.2 k (by omega)
      have e0 := inS_iff (L := L) (B := B) (ch := ch) (c := c.toNat) (w := 0) (k := k)
      have e2 := inS_iff (L := L) (B := B) (ch := ch) (c := c.toNat) (w := 2) (k := k)
      have s2 := srt_2 (L := L) (B := B) (k := k)
      have c0 := cnt_pI (inS L B ch c.toNat 0) k
      have c2 := cnt_pI (inS L B ch c.toNat 2) k
      refine R_iload_n 50 rfl dX11_reading_49 rfl ?_
      refine R_aload_n 51 rfl dX11_reading_50 rfl ?_
      refine R_iload_n 52 rfl dX11_reading_51 rfl ?_
      refine R_iload 54 rfl dX11_reading_52 rfl ?_
      refine R_callV_i (M' := mX11_isIn) 57 rfl dX11_reading_54 ml_X11_240 kmX11_isIn im_X11_isIn se_X11_isIn rfl ⟨by decide, rfl⟩ (c_X11_isIn _ _ c.toNat k hW (by omega) (by omega) (by omega) (by omega)) rfl rfl ⟨Nat.le_of_ble_eq_true rfl, Nat.le_of_ble_eq_true rfl⟩ (Nat.le_of_ble_eq_true rfl) ⟨Nat.le_of_ble_eq_true rfl, Nat.le_of_ble_eq_true rfl⟩ ?_
      refine R_ifp_eq 60 76 rfl rfl dX11_reading_57 (fun h57 => ?_) (fun h57 => ?_)
      · refine R_iconst 77 rfl dX11_reading_76 ?_
        refine R_iadd 78 rfl dX11_reading_77 ?_
        refine R_istore_n [_, _, _, _, _] 79 rfl dX11_reading_78 rfl (by decide) ?_
        refine R_iinc [_, _, _, _, _] 82 rfl dX11_reading_79 rfl rfl (by decide) ?_
        refine R_goto 38 rfl dX11_reading_82 ?_
        first
          | (have n2 : ¬ inS L B ch c.toNat 2 k = true := fun q => h57 (e2.mp q).1
             have n0 : ¬ inS L B ch c.toNat 0 k = true := fun q => h57 (e0.mp q).1
             rw [pI_f n0] at c0
             rw [pI_f n2] at c2
             exact ih (by omega) _ _ (by omega) (by omega))
          | (have n0 : inS L B ch c.toNat 0 k = true := e0.mpr ⟨h57, rfl⟩
             rw [pI_t n0] at c0
             rcases (show B.2.2 0 k = 0 ∨ B.2.2 0 k = 1 by omega) with q | q
             · rw [pI_t (e2.mpr ⟨h57, s2.mpr q⟩)] at c2
               exact ih (by omega) _ _ (by omega) (by omega)
             · rw [pI_f (fun w1 => by have := s2.mp (e2.mp w1).2; omega)] at c2
               exact ih (by omega) _ _ (by omega) (by omega))
      · refine R_aload_n 61 rfl dX11_reading_60 rfl ?_
        refine R_iload 63 rfl dX11_reading_61 rfl ?_
        refine R_iconst 64 rfl dX11_reading_63 ?_
        refine R_idiv_p 65 rfl dX11_reading_64 (by first | assumption | exact ⟨by omega, by omega⟩) (by first | assumption | exact ⟨by omega, by omega⟩) (by omega) (by omega) ?_
        refine R_iload 67 rfl dX11_reading_65 rfl ?_
        refine R_iconst 68 rfl dX11_reading_67 ?_
        refine R_irem_p 69 rfl dX11_reading_68 (by first | assumption | exact ⟨by omega, by omega⟩) (by first | assumption | exact ⟨by omega, by omega⟩) (by omega) (by omega) ?_
        refine R_iconst 70 rfl dX11_reading_69 ?_
        refine R_callV_i (M' := mX11_of5) 73 rfl dX11_reading_70 ml_X11_198 kmX11_of5 im_X11_of5 se_X11_of5 rfl ⟨by decide, rfl⟩ (c_X11_of5 _ _ _ k 0 hZ.1 (by omega) (by omega) (by omega) (by omega) (by omega)) rfl rfl ⟨Nat.le_of_ble_eq_true rfl, Nat.le_of_ble_eq_true rfl⟩ (Nat.le_of_ble_eq_true rfl) ⟨Nat.le_of_ble_eq_true rfl, Nat.le_of_ble_eq_true rfl⟩ ?_
        refine R_goto 77 rfl dX11_reading_73 ?_
        refine R_iadd 78 rfl dX11_reading_77 ?_
        refine R_istore_n [_, _, _, _, _] 79 rfl dX11_reading_78 rfl (by decide) ?_
        refine R_iinc [_, _, _, _, _] 82 rfl dX11_reading_79 rfl rfl (by decide) ?_
        refine R_goto 38 rfl dX11_reading_82 ?_
        first
          | (have n2 : ¬ inS L B ch c.toNat 2 k = true := fun q => h57 (e2.mp q).1
             have n0 : ¬ inS L B ch c.toNat 0 k = true := fun q => h57 (e0.mp q).1
             rw [pI_f n0] at c0
             rw [pI_f n2] at c2
             exact ih (by omega) _ _ (by omega) (by omega))
          | (have n0 : inS L B ch c.toNat 0 k = true := e0.mpr ⟨h57, rfl⟩
             rw [pI_t n0] at c0
             rcases (show B.2.2 0 k = 0 ∨ B.2.2 0 k = 1 by omega) with q | q
             · rw [pI_t (e2.mpr ⟨h57, s2.mpr q⟩)] at c2
               exact ih (by omega) _ _ (by omega) (by omega)
             · rw [pI_f (fun w1 => by have := s2.mp (e2.mp w1).2; omega)] at c2
               exact ih (by omega) _ _ (by omega) (by omega))
  refine R_iload_n 1 rfl dX11_reading_0 rfl ?_
  refine R_callS_i (M' := mX11_isChoice) 4 rfl dX11_reading_1 ml_X11_222 kmX11_isChoice st_X11_isChoice (c_X11_isChoice _ (by first | assumption | exact ⟨by omega, by omega⟩)) rfl rfl ⟨Nat.le_of_ble_eq_true rfl, Nat.le_of_ble_eq_true rfl⟩ (Nat.le_of_ble_eq_true rfl) ⟨Nat.le_of_ble_eq_true rfl, Nat.le_of_ble_eq_true rfl⟩ ?_
  refine R_ifp_eq 7 17 rfl rfl dX11_reading_4 (fun h4 => ?_) (fun h4 => ?_)
  · refine R_ldc2 (-1) 20 rfl dX11_reading_17 kl_X11_300 (by decide) ?_
    refine R_lreturn dX11_reading_20 rfl ?_
    exact QL_mk ⟨by unfold a_reading; rw [if_neg (by omega)], Fm.rf, hR⟩
  · refine R_iload_n 8 rfl dX11_reading_7 rfl ?_
    refine R_i2l 9 rfl dX11_reading_8 (by first | assumption | exact ⟨by omega, by omega⟩) ?_
    refine R_lconst 10 rfl dX11_reading_9 ?_
    refine R_topL (b := 0) rfl ?_
    refine R_lconst 11 rfl dX11_reading_10 ?_
    refine R_topL (b := 1) rfl ?_
    refine R_callS_i (M' := mX11_in) 14 rfl dX11_reading_11 ml_X11_63 kmX11_in st_X11_in (c_X11_in _ _ _ (by first | assumption | exact ⟨by omega, by omega⟩ | exact rg_L (by assumption)) (by first | assumption | exact ⟨by omega, by omega⟩ | exact rg_L (by assumption)) (by first | assumption | exact ⟨by omega, by omega⟩ | exact rg_L (by assumption))) rfl rfl ⟨Nat.le_of_ble_eq_true rfl, Nat.le_of_ble_eq_true rfl⟩ (Nat.le_of_ble_eq_true rfl) ⟨Nat.le_of_ble_eq_true rfl, Nat.le_of_ble_eq_true rfl⟩ ?_
    refine R_ifp_ne 17 21 rfl rfl dX11_reading_14 (fun h14 => ?_) (fun h14 => ?_)
    · refine R_aload_n 22 rfl dX11_reading_21 rfl ?_
      refine R_callV_V (M' := mX11_layKinds) 25 rfl dX11_reading_22 ml_X11_227 kmX11_layKinds im_X11_layKinds se_X11_layKinds rfl ⟨by decide, rfl⟩ (c_X11_layKinds hR) rfl rfl ⟨Nat.le_of_ble_eq_true rfl, Nat.le_of_ble_eq_true rfl⟩ (Nat.le_of_ble_eq_true rfl) ⟨Nat.le_of_ble_eq_true rfl, Nat.le_of_ble_eq_true rfl⟩ ?_
      rintro m22 h22
      obtain ⟨f22, z22⟩ := h22
      refine R_aload_n 26 rfl dX11_reading_25 rfl ?_
      refine R_iload_n 27 rfl dX11_reading_26 rfl ?_
      refine R_bipush 29 rfl dX11_reading_27 (by decide) ?_
      refine R_iconst 30 rfl dX11_reading_29 ?_
      refine R_callV_V (M' := mX11_tally) 33 rfl dX11_reading_30 ml_X11_230 kmX11_tally im_X11_tally se_X11_tally rfl ⟨by decide, rfl⟩ (c_X11_tally _ _ _ c.toNat z22 (by omega) (by omega) (Or.inl rfl) ⟨by omega, by omega⟩) rfl rfl ⟨Nat.le_of_ble_eq_true rfl, Nat.le_of_ble_eq_true rfl⟩ (Nat.le_of_ble_eq_true rfl) ⟨Nat.le_of_ble_eq_true rfl, Nat.le_of_ble_eq_true rfl⟩ ?_
      rintro m30 h30
      obtain ⟨f30, z30, a30, -⟩ := h30
      refine R_iconst 34 rfl dX11_reading_33 ?_
      refine R_istore_n [_, _, _, _, _] 35 rfl dX11_reading_34 rfl (by decide) ?_
      refine R_iconst 36 rfl dX11_reading_35 ?_
      refine R_istore [_, _, _, _, _] 38 rfl dX11_reading_36 rfl (by decide) ?_
      exact Lp (by omega) _ (f22.tr f30) z30 (by rw [a30, ty_all L]) 0 (by omega) _ _ rfl rfl
    · refine R_ldc2 (-1) 20 rfl dX11_reading_17 kl_X11_300 (by decide) ?_
      refine R_lreturn dX11_reading_20 rfl ?_
      exact QL_mk ⟨by unfold a_reading; rw [if_neg (by omega)], Fm.rf, hR⟩
end
