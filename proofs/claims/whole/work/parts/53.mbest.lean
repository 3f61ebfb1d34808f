theorem mul80 {a b : Int} (ha : 0 ≤ a ∧ a ≤ 80) (hb : 0 ≤ b ∧ b ≤ 80) : 0 ≤ a * b ∧ a * b ≤ 6400 := ⟨Int.mul_nonneg ha.1 hb.1, by have := Int.mul_le_mul ha.2 hb.2 hb.1 (by omega : (0 : Int) ≤ 80); omega⟩
theorem gsU_s (mk ab : Nat → Int) (n : Int) (g : Nat) : gsU mk ab n (g + 1) = if n ≤ mk g ∧ (gsU mk ab n g < 0 ∨ ab (gsU mk ab n g).toNat * mk g < ab g * mk (gsU mk ab n g).toNat) then (g : Int) else gsU mk ab n g := rfl
def gsI (mk ab : Nat → Int) (n : Int) (g : Nat) (be bA bB : Int) : Prop := (gsU mk ab n g < 0 ∧ be = -4 ∧ bA = 1 ∧ bB = 0) ∨ (0 ≤ gsU mk ab n g ∧ be = gsU mk ab n g ∧ bA = mk (gsU mk ab n g).toNat ∧ bB = ab (gsU mk ab n g).toNat)
theorem gsI_y {mk ab : Nat → Int} {n : Int} {g : Nat} {be bA bB : Int} (h : gsI mk ab n g be bA bB) (h1 : n ≤ mk g) (h2 : be = -4 ∨ bB * mk g < ab g * bA) : gsI mk ab n (g + 1) (g : Int) (mk g) (ab g) := by
  have r := gsU_rg mk ab n g
  have e : gsU mk ab n (g + 1) = (g : Int) := by
    rw [gsU_s, if_pos]
    refine ⟨h1, ?_⟩
    rcases h with ⟨q, -, -, -⟩ | ⟨q0, q1, q2, q3⟩
    · exact Or.inl q
    · rcases h2 with q | q
      · omega
      · right; rw [← q2, ← q3]; exact q
  right
  rw [e]
  exact ⟨by omega, rfl, by rw [Int.toNat_natCast], by rw [Int.toNat_natCast]⟩
theorem gsI_n {mk ab : Nat → Int} {n : Int} {g : Nat} {be bA bB : Int} (h : gsI mk ab n g be bA bB) (h1 : ¬ n ≤ mk g ∨ (be ≠ -4 ∧ ab g * bA ≤ bB * mk g)) : gsI mk ab n (g + 1) be bA bB := by
  have e : gsU mk ab n (g + 1) = gsU mk ab n g := by
    rw [gsU_s, if_neg]
    rintro ⟨q1, q2⟩
    rcases h with ⟨q, b1, -, -⟩ | ⟨q0, b1, b2, b3⟩
    · rcases h1 with w | w
      · exact w q1
      · exact w.1 b1
    · rcases h1 with w | w
      · exact w q1
      · rcases q2 with q2 | q2
        · omega
        · rw [← b2, ← b3] at q2; omega
  unfold gsI
  rw [e]
  exact h
section
variable {Γ : GX} {m m' : Mem} {B B' : Bk} {L : Ld} {ch ch' : Cs}
theorem c_X11_best (c gr n w : Int) (hR : RS L B ch m) (hc : rg c) (hg : rg gr) (hn : rg n) (hw : rg w) : C Γ mX11_best 7 280 0 0 [vr 96, vi c, vi gr, vi n, vi w] SH m (QM L B ch m (a_best L B ch c gr n w)) := by
  refine C_of_R rfl (Nat.le_of_ble_eq_true rfl) ?_
  have hb := hR.2.2.2.2.1.1
  have tr := tg_rg L B ch c.toNat gr hb
  have gm := gMy_le hR.2.2.1 gr
  have Lp : (0 ≤ c ∧ c ≤ 1) ∧ (0 ≤ gr ∧ gr ≤ 3) ∧ (1 ≤ n ∧ n ≤ 99) ∧ (0 ≤ w ∧ w ≤ 2) → ∀ g, g ≤ gMy L gr → ∀ be bA bB z m1, gsI (tgM B ch c.toNat gr) (tgA L B ch c.toNat gr) n g be bA bB → (-4 ≤ be ∧ be ≤ 12) → (0 ≤ bA ∧ bA ≤ 80) → (0 ≤ bB ∧ bB ≤ 80) → z = (g : Int) → Fm m m1 → RZ L B ch m1 → R Γ mX11_best { frames := 7, cells := 0, slots := 0, locals := 280 } 0 0 (QM L B ch m (a_best L B ch c gr n w)) 0 0 63 [some (vr 96), some (vi c), some (vi gr), some (vi n), some (vi w), some (vi be), some (vi bA), some (vi bB), some (vi z)] [] SH m1 := by
    intro ho
    refine up_ind (gMy L gr) (fun g hgl ih be bA bB z m1 hI r1 r2 r3 hz hf hZ => ?_)
    refine R_iload 65 rfl dX11_best_63 rfl ?_
    refine R_aload_n 66 rfl dX11_best_65 rfl ?_
    refine R_iload_n 67 rfl dX11_best_66 rfl ?_
    refine R_callV_i (M' := mX11_groupMany) 70 rfl dX11_best_67 ml_X11_261 kmX11_groupMany im_X11_groupMany se_X11_groupMany rfl ⟨by decide, rfl⟩ (c_X11_groupMany _ hZ.1 (by omega)) rfl rfl ⟨Nat.le_of_ble_eq_true rfl, Nat.le_of_ble_eq_true rfl⟩ (Nat.le_of_ble_eq_true rfl) ⟨Nat.le_of_ble_eq_true rfl, Nat.le_of_ble_eq_true rfl⟩ ?_
    refine R_icmp_ge 73 135 rfl rfl dX11_best_70 (by first | assumption | exact ⟨by omega, by omega⟩) (by first | assumption | exact ⟨by omega, by omega⟩) (fun h70 => ?_) (fun h70 => ?_)
    · refine R_iload 137 rfl dX11_best_135 rfl ?_
      refine R_bipush 139 rfl dX11_best_137 (by decide) ?_
      refine R_icmp_eq 142 147 rfl rfl dX11_best_139 (by first | assumption | exact ⟨by omega, by omega⟩) (by first | assumption | exact ⟨by omega, by omega⟩) (fun h139 => ?_) (fun h139 => ?_)
      · refine R_iload 149 rfl dX11_best_147 rfl ?_
        refine R_goto 165 rfl dX11_best_149 ?_
        refine R_ireturn dX11_best_165 rfl ?_
        have eg : g = gMy L gr := by omega
        subst eg
        have e15 : gsU (tgM B ch c.toNat gr) (tgA L B ch c.toNat gr) n 15 = gsU (tgM B ch c.toNat gr) (tgA L B ch c.toNat gr) n (gMy L gr) := by
          have := gsU_beyond (mk := tgM B ch c.toNat gr) (ab := tgA L B ch c.toNat gr) (n := n) (a := gMy L gr) (by omega) (fun g hg => tg_beyond hR.2.2.1 hR.2.2.2.2.1 hg) (15 - gMy L gr)
          rw [show gMy L gr + (15 - gMy L gr) = 15 by omega] at this
          exact this
        refine QI_mk ⟨?_, hf, hZ.1⟩
        unfold a_best bst
        rw [if_pos ho, e15]
        rcases hI with ⟨q0, q1, q2, q3⟩ | ⟨q0, q1, q2, q3⟩
        · first
            | (exfalso; omega)
            | (rw [if_pos q0]; exact q1)
        · first
            | (exfalso; omega)
            | (rw [if_neg (by omega), if_pos (by omega)]; exact q1)
            | (rw [if_neg (by omega), if_neg (by omega), if_pos (by omega)]; exact q2)
            | (rw [if_neg (by omega), if_neg (by omega), if_neg (by omega)]; exact q3)
      · refine R_iload 144 rfl dX11_best_142 rfl ?_
        refine R_if_ne 147 152 rfl rfl dX11_best_144 (by first | assumption | exact ⟨by omega, by omega⟩) (fun h144 => ?_) (fun h144 => ?_)
        · refine R_iload 154 rfl dX11_best_152 rfl ?_
          refine R_iconst 155 rfl dX11_best_154 ?_
          refine R_icmp_ne 158 163 rfl rfl dX11_best_155 (by first | assumption | exact ⟨by omega, by omega⟩) (by first | assumption | exact ⟨by omega, by omega⟩) (fun h155 => ?_) (fun h155 => ?_)
          · refine R_iload 165 rfl dX11_best_163 rfl ?_
            refine R_ireturn dX11_best_165 rfl ?_
            have eg : g = gMy L gr := by omega
            subst eg
            have e15 : gsU (tgM B ch c.toNat gr) (tgA L B ch c.toNat gr) n 15 = gsU (tgM B ch c.toNat gr) (tgA L B ch c.toNat gr) n (gMy L gr) := by
              have := gsU_beyond (mk := tgM B ch c.toNat gr) (ab := tgA L B ch c.toNat gr) (n := n) (a := gMy L gr) (by omega) (fun g hg => tg_beyond hR.2.2.1 hR.2.2.2.2.1 hg) (15 - gMy L gr)
              rw [show gMy L gr + (15 - gMy L gr) = 15 by omega] at this
              exact this
            refine QI_mk ⟨?_, hf, hZ.1⟩
            unfold a_best bst
            rw [if_pos ho, e15]
            rcases hI with ⟨q0, q1, q2, q3⟩ | ⟨q0, q1, q2, q3⟩
            · first
                | (exfalso; omega)
                | (rw [if_pos q0]; exact q1)
            · first
                | (exfalso; omega)
                | (rw [if_neg (by omega), if_pos (by omega)]; exact q1)
                | (rw [if_neg (by omega), if_neg (by omega), if_pos (by omega)]; exact q2)
                | (rw [if_neg (by omega), if_neg (by omega), if_neg (by omega)]; exact q3)
          · refine R_iload 160 rfl dX11_best_158 rfl ?_
            refine R_goto 165 rfl dX11_best_160 ?_
            refine R_ireturn dX11_best_165 rfl ?_
            have eg : g = gMy L gr := by omega
            subst eg
            have e15 : gsU (tgM B ch c.toNat gr) (tgA L B ch c.toNat gr) n 15 = gsU (tgM B ch c.toNat gr) (tgA L B ch c.toNat gr) n (gMy L gr) := by
              have := gsU_beyond (mk := tgM B ch c.toNat gr) (ab := tgA L B ch c.toNat gr) (n := n) (a := gMy L gr) (by omega) (fun g hg => tg_beyond hR.2.2.1 hR.2.2.2.2.1 hg) (15 - gMy L gr)
              rw [show gMy L gr + (15 - gMy L gr) = 15 by omega] at this
              exact this
            refine QI_mk ⟨?_, hf, hZ.1⟩
            unfold a_best bst
            rw [if_pos ho, e15]
            rcases hI with ⟨q0, q1, q2, q3⟩ | ⟨q0, q1, q2, q3⟩
            · first
                | (exfalso; omega)
                | (rw [if_pos q0]; exact q1)
            · first
                | (exfalso; omega)
                | (rw [if_neg (by omega), if_pos (by omega)]; exact q1)
                | (rw [if_neg (by omega), if_neg (by omega), if_pos (by omega)]; exact q2)
                | (rw [if_neg (by omega), if_neg (by omega), if_neg (by omega)]; exact q3)
        · refine R_iload 149 rfl dX11_best_147 rfl ?_
          refine R_goto 165 rfl dX11_best_149 ?_
          refine R_ireturn dX11_best_165 rfl ?_
          have eg : g = gMy L gr := by omega
          subst eg
          have e15 : gsU (tgM B ch c.toNat gr) (tgA L B ch c.toNat gr) n 15 = gsU (tgM B ch c.toNat gr) (tgA L B ch c.toNat gr) n (gMy L gr) := by
            have := gsU_beyond (mk := tgM B ch c.toNat gr) (ab := tgA L B ch c.toNat gr) (n := n) (a := gMy L gr) (by omega) (fun g hg => tg_beyond hR.2.2.1 hR.2.2.2.2.1 hg) (15 - gMy L gr)
            rw [show gMy L gr + (15 - gMy L gr) = 15 by omega] at this
            exact this
          refine QI_mk ⟨?_, hf, hZ.1⟩
          unfold a_best bst
          rw [if_pos ho, e15]
          rcases hI with ⟨q0, q1, q2, q3⟩ | ⟨q0, q1, q2, q3⟩
          · first
              | (exfalso; omega)
              | (rw [if_pos q0]; exact q1)
          · first
              | (exfalso; omega)
              | (rw [if_neg (by omega), if_pos (by omega)]; exact q1)
              | (rw [if_neg (by omega), if_neg (by omega), if_pos (by omega)]; exact q2)
              | (rw [if_neg (by omega), if_neg (by omega), if_neg (by omega)]; exact q3)
    · have t := tr g (by omega)
      obtain rfl : z = (g : Int) := hz
      refine R_aload_n 74 rfl dX11_best_73 rfl ?_
      refine R_iload_n 75 rfl dX11_best_74 rfl ?_
      refine R_iload_n 76 rfl dX11_best_75 rfl ?_
      refine R_iload 78 rfl dX11_best_76 rfl ?_
      refine R_callV_V (M' := mX11_tally) 81 rfl dX11_best_78 ml_X11_230 kmX11_tally im_X11_tally se_X11_tally rfl ⟨by decide, rfl⟩ (c_X11_tally _ _ _ c.toNat hZ (by omega) (by omega) (Or.inr (by omega)) ⟨by omega, by omega⟩) rfl rfl ⟨Nat.le_of_ble_eq_true rfl, Nat.le_of_ble_eq_true rfl⟩ (Nat.le_of_ble_eq_true rfl) ⟨Nat.le_of_ble_eq_true rfl, Nat.le_of_ble_eq_true rfl⟩ ?_
      rintro m78 h78
      obtain ⟨f78, z78, a78, b78⟩ := h78
      rw [ty_gM (by omega)] at a78
      rw [ty_gA (by omega)] at b78
      refine R_aload_n 82 rfl dX11_best_81 rfl ?_
      refine R_getI 22 85 rfl dX11_best_82 rfl rfl fl_X11_234 ?_
      rw [a78]
      refine R_iload_n 86 rfl dX11_best_85 rfl ?_
      refine R_icmp_lt 89 129 rfl rfl dX11_best_86 (by first | assumption | exact ⟨by omega, by omega⟩) (by first | assumption | exact ⟨by omega, by omega⟩) (fun h86 => ?_) (fun h86 => ?_)
      · refine R_iinc [_, _, _, _, _, _, _, _, _] 132 rfl dX11_best_129 rfl rfl (by decide) ?_
        refine R_goto 63 rfl dX11_best_132 ?_
        first
          | exact ih (by omega) _ _ _ _ _ (gsI_y hI (by omega) (Or.inl (by omega))) (by omega) (by omega) (by omega) (by omega) (hf.tr f78) z78
          | exact ih (by omega) _ _ _ _ _ (gsI_y hI (by omega) (Or.inr (by omega))) (by omega) (by omega) (by omega) (by omega) (hf.tr f78) z78
          | exact ih (by omega) _ _ _ _ _ (gsI_n hI (Or.inl (by omega))) (by omega) (by omega) (by omega) (by omega) (hf.tr f78) z78
          | exact ih (by omega) _ _ _ _ _ (gsI_n hI (Or.inr ⟨by omega, by omega⟩)) (by omega) (by omega) (by omega) (by omega) (hf.tr f78) z78
      · refine R_iload 91 rfl dX11_best_89 rfl ?_
        refine R_bipush 93 rfl dX11_best_91 (by decide) ?_
        refine R_icmp_eq 96 113 rfl rfl dX11_best_93 (by first | assumption | exact ⟨by omega, by omega⟩) (by first | assumption | exact ⟨by omega, by omega⟩) (fun h93 => ?_) (fun h93 => ?_)
        · refine R_iload 115 rfl dX11_best_113 rfl ?_
          refine R_istore [_, _, _, _, _, _, _, _, _] 117 rfl dX11_best_115 rfl (by decide) ?_
          refine R_aload_n 118 rfl dX11_best_117 rfl ?_
          refine R_getI 22 121 rfl dX11_best_118 rfl rfl fl_X11_234 ?_
          rw [a78]
          refine R_istore [_, _, _, _, _, _, _, _, _] 123 rfl dX11_best_121 rfl (by decide) ?_
          refine R_aload_n 124 rfl dX11_best_123 rfl ?_
          refine R_getI 23 127 rfl dX11_best_124 rfl rfl fl_X11_237 ?_
          rw [b78]
          refine R_istore [_, _, _, _, _, _, _, _, _] 129 rfl dX11_best_127 rfl (by decide) ?_
          refine R_iinc [_, _, _, _, _, _, _, _, _] 132 rfl dX11_best_129 rfl rfl (by decide) ?_
          refine R_goto 63 rfl dX11_best_132 ?_
          first
            | exact ih (by omega) _ _ _ _ _ (gsI_y hI (by omega) (Or.inl (by omega))) (by omega) (by omega) (by omega) (by omega) (hf.tr f78) z78
            | exact ih (by omega) _ _ _ _ _ (gsI_y hI (by omega) (Or.inr (by omega))) (by omega) (by omega) (by omega) (by omega) (hf.tr f78) z78
            | exact ih (by omega) _ _ _ _ _ (gsI_n hI (Or.inl (by omega))) (by omega) (by omega) (by omega) (by omega) (hf.tr f78) z78
            | exact ih (by omega) _ _ _ _ _ (gsI_n hI (Or.inr ⟨by omega, by omega⟩)) (by omega) (by omega) (by omega) (by omega) (hf.tr f78) z78
        · refine R_aload_n 97 rfl dX11_best_96 rfl ?_
          refine R_getI 23 100 rfl dX11_best_97 rfl rfl fl_X11_237 ?_
          rw [b78]
          have n1 := mul80 (a := tgA L B ch c.toNat gr g) (b := bA) (by omega) r2
          have n2 := mul80 (a := bB) (b := tgM B ch c.toNat gr g) r3 (by omega)
          refine R_iload 102 rfl dX11_best_100 rfl ?_
          refine R_imul 103 rfl dX11_best_102 ?_
          refine R_iload 105 rfl dX11_best_103 rfl ?_
          refine R_aload_n 106 rfl dX11_best_105 rfl ?_
          refine R_getI 22 109 rfl dX11_best_106 rfl rfl fl_X11_234 ?_
          rw [a78]
          refine R_imul 110 rfl dX11_best_109 ?_
          refine R_icmp_le 113 129 rfl rfl dX11_best_110 (by first | assumption | exact ⟨by omega, by omega⟩) (by first | assumption | exact ⟨by omega, by omega⟩) (fun h110 => ?_) (fun h110 => ?_)
          · refine R_iinc [_, _, _, _, _, _, _, _, _] 132 rfl dX11_best_129 rfl rfl (by decide) ?_
            refine R_goto 63 rfl dX11_best_132 ?_
            first
              | exact ih (by omega) _ _ _ _ _ (gsI_y hI (by omega) (Or.inl (by omega))) (by omega) (by omega) (by omega) (by omega) (hf.tr f78) z78
              | exact ih (by omega) _ _ _ _ _ (gsI_y hI (by omega) (Or.inr (by omega))) (by omega) (by omega) (by omega) (by omega) (hf.tr f78) z78
              | exact ih (by omega) _ _ _ _ _ (gsI_n hI (Or.inl (by omega))) (by omega) (by omega) (by omega) (by omega) (hf.tr f78) z78
              | exact ih (by omega) _ _ _ _ _ (gsI_n hI (Or.inr ⟨by omega, by omega⟩)) (by omega) (by omega) (by omega) (by omega) (hf.tr f78) z78
          · refine R_iload 115 rfl dX11_best_113 rfl ?_
            refine R_istore [_, _, _, _, _, _, _, _, _] 117 rfl dX11_best_115 rfl (by decide) ?_
            refine R_aload_n 118 rfl dX11_best_117 rfl ?_
            refine R_getI 22 121 rfl dX11_best_118 rfl rfl fl_X11_234 ?_
            rw [a78]
            refine R_istore [_, _, _, _, _, _, _, _, _] 123 rfl dX11_best_121 rfl (by decide) ?_
            refine R_aload_n 124 rfl dX11_best_123 rfl ?_
            refine R_getI 23 127 rfl dX11_best_124 rfl rfl fl_X11_237 ?_
            rw [b78]
            refine R_istore [_, _, _, _, _, _, _, _, _] 129 rfl dX11_best_127 rfl (by decide) ?_
            refine R_iinc [_, _, _, _, _, _, _, _, _] 132 rfl dX11_best_129 rfl rfl (by decide) ?_
            refine R_goto 63 rfl dX11_best_132 ?_
            first
              | exact ih (by omega) _ _ _ _ _ (gsI_y hI (by omega) (Or.inl (by omega))) (by omega) (by omega) (by omega) (by omega) (hf.tr f78) z78
              | exact ih (by omega) _ _ _ _ _ (gsI_y hI (by omega) (Or.inr (by omega))) (by omega) (by omega) (by omega) (by omega) (hf.tr f78) z78
              | exact ih (by omega) _ _ _ _ _ (gsI_n hI (Or.inl (by omega))) (by omega) (by omega) (by omega) (by omega) (hf.tr f78) z78
              | exact ih (by omega) _ _ _ _ _ (gsI_n hI (Or.inr ⟨by omega, by omega⟩)) (by omega) (by omega) (by omega) (by omega) (hf.tr f78) z78
  refine R_iload_n 1 rfl dX11_best_0 rfl ?_
  refine R_callS_i (M' := mX11_isChoice) 4 rfl dX11_best_1 ml_X11_222 kmX11_isChoice st_X11_isChoice (c_X11_isChoice _ (by first | assumption | exact ⟨by omega, by omega⟩)) rfl rfl ⟨Nat.le_of_ble_eq_true rfl, Nat.le_of_ble_eq_true rfl⟩ (Nat.le_of_ble_eq_true rfl) ⟨Nat.le_of_ble_eq_true rfl, Nat.le_of_ble_eq_true rfl⟩ ?_
  refine R_ifp_eq 7 44 rfl rfl dX11_best_4 (fun h4 => ?_) (fun h4 => ?_)
  · refine R_iconst 45 rfl dX11_best_44 ?_
    refine R_ireturn dX11_best_45 rfl ?_
    exact QI_mk ⟨by unfold a_best; rw [if_neg (by omega)], Fm.rf, hR⟩
  · refine R_iload_n 8 rfl dX11_best_7 rfl ?_
    refine R_i2l 9 rfl dX11_best_8 (by first | assumption | exact ⟨by omega, by omega⟩) ?_
    refine R_lconst 10 rfl dX11_best_9 ?_
    refine R_topL (b := 0) rfl ?_
    refine R_ldc2 (3) 13 rfl dX11_best_10 kl_X11_225 (by decide) ?_
    refine R_callS_i (M' := mX11_in) 16 rfl dX11_best_13 ml_X11_63 kmX11_in st_X11_in (c_X11_in _ _ _ (by first | assumption | exact ⟨by omega, by omega⟩ | exact rg_L (by assumption)) (by first | assumption | exact ⟨by omega, by omega⟩ | exact rg_L (by assumption)) (by first | assumption | exact ⟨by omega, by omega⟩ | exact rg_L (by assumption))) rfl rfl ⟨Nat.le_of_ble_eq_true rfl, Nat.le_of_ble_eq_true rfl⟩ (Nat.le_of_ble_eq_true rfl) ⟨Nat.le_of_ble_eq_true rfl, Nat.le_of_ble_eq_true rfl⟩ ?_
    refine R_ifp_eq 19 44 rfl rfl dX11_best_16 (fun h16 => ?_) (fun h16 => ?_)
    · refine R_iconst 45 rfl dX11_best_44 ?_
      refine R_ireturn dX11_best_45 rfl ?_
      exact QI_mk ⟨by unfold a_best; rw [if_neg (by omega)], Fm.rf, hR⟩
    · refine R_iload_n 20 rfl dX11_best_19 rfl ?_
      refine R_i2l 21 rfl dX11_best_20 (by first | assumption | exact ⟨by omega, by omega⟩) ?_
      refine R_lconst 22 rfl dX11_best_21 ?_
      refine R_topL (b := 1) rfl ?_
      refine R_ldc2 (99) 25 rfl dX11_best_22 kl_X11_189 (by decide) ?_
      refine R_callS_i (M' := mX11_in) 28 rfl dX11_best_25 ml_X11_63 kmX11_in st_X11_in (c_X11_in _ _ _ (by first | assumption | exact ⟨by omega, by omega⟩ | exact rg_L (by assumption)) (by first | assumption | exact ⟨by omega, by omega⟩ | exact rg_L (by assumption)) (by first | assumption | exact ⟨by omega, by omega⟩ | exact rg_L (by assumption))) rfl rfl ⟨Nat.le_of_ble_eq_true rfl, Nat.le_of_ble_eq_true rfl⟩ (Nat.le_of_ble_eq_true rfl) ⟨Nat.le_of_ble_eq_true rfl, Nat.le_of_ble_eq_true rfl⟩ ?_
      refine R_ifp_eq 31 44 rfl rfl dX11_best_28 (fun h28 => ?_) (fun h28 => ?_)
      · refine R_iconst 45 rfl dX11_best_44 ?_
        refine R_ireturn dX11_best_45 rfl ?_
        exact QI_mk ⟨by unfold a_best; rw [if_neg (by omega)], Fm.rf, hR⟩
      · refine R_iload 33 rfl dX11_best_31 rfl ?_
        refine R_i2l 34 rfl dX11_best_33 (by first | assumption | exact ⟨by omega, by omega⟩) ?_
        refine R_lconst 35 rfl dX11_best_34 ?_
        refine R_topL (b := 0) rfl ?_
        refine R_ldc2 (2) 38 rfl dX11_best_35 kl_X11_202 (by decide) ?_
        refine R_callS_i (M' := mX11_in) 41 rfl dX11_best_38 ml_X11_63 kmX11_in st_X11_in (c_X11_in _ _ _ (by first | assumption | exact ⟨by omega, by omega⟩ | exact rg_L (by assumption)) (by first | assumption | exact ⟨by omega, by omega⟩ | exact rg_L (by assumption)) (by first | assumption | exact ⟨by omega, by omega⟩ | exact rg_L (by assumption))) rfl rfl ⟨Nat.le_of_ble_eq_true rfl, Nat.le_of_ble_eq_true rfl⟩ (Nat.le_of_ble_eq_true rfl) ⟨Nat.le_of_ble_eq_true rfl, Nat.le_of_ble_eq_true rfl⟩ ?_
        refine R_ifp_ne 44 46 rfl rfl dX11_best_41 (fun h41 => ?_) (fun h41 => ?_)
        · refine R_aload_n 47 rfl dX11_best_46 rfl ?_
          refine R_callV_V (M' := mX11_layKinds) 50 rfl dX11_best_47 ml_X11_227 kmX11_layKinds im_X11_layKinds se_X11_layKinds rfl ⟨by decide, rfl⟩ (c_X11_layKinds hR) rfl rfl ⟨Nat.le_of_ble_eq_true rfl, Nat.le_of_ble_eq_true rfl⟩ (Nat.le_of_ble_eq_true rfl) ⟨Nat.le_of_ble_eq_true rfl, Nat.le_of_ble_eq_true rfl⟩ ?_
          rintro m47 h47
          obtain ⟨f47, z47⟩ := h47
          refine R_bipush 52 rfl dX11_best_50 (by decide) ?_
          refine R_istore [_, _, _, _, _, _, _, _, _] 54 rfl dX11_best_52 rfl (by decide) ?_
          refine R_iconst 55 rfl dX11_best_54 ?_
          refine R_istore [_, _, _, _, _, _, _, _, _] 57 rfl dX11_best_55 rfl (by decide) ?_
          refine R_iconst 58 rfl dX11_best_57 ?_
          refine R_istore [_, _, _, _, _, _, _, _, _] 60 rfl dX11_best_58 rfl (by decide) ?_
          refine R_iconst 61 rfl dX11_best_60 ?_
          refine R_istore [_, _, _, _, _, _, _, _, _] 63 rfl dX11_best_61 rfl (by decide) ?_
          exact Lp (by omega) 0 (by omega) _ _ _ _ _ (Or.inl ⟨by simp [gsU], rfl, rfl, rfl⟩) (by omega) (by omega) (by omega) rfl f47 z47
        · refine R_iconst 45 rfl dX11_best_44 ?_
          refine R_ireturn dX11_best_45 rfl ?_
          exact QI_mk ⟨by unfold a_best; rw [if_neg (by omega)], Fm.rf, hR⟩
end
