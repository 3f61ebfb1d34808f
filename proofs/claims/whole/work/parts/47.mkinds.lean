theorem ownN_iff {L : Ld} {B : Bk} {k : Nat} : ownN L B k = true ↔ (B.2.2 0 k = 1 ∧ wr L B k = -4) := by simp [ownN]
section
variable {Γ : GX} {m m' : Mem} {B B' : Bk} {L : Ld} {ch ch' : Cs}
theorem c_X11_writerOf (z s : Int) (k : Nat) (hR : RS L B ch m) (hz : z = ((k / 2 : Nat) : Int)) (hs : s = ((k % 2 : Nat) : Int)) (hk : k < 2 * B.1) : C Γ mX11_writerOf 1 40 0 0 [vr 96, vi z, vi s] SH m (Qi SH m (wr L B k)) := by
  refine C_of_R rfl (Nat.le_of_ble_eq_true rfl) ?_
  have hP := hR.1
  have h1 := hR.2.2.1.1
  have h2 := hR.2.1.1 1 (by omega)
  have hO := hR.2.2.2.2.1
  have h3 := hO.1
  have h4 := hO.2.1 (k / 2) (by omega)
  have h5 := hO.2.2 k hk
  have Lp : ∀ c : Nat, c ≤ (L.1 1).toNat → ∀ cz x y, cz = (c : Int) → (B.2.2 0 k = 1 → ∀ j, j < c → ¬ wrP L B k j = true) → R Γ mX11_writerOf { frames := 1, cells := 0, slots := 0, locals := 40 } 0 0 (Qi SH m (wr L B k)) 0 0 2 [some (vr 96), some (vi z), some (vi s), some (vi cz), x, y] [] SH m := by
    refine up_ind (L.1 1).toNat (fun c hc ih cz x y hcz hn => ?_)
    refine R_iload_n 3 rfl dX11_writerOf_2 rfl ?_
    refine R_aload_n 4 rfl dX11_writerOf_3 rfl ?_
    refine R_getP 12 7 rfl dX11_writerOf_4 rfl rfl fl_X11_22 (hP _ _ _ rfl) ?_
    refine R_iconst 8 rfl dX11_writerOf_7 ?_
    refine R_iald 1 9 rfl dX11_writerOf_8 rfl (by first | rfl | omega) (by decide) (by decide) ?_
    rw [h2]
    refine R_icmp_ge 12 129 rfl rfl dX11_writerOf_9 (by first | assumption | exact ⟨by omega, by omega⟩) (by first | assumption | exact ⟨by omega, by omega⟩) (fun h9 => ?_) (fun h9 => ?_)
    · refine R_bipush 131 rfl dX11_writerOf_129 (by decide) ?_
      refine R_ireturn dX11_writerOf_131 rfl ?_
      refine Qi_mk ?_
      unfold wr
      split
      · exact (fs1_none (fun j hj => hn (by assumption) j (by omega))).symm
      · rfl
    · have k0 : m.1 103 (5 * c + 0) = L.2.2 0 c := hR.2.1.2.2 c (by omega) 0 (by omega)
      have k1 : m.1 103 (5 * c + 1) = L.2.2 1 c := hR.2.1.2.2 c (by omega) 1 (by omega)
      have k2 : m.1 103 (5 * c + 2) = L.2.2 2 c := hR.2.1.2.2 c (by omega) 2 (by omega)
      have k3 : m.1 103 (5 * c + 3) = L.2.2 3 c := hR.2.1.2.2 c (by omega) 3 (by omega)
      have k4 : m.1 103 (5 * c + 4) = L.2.2 4 c := hR.2.1.2.2 c (by omega) 4 (by omega)
      have k5 := hR.2.2.1.2.2.2 c (by omega)
      have a5 := ap_rg (B.2.2 2 k) (L.2.2 3 c)
      have a6 := ap_comm (B.2.2 2 k) (L.2.2 3 c)
      refine R_iconst 13 rfl dX11_writerOf_12 ?_
      refine R_iload_n 14 rfl dX11_writerOf_13 rfl ?_
      refine R_imul 15 rfl dX11_writerOf_14 ?_
      refine R_istore [_, _, _, _, _, _] 17 rfl dX11_writerOf_15 rfl (by decide) ?_
      refine R_aload_n 18 rfl dX11_writerOf_17 rfl ?_
      refine R_getP 14 21 rfl dX11_writerOf_18 rfl rfl fl_X11_28 (hP _ _ _ rfl) ?_
      refine R_iload 23 rfl dX11_writerOf_21 rfl ?_
      refine R_iald (5 * c + 0) 24 rfl dX11_writerOf_23 rfl (by first | rfl | omega) (by omega) (by decide) ?_
      rw [k0]
      refine R_aload_n 25 rfl dX11_writerOf_24 rfl ?_
      refine R_iload_n 26 rfl dX11_writerOf_25 rfl ?_
      refine R_iconst 27 rfl dX11_writerOf_26 ?_
      refine R_callV_i (M' := mX11_its) 30 rfl dX11_writerOf_27 ml_X11_153 kmX11_its im_X11_its se_X11_its rfl ⟨by decide, rfl⟩ (c_X11_its _ _ (k / 2) 0 hR (by omega) (by omega) (by omega) (by omega)) rfl rfl ⟨Nat.le_of_ble_eq_true rfl, Nat.le_of_ble_eq_true rfl⟩ (Nat.le_of_ble_eq_true rfl) ⟨Nat.le_of_ble_eq_true rfl, Nat.le_of_ble_eq_true rfl⟩ ?_
      refine R_icmp_ne 33 70 rfl rfl dX11_writerOf_30 (by first | assumption | exact ⟨by omega, by omega⟩) (by first | assumption | exact ⟨by omega, by omega⟩) (fun h30 => ?_) (fun h30 => ?_)
      · refine R_iconst 71 rfl dX11_writerOf_70 ?_
        refine R_istore [_, _, _, _, _, _] 73 rfl dX11_writerOf_71 rfl (by decide) ?_
        refine R_aload_n 74 rfl dX11_writerOf_73 rfl ?_
        refine R_iload_n 75 rfl dX11_writerOf_74 rfl ?_
        refine R_iload_n 76 rfl dX11_writerOf_75 rfl ?_
        refine R_iconst 77 rfl dX11_writerOf_76 ?_
        refine R_callV_i (M' := mX11_of5) 80 rfl dX11_writerOf_77 ml_X11_198 kmX11_of5 im_X11_of5 se_X11_of5 rfl ⟨by decide, rfl⟩ (c_X11_of5 _ _ _ k 0 hR (by omega) (by omega) (by omega) (by omega) (by omega)) rfl rfl ⟨Nat.le_of_ble_eq_true rfl, Nat.le_of_ble_eq_true rfl⟩ (Nat.le_of_ble_eq_true rfl) ⟨Nat.le_of_ble_eq_true rfl, Nat.le_of_ble_eq_true rfl⟩ ?_
        refine R_iconst 81 rfl dX11_writerOf_80 ?_
        refine R_icmp_ne 84 123 rfl rfl dX11_writerOf_81 (by first | assumption | exact ⟨by omega, by omega⟩) (by first | assumption | exact ⟨by omega, by omega⟩) (fun h81 => ?_) (fun h81 => ?_)
        · refine R_iinc [_, _, _, _, _, _] 126 rfl dX11_writerOf_123 rfl rfl (by decide) ?_
          refine R_goto 2 rfl dX11_writerOf_126 ?_
          refine ih (by omega) _ _ _ (by omega) (fun q j hj => ?_)
          by_cases e : j = c
          · subst e
            intro w
            have w1 := wrP_iff.mp w
            first
              | omega
              | (have e9 : (((pop ((L.2.2 3 j).toNat ^^^ (B.2.2 2 k).toNat) : Nat) : Int)) = ap (L.2.2 3 j) (B.2.2 2 k) := rfl
                 omega)
          · exact hn q j (by omega)
        · refine R_iload 86 rfl dX11_writerOf_84 rfl ?_
          refine R_if_eq 89 123 rfl rfl dX11_writerOf_86 (by first | assumption | exact ⟨by omega, by omega⟩) (fun h86 => ?_) (fun h86 => ?_)
          rotate_left
          · exact absurd h86 (by omega)
          refine R_iinc [_, _, _, _, _, _] 126 rfl dX11_writerOf_123 rfl rfl (by decide) ?_
          refine R_goto 2 rfl dX11_writerOf_126 ?_
          refine ih (by omega) _ _ _ (by omega) (fun q j hj => ?_)
          by_cases e : j = c
          · subst e
            intro w
            have w1 := wrP_iff.mp w
            first
              | omega
              | (have e9 : (((pop ((L.2.2 3 j).toNat ^^^ (B.2.2 2 k).toNat) : Nat) : Int)) = ap (L.2.2 3 j) (B.2.2 2 k) := rfl
                 omega)
          · exact hn q j (by omega)
      · refine R_aload_n 34 rfl dX11_writerOf_33 rfl ?_
        refine R_iload_n 35 rfl dX11_writerOf_34 rfl ?_
        refine R_iconst 36 rfl dX11_writerOf_35 ?_
        refine R_callV_i (M' := mX11_its) 39 rfl dX11_writerOf_36 ml_X11_153 kmX11_its im_X11_its se_X11_its rfl ⟨by decide, rfl⟩ (c_X11_its _ _ (k / 2) 1 hR (by omega) (by omega) (by omega) (by omega)) rfl rfl ⟨Nat.le_of_ble_eq_true rfl, Nat.le_of_ble_eq_true rfl⟩ (Nat.le_of_ble_eq_true rfl) ⟨Nat.le_of_ble_eq_true rfl, Nat.le_of_ble_eq_true rfl⟩ ?_
        refine R_i2l 40 rfl dX11_writerOf_39 (by first | assumption | exact ⟨by omega, by omega⟩) ?_
        refine R_aload_n 41 rfl dX11_writerOf_40 rfl ?_
        refine R_getP 14 44 rfl dX11_writerOf_41 rfl rfl fl_X11_28 (hP _ _ _ rfl) ?_
        refine R_iload 46 rfl dX11_writerOf_44 rfl ?_
        refine R_iconst 47 rfl dX11_writerOf_46 ?_
        refine R_iadd 48 rfl dX11_writerOf_47 ?_
        refine R_iald (5 * c + 1) 49 rfl dX11_writerOf_48 rfl (by first | rfl | omega) (by omega) (by decide) ?_
        rw [k1]
        refine R_i2l 50 rfl dX11_writerOf_49 (by first | assumption | exact ⟨by omega, by omega⟩) ?_
        refine R_aload_n 51 rfl dX11_writerOf_50 rfl ?_
        refine R_getP 14 54 rfl dX11_writerOf_51 rfl rfl fl_X11_28 (hP _ _ _ rfl) ?_
        refine R_iload 56 rfl dX11_writerOf_54 rfl ?_
        refine R_iconst 57 rfl dX11_writerOf_56 ?_
        refine R_iadd 58 rfl dX11_writerOf_57 ?_
        refine R_iald (5 * c + 2) 59 rfl dX11_writerOf_58 rfl (by first | rfl | omega) (by omega) (by decide) ?_
        rw [k2]
        refine R_i2l 60 rfl dX11_writerOf_59 (by first | assumption | exact ⟨by omega, by omega⟩) ?_
        refine R_callS_i (M' := mX11_in) 63 rfl dX11_writerOf_60 ml_X11_63 kmX11_in st_X11_in (c_X11_in _ _ _ (by first | assumption | exact ⟨by omega, by omega⟩ | exact rg_L (by assumption)) (by first | assumption | exact ⟨by omega, by omega⟩ | exact rg_L (by assumption)) (by first | assumption | exact ⟨by omega, by omega⟩ | exact rg_L (by assumption))) rfl rfl ⟨Nat.le_of_ble_eq_true rfl, Nat.le_of_ble_eq_true rfl⟩ (Nat.le_of_ble_eq_true rfl) ⟨Nat.le_of_ble_eq_true rfl, Nat.le_of_ble_eq_true rfl⟩ ?_
        refine R_ifp_eq 66 70 rfl rfl dX11_writerOf_63 (fun h63 => ?_) (fun h63 => ?_)
        · refine R_iconst 71 rfl dX11_writerOf_70 ?_
          refine R_istore [_, _, _, _, _, _] 73 rfl dX11_writerOf_71 rfl (by decide) ?_
          refine R_aload_n 74 rfl dX11_writerOf_73 rfl ?_
          refine R_iload_n 75 rfl dX11_writerOf_74 rfl ?_
          refine R_iload_n 76 rfl dX11_writerOf_75 rfl ?_
          refine R_iconst 77 rfl dX11_writerOf_76 ?_
          refine R_callV_i (M' := mX11_of5) 80 rfl dX11_writerOf_77 ml_X11_198 kmX11_of5 im_X11_of5 se_X11_of5 rfl ⟨by decide, rfl⟩ (c_X11_of5 _ _ _ k 0 hR (by omega) (by omega) (by omega) (by omega) (by omega)) rfl rfl ⟨Nat.le_of_ble_eq_true rfl, Nat.le_of_ble_eq_true rfl⟩ (Nat.le_of_ble_eq_true rfl) ⟨Nat.le_of_ble_eq_true rfl, Nat.le_of_ble_eq_true rfl⟩ ?_
          refine R_iconst 81 rfl dX11_writerOf_80 ?_
          refine R_icmp_ne 84 123 rfl rfl dX11_writerOf_81 (by first | assumption | exact ⟨by omega, by omega⟩) (by first | assumption | exact ⟨by omega, by omega⟩) (fun h81 => ?_) (fun h81 => ?_)
          · refine R_iinc [_, _, _, _, _, _] 126 rfl dX11_writerOf_123 rfl rfl (by decide) ?_
            refine R_goto 2 rfl dX11_writerOf_126 ?_
            refine ih (by omega) _ _ _ (by omega) (fun q j hj => ?_)
            by_cases e : j = c
            · subst e
              intro w
              have w1 := wrP_iff.mp w
              first
                | omega
                | (have e9 : (((pop ((L.2.2 3 j).toNat ^^^ (B.2.2 2 k).toNat) : Nat) : Int)) = ap (L.2.2 3 j) (B.2.2 2 k) := rfl
                   omega)
            · exact hn q j (by omega)
          · refine R_iload 86 rfl dX11_writerOf_84 rfl ?_
            refine R_if_eq 89 123 rfl rfl dX11_writerOf_86 (by first | assumption | exact ⟨by omega, by omega⟩) (fun h86 => ?_) (fun h86 => ?_)
            rotate_left
            · exact absurd h86 (by omega)
            refine R_iinc [_, _, _, _, _, _] 126 rfl dX11_writerOf_123 rfl rfl (by decide) ?_
            refine R_goto 2 rfl dX11_writerOf_126 ?_
            refine ih (by omega) _ _ _ (by omega) (fun q j hj => ?_)
            by_cases e : j = c
            · subst e
              intro w
              have w1 := wrP_iff.mp w
              first
                | omega
                | (have e9 : (((pop ((L.2.2 3 j).toNat ^^^ (B.2.2 2 k).toNat) : Nat) : Int)) = ap (L.2.2 3 j) (B.2.2 2 k) := rfl
                   omega)
            · exact hn q j (by omega)
        · refine R_iconst 67 rfl dX11_writerOf_66 ?_
          refine R_goto 71 rfl dX11_writerOf_67 ?_
          refine R_istore [_, _, _, _, _, _] 73 rfl dX11_writerOf_71 rfl (by decide) ?_
          refine R_aload_n 74 rfl dX11_writerOf_73 rfl ?_
          refine R_iload_n 75 rfl dX11_writerOf_74 rfl ?_
          refine R_iload_n 76 rfl dX11_writerOf_75 rfl ?_
          refine R_iconst 77 rfl dX11_writerOf_76 ?_
          refine R_callV_i (M' := mX11_of5) 80 rfl dX11_writerOf_77 ml_X11_198 kmX11_of5 im_X11_of5 se_X11_of5 rfl ⟨by decide, rfl⟩ (c_X11_of5 _ _ _ k 0 hR (by omega) (by omega) (by omega) (by omega) (by omega)) rfl rfl ⟨Nat.le_of_ble_eq_true rfl, Nat.le_of_ble_eq_true rfl⟩ (Nat.le_of_ble_eq_true rfl) ⟨Nat.le_of_ble_eq_true rfl, Nat.le_of_ble_eq_true rfl⟩ ?_
          refine R_iconst 81 rfl dX11_writerOf_80 ?_
          refine R_icmp_ne 84 123 rfl rfl dX11_writerOf_81 (by first | assumption | exact ⟨by omega, by omega⟩) (by first | assumption | exact ⟨by omega, by omega⟩) (fun h81 => ?_) (fun h81 => ?_)
          · refine R_iinc [_, _, _, _, _, _] 126 rfl dX11_writerOf_123 rfl rfl (by decide) ?_
            refine R_goto 2 rfl dX11_writerOf_126 ?_
            refine ih (by omega) _ _ _ (by omega) (fun q j hj => ?_)
            by_cases e : j = c
            · subst e
              intro w
              have w1 := wrP_iff.mp w
              first
                | omega
                | (have e9 : (((pop ((L.2.2 3 j).toNat ^^^ (B.2.2 2 k).toNat) : Nat) : Int)) = ap (L.2.2 3 j) (B.2.2 2 k) := rfl
                   omega)
            · exact hn q j (by omega)
          · refine R_iload 86 rfl dX11_writerOf_84 rfl ?_
            refine R_if_eq 89 123 rfl rfl dX11_writerOf_86 (by first | assumption | exact ⟨by omega, by omega⟩) (fun h86 => ?_) (fun h86 => ?_)
            · exact absurd h86 (by omega)
            refine R_aload_n 90 rfl dX11_writerOf_89 rfl ?_
            refine R_getP 14 93 rfl dX11_writerOf_90 rfl rfl fl_X11_28 (hP _ _ _ rfl) ?_
            refine R_iload 95 rfl dX11_writerOf_93 rfl ?_
            refine R_iconst 96 rfl dX11_writerOf_95 ?_
            refine R_iadd 97 rfl dX11_writerOf_96 ?_
            refine R_iald (5 * c + 3) 98 rfl dX11_writerOf_97 rfl (by first | rfl | omega) (by omega) (by decide) ?_
            rw [k3]
            refine R_top (b := ((L.2.2 3 c).toNat : Int)) (by omega) ?_
            refine R_aload_n 99 rfl dX11_writerOf_98 rfl ?_
            refine R_iload_n 100 rfl dX11_writerOf_99 rfl ?_
            refine R_iload_n 101 rfl dX11_writerOf_100 rfl ?_
            refine R_iconst 102 rfl dX11_writerOf_101 ?_
            refine R_callV_i (M' := mX11_of5) 105 rfl dX11_writerOf_102 ml_X11_198 kmX11_of5 im_X11_of5 se_X11_of5 rfl ⟨by decide, rfl⟩ (c_X11_of5 _ _ _ k 2 hR (by omega) (by omega) (by omega) (by omega) (by omega)) rfl rfl ⟨Nat.le_of_ble_eq_true rfl, Nat.le_of_ble_eq_true rfl⟩ (Nat.le_of_ble_eq_true rfl) ⟨Nat.le_of_ble_eq_true rfl, Nat.le_of_ble_eq_true rfl⟩ ?_
            refine R_top (b := ((B.2.2 2 k).toNat : Int)) (by omega) ?_
            refine R_ixor 106 rfl dX11_writerOf_105 ?_
            refine R_callS_i (M' := mX11_bitsOf) 109 rfl dX11_writerOf_106 ml_X11_204 kmX11_bitsOf st_X11_bitsOf (c_X11_bitsOf _ (Nat.lt_of_lt_of_le (Nat.xor_lt_two_pow (n := 8) (by omega) (by omega)) (by decide))) rfl rfl ⟨Nat.le_of_ble_eq_true rfl, Nat.le_of_ble_eq_true rfl⟩ (Nat.le_of_ble_eq_true rfl) ⟨Nat.le_of_ble_eq_true rfl, Nat.le_of_ble_eq_true rfl⟩ ?_
            refine R_aload_n 110 rfl dX11_writerOf_109 rfl ?_
            refine R_getP 14 113 rfl dX11_writerOf_110 rfl rfl fl_X11_28 (hP _ _ _ rfl) ?_
            refine R_iload 115 rfl dX11_writerOf_113 rfl ?_
            refine R_iconst 116 rfl dX11_writerOf_115 ?_
            refine R_iadd 117 rfl dX11_writerOf_116 ?_
            refine R_iald (5 * c + 4) 118 rfl dX11_writerOf_117 rfl (by first | rfl | omega) (by omega) (by decide) ?_
            rw [k4]
            refine R_icmp_gt 121 123 rfl rfl dX11_writerOf_118 (show rg (ap (L.2.2 3 c) (B.2.2 2 k)) from ⟨by omega, by omega⟩) ⟨by omega, by omega⟩ (fun h118 => ?_) (fun h118 => ?_)
            · refine R_iinc [_, _, _, _, _, _] 126 rfl dX11_writerOf_123 rfl rfl (by decide) ?_
              refine R_goto 2 rfl dX11_writerOf_126 ?_
              refine ih (by omega) _ _ _ (by omega) (fun q j hj => ?_)
              by_cases e : j = c
              · subst e
                intro w
                have w1 := wrP_iff.mp w
                first
                  | omega
                  | (have e9 : (((pop ((L.2.2 3 j).toNat ^^^ (B.2.2 2 k).toNat) : Nat) : Int)) = ap (L.2.2 3 j) (B.2.2 2 k) := rfl
                     omega)
              · exact hn q j (by omega)
            · refine R_iload_n 122 rfl dX11_writerOf_121 rfl ?_
              refine R_ireturn dX11_writerOf_122 rfl ?_
              refine Qi_mk ?_
              have e9 : (((pop ((L.2.2 3 c).toNat ^^^ (B.2.2 2 k).toNat) : Nat) : Int)) = ap (L.2.2 3 c) (B.2.2 2 k) := rfl
              unfold wr
              rw [if_pos (by omega), hcz]
              exact (fs1_at (by omega) (hn (by omega)) (wrP_iff.mpr (by omega))).symm
  refine R_iconst 1 rfl dX11_writerOf_0 ?_
  refine R_istore_n [_, _, _, _, _, _] 2 rfl dX11_writerOf_1 rfl (by decide) ?_
  exact Lp 0 (by omega) _ _ _ rfl (fun _ j hj => by omega)
theorem c_X11_isOwnName (z s : Int) (k : Nat) (hR : RS L B ch m) (hz : z = ((k / 2 : Nat) : Int)) (hs : s = ((k % 2 : Nat) : Int)) (hk : k < 2 * B.1) : C Γ mX11_isOwnName 2 80 0 0 [vr 96, vi z, vi s] SH m (Qi SH m (pI (ownN L B k = true))) := by
  refine C_of_R rfl (Nat.le_of_ble_eq_true rfl) ?_
  have h5 := hR.2.2.2.2.1.2.2 k hk
  have h6 := wr_rg (L := L) (B := B) k
  have h1 := hR.2.2.1.1
  refine R_aload_n 1 rfl dX11_isOwnName_0 rfl ?_
  refine R_iload_n 2 rfl dX11_isOwnName_1 rfl ?_
  refine R_iload_n 3 rfl dX11_isOwnName_2 rfl ?_
  refine R_iconst 4 rfl dX11_isOwnName_3 ?_
  refine R_callV_i (M' := mX11_of5) 7 rfl dX11_isOwnName_4 ml_X11_198 kmX11_of5 im_X11_of5 se_X11_of5 rfl ⟨by decide, rfl⟩ (c_X11_of5 _ _ _ k 0 hR (by omega) (by omega) (by omega) (by omega) (by omega)) rfl rfl ⟨Nat.le_of_ble_eq_true rfl, Nat.le_of_ble_eq_true rfl⟩ (Nat.le_of_ble_eq_true rfl) ⟨Nat.le_of_ble_eq_true rfl, Nat.le_of_ble_eq_true rfl⟩ ?_
  refine R_iconst 8 rfl dX11_isOwnName_7 ?_
  refine R_icmp_ne 11 26 rfl rfl dX11_isOwnName_8 (by first | assumption | exact ⟨by omega, by omega⟩) (by first | assumption | exact ⟨by omega, by omega⟩) (fun h8 => ?_) (fun h8 => ?_)
  · refine R_iconst 27 rfl dX11_isOwnName_26 ?_
    refine R_zreturn dX11_isOwnName_27 rfl (by first | decide | exact pI_01 _) ?_
    first | exact Qi_mk (pI_1 (ownN_iff.mpr (by omega))) | exact Qi_mk (pI_0 (fun q => by have := ownN_iff.mp q; omega))
  · refine R_aload_n 12 rfl dX11_isOwnName_11 rfl ?_
    refine R_iload_n 13 rfl dX11_isOwnName_12 rfl ?_
    refine R_iload_n 14 rfl dX11_isOwnName_13 rfl ?_
    refine R_callV_i (M' := mX11_writerOf) 17 rfl dX11_isOwnName_14 ml_X11_164 kmX11_writerOf im_X11_writerOf se_X11_writerOf rfl ⟨by decide, rfl⟩ (c_X11_writerOf _ _ k hR (by omega) (by omega) (by omega)) rfl rfl ⟨Nat.le_of_ble_eq_true rfl, Nat.le_of_ble_eq_true rfl⟩ (Nat.le_of_ble_eq_true rfl) ⟨Nat.le_of_ble_eq_true rfl, Nat.le_of_ble_eq_true rfl⟩ ?_
    refine R_bipush 19 rfl dX11_isOwnName_17 (by decide) ?_
    refine R_icmp_ne 22 26 rfl rfl dX11_isOwnName_19 (by first | assumption | exact ⟨by omega, by omega⟩) (by first | assumption | exact ⟨by omega, by omega⟩) (fun h19 => ?_) (fun h19 => ?_)
    · refine R_iconst 27 rfl dX11_isOwnName_26 ?_
      refine R_zreturn dX11_isOwnName_27 rfl (by first | decide | exact pI_01 _) ?_
      first | exact Qi_mk (pI_1 (ownN_iff.mpr (by omega))) | exact Qi_mk (pI_0 (fun q => by have := ownN_iff.mp q; omega))
    · refine R_iconst 23 rfl dX11_isOwnName_22 ?_
      refine R_goto 27 rfl dX11_isOwnName_23 ?_
      refine R_zreturn dX11_isOwnName_27 rfl (by first | decide | exact pI_01 _) ?_
      first | exact Qi_mk (pI_1 (ownN_iff.mpr (by omega))) | exact Qi_mk (pI_0 (fun q => by have := ownN_iff.mp q; omega))
theorem c_X11_isDrawn (z s : Int) (k : Nat) (hR : RS L B ch m) (hz : z = ((k / 2 : Nat) : Int)) (hs : s = ((k % 2 : Nat) : Int)) (hk : k < 2 * B.1) : C Γ mX11_isDrawn 3 120 0 0 [vr 96, vi z, vi s] SH m (Qi SH m (pI (drawn L B k = true))) := by
  refine C_of_R rfl (Nat.le_of_ble_eq_true rfl) ?_
  have hP := hR.1
  have h1 := hR.2.2.1.1
  have h2 := hR.2.1.1 6 (by omega)
  have hO := hR.2.2.2.2.1
  have h3 := hO.1
  have h5 := hO.2.2 k hk
  have Lp : ∀ j : Nat, j ≤ 2 * B.1 → ∀ p a b jz x, p = B.2.2 3 k → (p ≠ 0 → a = pI (anyN (dP1 L B k) j = true)) → (p ≠ 0 → b = pI (allN (dP2 L B k) j = true)) → (a = 0 ∨ a = 1) → (b = 0 ∨ b = 1) → (p = 0 → a = 0) → jz = (j : Int) → R Γ mX11_isDrawn { frames := 3, cells := 0, slots := 0, locals := 120 } 0 0 (Qi SH m (pI (drawn L B k = true))) 0 0 17 [some (vr 96), some (vi z), some (vi s), some (vi p), some (vi a), some (vi b), some (vi jz), x] [] SH m := by
    refine up_ind (2 * B.1) (fun j hj ih p a b jz x hp ha hb a01 b01 hp0 hjz => ?_)
    refine R_iload 19 rfl dX11_isDrawn_17 rfl ?_
    refine R_iconst 20 rfl dX11_isDrawn_19 ?_
    refine R_aload_n 21 rfl dX11_isDrawn_20 rfl ?_
    refine R_callV_i (M' := mX11_size) 24 rfl dX11_isDrawn_21 ml_X11_150 kmX11_size im_X11_size se_X11_size rfl ⟨by decide, rfl⟩ (c_X11_size hR) rfl rfl ⟨Nat.le_of_ble_eq_true rfl, Nat.le_of_ble_eq_true rfl⟩ (Nat.le_of_ble_eq_true rfl) ⟨Nat.le_of_ble_eq_true rfl, Nat.le_of_ble_eq_true rfl⟩ ?_
    refine R_imul 25 rfl dX11_isDrawn_24 ?_
    refine R_icmp_ge 28 164 rfl rfl dX11_isDrawn_25 (by first | assumption | exact ⟨by omega, by omega⟩) (by first | assumption | exact ⟨by omega, by omega⟩) (fun h25 => ?_) (fun h25 => ?_)
    · refine R_iload 166 rfl dX11_isDrawn_164 rfl ?_
      refine R_if_eq 169 178 rfl rfl dX11_isDrawn_166 (by first | assumption | exact ⟨by omega, by omega⟩) (fun h166 => ?_) (fun h166 => ?_)
      · refine R_iconst 179 rfl dX11_isDrawn_178 ?_
        refine R_zreturn dX11_isDrawn_179 rfl (by first | decide | exact pI_01 _) ?_
        refine Qi_mk ?_
        by_cases p0 : p = 0
        · have e0 := hp0 p0
          first
            | (exfalso; omega)
            | exact pI_0 (fun q => (drawn_iff.mp q).1 (by omega))
        · have ej : j = 2 * B.1 := by omega
          subst ej
          have ha1 := ha p0
          have hb1 := hb p0
          first
            | exact pI_1 (drawn_iff.mpr ⟨by omega, pI_e1 (by omega), pI_e1 (by omega)⟩)
            | exact pI_0 (fun q => pI_e0 (by omega) (drawn_iff.mp q).2.1)
            | exact pI_0 (fun q => pI_e0 (by omega) (drawn_iff.mp q).2.2)
      · refine R_iload 171 rfl dX11_isDrawn_169 rfl ?_
        refine R_if_eq 174 178 rfl rfl dX11_isDrawn_171 (by first | assumption | exact ⟨by omega, by omega⟩) (fun h171 => ?_) (fun h171 => ?_)
        · refine R_iconst 179 rfl dX11_isDrawn_178 ?_
          refine R_zreturn dX11_isDrawn_179 rfl (by first | decide | exact pI_01 _) ?_
          refine Qi_mk ?_
          by_cases p0 : p = 0
          · have e0 := hp0 p0
            first
              | (exfalso; omega)
              | exact pI_0 (fun q => (drawn_iff.mp q).1 (by omega))
          · have ej : j = 2 * B.1 := by omega
            subst ej
            have ha1 := ha p0
            have hb1 := hb p0
            first
              | exact pI_1 (drawn_iff.mpr ⟨by omega, pI_e1 (by omega), pI_e1 (by omega)⟩)
              | exact pI_0 (fun q => pI_e0 (by omega) (drawn_iff.mp q).2.1)
              | exact pI_0 (fun q => pI_e0 (by omega) (drawn_iff.mp q).2.2)
        · refine R_iconst 175 rfl dX11_isDrawn_174 ?_
          refine R_goto 179 rfl dX11_isDrawn_175 ?_
          refine R_zreturn dX11_isDrawn_179 rfl (by first | decide | exact pI_01 _) ?_
          refine Qi_mk ?_
          by_cases p0 : p = 0
          · have e0 := hp0 p0
            first
              | (exfalso; omega)
              | exact pI_0 (fun q => (drawn_iff.mp q).1 (by omega))
          · have ej : j = 2 * B.1 := by omega
            subst ej
            have ha1 := ha p0
            have hb1 := hb p0
            first
              | exact pI_1 (drawn_iff.mpr ⟨by omega, pI_e1 (by omega), pI_e1 (by omega)⟩)
              | exact pI_0 (fun q => pI_e0 (by omega) (drawn_iff.mp q).2.1)
              | exact pI_0 (fun q => pI_e0 (by omega) (drawn_iff.mp q).2.2)
    · refine R_iload_n 29 rfl dX11_isDrawn_28 rfl ?_
      refine R_if_le 32 164 rfl rfl dX11_isDrawn_29 (by first | assumption | exact ⟨by omega, by omega⟩) (fun h29 => ?_) (fun h29 => ?_)
      · refine R_iload 166 rfl dX11_isDrawn_164 rfl ?_
        refine R_if_eq 169 178 rfl rfl dX11_isDrawn_166 (by first | assumption | exact ⟨by omega, by omega⟩) (fun h166 => ?_) (fun h166 => ?_)
        · refine R_iconst 179 rfl dX11_isDrawn_178 ?_
          refine R_zreturn dX11_isDrawn_179 rfl (by first | decide | exact pI_01 _) ?_
          refine Qi_mk ?_
          by_cases p0 : p = 0
          · have e0 := hp0 p0
            first
              | (exfalso; omega)
              | exact pI_0 (fun q => (drawn_iff.mp q).1 (by omega))
          · have ej : j = 2 * B.1 := by omega
            subst ej
            have ha1 := ha p0
            have hb1 := hb p0
            first
              | exact pI_1 (drawn_iff.mpr ⟨by omega, pI_e1 (by omega), pI_e1 (by omega)⟩)
              | exact pI_0 (fun q => pI_e0 (by omega) (drawn_iff.mp q).2.1)
              | exact pI_0 (fun q => pI_e0 (by omega) (drawn_iff.mp q).2.2)
        · refine R_iload 171 rfl dX11_isDrawn_169 rfl ?_
          refine R_if_eq 174 178 rfl rfl dX11_isDrawn_171 (by first | assumption | exact ⟨by omega, by omega⟩) (fun h171 => ?_) (fun h171 => ?_)
          · refine R_iconst 179 rfl dX11_isDrawn_178 ?_
            refine R_zreturn dX11_isDrawn_179 rfl (by first | decide | exact pI_01 _) ?_
            refine Qi_mk ?_
            by_cases p0 : p = 0
            · have e0 := hp0 p0
              first
                | (exfalso; omega)
                | exact pI_0 (fun q => (drawn_iff.mp q).1 (by omega))
            · have ej : j = 2 * B.1 := by omega
              subst ej
              have ha1 := ha p0
              have hb1 := hb p0
              first
                | exact pI_1 (drawn_iff.mpr ⟨by omega, pI_e1 (by omega), pI_e1 (by omega)⟩)
                | exact pI_0 (fun q => pI_e0 (by omega) (drawn_iff.mp q).2.1)
                | exact pI_0 (fun q => pI_e0 (by omega) (drawn_iff.mp q).2.2)
          · refine R_iconst 175 rfl dX11_isDrawn_174 ?_
            refine R_goto 179 rfl dX11_isDrawn_175 ?_
            refine R_zreturn dX11_isDrawn_179 rfl (by first | decide | exact pI_01 _) ?_
            refine Qi_mk ?_
            by_cases p0 : p = 0
            · have e0 := hp0 p0
              first
                | (exfalso; omega)
                | exact pI_0 (fun q => (drawn_iff.mp q).1 (by omega))
            · have ej : j = 2 * B.1 := by omega
              subst ej
              have ha1 := ha p0
              have hb1 := hb p0
              first
                | exact pI_1 (drawn_iff.mpr ⟨by omega, pI_e1 (by omega), pI_e1 (by omega)⟩)
                | exact pI_0 (fun q => pI_e0 (by omega) (drawn_iff.mp q).2.1)
                | exact pI_0 (fun q => pI_e0 (by omega) (drawn_iff.mp q).2.2)
      · have g5 := hO.2.2 j (by omega)
        have ap5 := ap_rg (B.2.2 2 j) (B.2.2 2 k)
        have sp := sameP_iff (L := L) (B := B) (k := k) (j := j)
        refine R_iload 34 rfl dX11_isDrawn_32 rfl ?_
        refine R_iconst 35 rfl dX11_isDrawn_34 ?_
        refine R_idiv_p 36 rfl dX11_isDrawn_35 (by first | assumption | exact ⟨by omega, by omega⟩) (by first | assumption | exact ⟨by omega, by omega⟩) (by omega) (by omega) ?_
        refine R_iload_n 37 rfl dX11_isDrawn_36 rfl ?_
        refine R_icmp_ne 40 52 rfl rfl dX11_isDrawn_37 (by first | assumption | exact ⟨by omega, by omega⟩) (by first | assumption | exact ⟨by omega, by omega⟩) (fun h37 => ?_) (fun h37 => ?_)
        · refine R_iconst 53 rfl dX11_isDrawn_52 ?_
          refine R_istore [_, _, _, _, _, _, _, _] 55 rfl dX11_isDrawn_53 rfl (by decide) ?_
          refine R_iload 57 rfl dX11_isDrawn_55 rfl ?_
          refine R_if_ne 60 158 rfl rfl dX11_isDrawn_57 (by first | assumption | exact ⟨by omega, by omega⟩) (fun h57 => ?_) (fun h57 => ?_)
          · exact absurd h57 (by omega)
          refine R_aload_n 61 rfl dX11_isDrawn_60 rfl ?_
          refine R_iload 63 rfl dX11_isDrawn_61 rfl ?_
          refine R_iconst 64 rfl dX11_isDrawn_63 ?_
          refine R_idiv_p 65 rfl dX11_isDrawn_64 (by first | assumption | exact ⟨by omega, by omega⟩) (by first | assumption | exact ⟨by omega, by omega⟩) (by omega) (by omega) ?_
          refine R_iload 67 rfl dX11_isDrawn_65 rfl ?_
          refine R_iconst 68 rfl dX11_isDrawn_67 ?_
          refine R_irem_p 69 rfl dX11_isDrawn_68 (by first | assumption | exact ⟨by omega, by omega⟩) (by first | assumption | exact ⟨by omega, by omega⟩) (by omega) (by omega) ?_
          refine R_iconst 70 rfl dX11_isDrawn_69 ?_
          refine R_callV_i (M' := mX11_of5) 73 rfl dX11_isDrawn_70 ml_X11_198 kmX11_of5 im_X11_of5 se_X11_of5 rfl ⟨by decide, rfl⟩ (c_X11_of5 _ _ _ j 3 hR (by omega) (by omega) (by omega) (by omega) (by omega)) rfl rfl ⟨Nat.le_of_ble_eq_true rfl, Nat.le_of_ble_eq_true rfl⟩ (Nat.le_of_ble_eq_true rfl) ⟨Nat.le_of_ble_eq_true rfl, Nat.le_of_ble_eq_true rfl⟩ ?_
          refine R_iload_n 74 rfl dX11_isDrawn_73 rfl ?_
          refine R_icmp_ne 77 158 rfl rfl dX11_isDrawn_74 (by first | assumption | exact ⟨by omega, by omega⟩) (by first | assumption | exact ⟨by omega, by omega⟩) (fun h74 => ?_) (fun h74 => ?_)
          · refine R_iinc [_, _, _, _, _, _, _, _] 161 rfl dX11_isDrawn_158 rfl rfl (by decide) ?_
            refine R_goto 17 rfl dX11_isDrawn_161 ?_
            have e9 : (((pop ((B.2.2 2 j).toNat ^^^ (B.2.2 2 k).toNat) : Nat) : Int)) = ap (B.2.2 2 j) (B.2.2 2 k) := rfl
            first
              | (have e1 : sameP L B k j = false := by
                   rw [Bool.eq_false_iff]
                   intro q
                   have q2 := sp.mp q
                   first | exact h89 (ownN_iff.mpr q2.2.2) | omega
                 exact ih (by omega) _ _ _ _ _ hp (fun q => any_step (ha q) (by rcases a01 with rfl | rfl <;> simp [dP1, e1])) (fun q => all_step (hb q) (by rcases b01 with rfl | rfl <;> simp [dP2, e1])) a01 b01 hp0 (by omega))
              | (have e1 : sameP L B k j = true := sp.mpr ⟨by omega, by omega, ownN_iff.mp h89⟩
                 refine ih (by omega) _ _ _ _ _ hp (fun q => any_step (ha q) ?_) (fun q => all_step (hb q) ?_) (by omega) (by omega) (by omega) (by omega)
                 · simp only [dP1, e1, Bool.true_and, Bool.not_eq_true', decide_eq_false_iff_not, Bool.not_eq_false', decide_eq_true_eq, true_and]; omega
                 · simp only [dP2, e1, Bool.not_true, Bool.false_or, decide_eq_false_iff_not, decide_eq_true_eq, true_and]; omega)
          · refine R_aload_n 78 rfl dX11_isDrawn_77 rfl ?_
            refine R_iload 80 rfl dX11_isDrawn_78 rfl ?_
            refine R_iconst 81 rfl dX11_isDrawn_80 ?_
            refine R_idiv_p 82 rfl dX11_isDrawn_81 (by first | assumption | exact ⟨by omega, by omega⟩) (by first | assumption | exact ⟨by omega, by omega⟩) (by omega) (by omega) ?_
            refine R_iload 84 rfl dX11_isDrawn_82 rfl ?_
            refine R_iconst 85 rfl dX11_isDrawn_84 ?_
            refine R_irem_p 86 rfl dX11_isDrawn_85 (by first | assumption | exact ⟨by omega, by omega⟩) (by first | assumption | exact ⟨by omega, by omega⟩) (by omega) (by omega) ?_
            refine R_callV_i (M' := mX11_isOwnName) 89 rfl dX11_isDrawn_86 ml_X11_207 kmX11_isOwnName im_X11_isOwnName se_X11_isOwnName rfl ⟨by decide, rfl⟩ (c_X11_isOwnName _ _ j hR (by omega) (by omega) (by omega)) rfl rfl ⟨Nat.le_of_ble_eq_true rfl, Nat.le_of_ble_eq_true rfl⟩ (Nat.le_of_ble_eq_true rfl) ⟨Nat.le_of_ble_eq_true rfl, Nat.le_of_ble_eq_true rfl⟩ ?_
            refine R_ifp_eq 92 158 rfl rfl dX11_isDrawn_89 (fun h89 => ?_) (fun h89 => ?_)
            · refine R_iinc [_, _, _, _, _, _, _, _] 161 rfl dX11_isDrawn_158 rfl rfl (by decide) ?_
              refine R_goto 17 rfl dX11_isDrawn_161 ?_
              have e9 : (((pop ((B.2.2 2 j).toNat ^^^ (B.2.2 2 k).toNat) : Nat) : Int)) = ap (B.2.2 2 j) (B.2.2 2 k) := rfl
              first
                | (have e1 : sameP L B k j = false := by
                     rw [Bool.eq_false_iff]
                     intro q
                     have q2 := sp.mp q
                     first | exact h89 (ownN_iff.mpr q2.2.2) | omega
                   exact ih (by omega) _ _ _ _ _ hp (fun q => any_step (ha q) (by rcases a01 with rfl | rfl <;> simp [dP1, e1])) (fun q => all_step (hb q) (by rcases b01 with rfl | rfl <;> simp [dP2, e1])) a01 b01 hp0 (by omega))
                | (have e1 : sameP L B k j = true := sp.mpr ⟨by omega, by omega, ownN_iff.mp h89⟩
                   refine ih (by omega) _ _ _ _ _ hp (fun q => any_step (ha q) ?_) (fun q => all_step (hb q) ?_) (by omega) (by omega) (by omega) (by omega)
                   · simp only [dP1, e1, Bool.true_and, Bool.not_eq_true', decide_eq_false_iff_not, Bool.not_eq_false', decide_eq_true_eq, true_and]; omega
                   · simp only [dP2, e1, Bool.not_true, Bool.false_or, decide_eq_false_iff_not, decide_eq_true_eq, true_and]; omega)
            · refine R_iload 94 rfl dX11_isDrawn_92 rfl ?_
              refine R_if_ne 97 105 rfl rfl dX11_isDrawn_94 (by first | assumption | exact ⟨by omega, by omega⟩) (fun h94 => ?_) (fun h94 => ?_)
              · refine R_iconst 106 rfl dX11_isDrawn_105 ?_
                refine R_goto 110 rfl dX11_isDrawn_106 ?_
                refine R_istore [_, _, _, _, _, _, _, _] 112 rfl dX11_isDrawn_110 rfl (by decide) ?_
                refine R_iload 114 rfl dX11_isDrawn_112 rfl ?_
                refine R_if_eq 117 155 rfl rfl dX11_isDrawn_114 (by first | assumption | exact ⟨by omega, by omega⟩) (fun h114 => ?_) (fun h114 => ?_)
                · refine R_iconst 156 rfl dX11_isDrawn_155 ?_
                  refine R_istore [_, _, _, _, _, _, _, _] 158 rfl dX11_isDrawn_156 rfl (by decide) ?_
                  refine R_iinc [_, _, _, _, _, _, _, _] 161 rfl dX11_isDrawn_158 rfl rfl (by decide) ?_
                  refine R_goto 17 rfl dX11_isDrawn_161 ?_
                  have e9 : (((pop ((B.2.2 2 j).toNat ^^^ (B.2.2 2 k).toNat) : Nat) : Int)) = ap (B.2.2 2 j) (B.2.2 2 k) := rfl
                  first
                    | (have e1 : sameP L B k j = false := by
                         rw [Bool.eq_false_iff]
                         intro q
                         have q2 := sp.mp q
                         first | exact h89 (ownN_iff.mpr q2.2.2) | omega
                       exact ih (by omega) _ _ _ _ _ hp (fun q => any_step (ha q) (by rcases a01 with rfl | rfl <;> simp [dP1, e1])) (fun q => all_step (hb q) (by rcases b01 with rfl | rfl <;> simp [dP2, e1])) a01 b01 hp0 (by omega))
                    | (have e1 : sameP L B k j = true := sp.mpr ⟨by omega, by omega, ownN_iff.mp h89⟩
                       refine ih (by omega) _ _ _ _ _ hp (fun q => any_step (ha q) ?_) (fun q => all_step (hb q) ?_) (by omega) (by omega) (by omega) (by omega)
                       · simp only [dP1, e1, Bool.true_and, Bool.not_eq_true', decide_eq_false_iff_not, Bool.not_eq_false', decide_eq_true_eq, true_and]; omega
                       · simp only [dP2, e1, Bool.not_true, Bool.false_or, decide_eq_false_iff_not, decide_eq_true_eq, true_and]; omega)
                · refine R_aload_n 118 rfl dX11_isDrawn_117 rfl ?_
                  refine R_iload 120 rfl dX11_isDrawn_118 rfl ?_
                  refine R_iconst 121 rfl dX11_isDrawn_120 ?_
                  refine R_idiv_p 122 rfl dX11_isDrawn_121 (by first | assumption | exact ⟨by omega, by omega⟩) (by first | assumption | exact ⟨by omega, by omega⟩) (by omega) (by omega) ?_
                  refine R_iload 124 rfl dX11_isDrawn_122 rfl ?_
                  refine R_iconst 125 rfl dX11_isDrawn_124 ?_
                  refine R_irem_p 126 rfl dX11_isDrawn_125 (by first | assumption | exact ⟨by omega, by omega⟩) (by first | assumption | exact ⟨by omega, by omega⟩) (by omega) (by omega) ?_
                  refine R_iconst 127 rfl dX11_isDrawn_126 ?_
                  refine R_callV_i (M' := mX11_of5) 130 rfl dX11_isDrawn_127 ml_X11_198 kmX11_of5 im_X11_of5 se_X11_of5 rfl ⟨by decide, rfl⟩ (c_X11_of5 _ _ _ j 2 hR (by omega) (by omega) (by omega) (by omega) (by omega)) rfl rfl ⟨Nat.le_of_ble_eq_true rfl, Nat.le_of_ble_eq_true rfl⟩ (Nat.le_of_ble_eq_true rfl) ⟨Nat.le_of_ble_eq_true rfl, Nat.le_of_ble_eq_true rfl⟩ ?_
                  refine R_top (b := ((B.2.2 2 j).toNat : Int)) (by omega) ?_
                  refine R_aload_n 131 rfl dX11_isDrawn_130 rfl ?_
                  refine R_iload_n 132 rfl dX11_isDrawn_131 rfl ?_
                  refine R_iload_n 133 rfl dX11_isDrawn_132 rfl ?_
                  refine R_iconst 134 rfl dX11_isDrawn_133 ?_
                  refine R_callV_i (M' := mX11_of5) 137 rfl dX11_isDrawn_134 ml_X11_198 kmX11_of5 im_X11_of5 se_X11_of5 rfl ⟨by decide, rfl⟩ (c_X11_of5 _ _ _ k 2 hR (by omega) (by omega) (by omega) (by omega) (by omega)) rfl rfl ⟨Nat.le_of_ble_eq_true rfl, Nat.le_of_ble_eq_true rfl⟩ (Nat.le_of_ble_eq_true rfl) ⟨Nat.le_of_ble_eq_true rfl, Nat.le_of_ble_eq_true rfl⟩ ?_
                  refine R_top (b := ((B.2.2 2 k).toNat : Int)) (by omega) ?_
                  refine R_ixor 138 rfl dX11_isDrawn_137 ?_
                  refine R_callS_i (M' := mX11_bitsOf) 141 rfl dX11_isDrawn_138 ml_X11_204 kmX11_bitsOf st_X11_bitsOf (c_X11_bitsOf _ (Nat.lt_of_lt_of_le (Nat.xor_lt_two_pow (n := 8) (by omega) (by omega)) (by decide))) rfl rfl ⟨Nat.le_of_ble_eq_true rfl, Nat.le_of_ble_eq_true rfl⟩ (Nat.le_of_ble_eq_true rfl) ⟨Nat.le_of_ble_eq_true rfl, Nat.le_of_ble_eq_true rfl⟩ ?_
                  refine R_aload_n 142 rfl dX11_isDrawn_141 rfl ?_
                  refine R_getP 12 145 rfl dX11_isDrawn_142 rfl rfl fl_X11_22 (hP _ _ _ rfl) ?_
                  refine R_bipush 147 rfl dX11_isDrawn_145 (by decide) ?_
                  refine R_iald 6 148 rfl dX11_isDrawn_147 rfl (by first | rfl | omega) (by decide) (by decide) ?_
                  rw [h2]
                  refine R_icmp_gt 151 155 rfl rfl dX11_isDrawn_148 (show rg (ap (B.2.2 2 j) (B.2.2 2 k)) from ⟨by omega, by omega⟩) ⟨by omega, by omega⟩ (fun h148 => ?_) (fun h148 => ?_)
                  · refine R_iconst 156 rfl dX11_isDrawn_155 ?_
                    refine R_istore [_, _, _, _, _, _, _, _] 158 rfl dX11_isDrawn_156 rfl (by decide) ?_
                    refine R_iinc [_, _, _, _, _, _, _, _] 161 rfl dX11_isDrawn_158 rfl rfl (by decide) ?_
                    refine R_goto 17 rfl dX11_isDrawn_161 ?_
                    have e9 : (((pop ((B.2.2 2 j).toNat ^^^ (B.2.2 2 k).toNat) : Nat) : Int)) = ap (B.2.2 2 j) (B.2.2 2 k) := rfl
                    first
                      | (have e1 : sameP L B k j = false := by
                           rw [Bool.eq_false_iff]
                           intro q
                           have q2 := sp.mp q
                           first | exact h89 (ownN_iff.mpr q2.2.2) | omega
                         exact ih (by omega) _ _ _ _ _ hp (fun q => any_step (ha q) (by rcases a01 with rfl | rfl <;> simp [dP1, e1])) (fun q => all_step (hb q) (by rcases b01 with rfl | rfl <;> simp [dP2, e1])) a01 b01 hp0 (by omega))
                      | (have e1 : sameP L B k j = true := sp.mpr ⟨by omega, by omega, ownN_iff.mp h89⟩
                         refine ih (by omega) _ _ _ _ _ hp (fun q => any_step (ha q) ?_) (fun q => all_step (hb q) ?_) (by omega) (by omega) (by omega) (by omega)
                         · simp only [dP1, e1, Bool.true_and, Bool.not_eq_true', decide_eq_false_iff_not, Bool.not_eq_false', decide_eq_true_eq, true_and]; omega
                         · simp only [dP2, e1, Bool.not_true, Bool.false_or, decide_eq_false_iff_not, decide_eq_true_eq, true_and]; omega)
                  · refine R_iconst 152 rfl dX11_isDrawn_151 ?_
                    refine R_goto 156 rfl dX11_isDrawn_152 ?_
                    refine R_istore [_, _, _, _, _, _, _, _] 158 rfl dX11_isDrawn_156 rfl (by decide) ?_
                    refine R_iinc [_, _, _, _, _, _, _, _] 161 rfl dX11_isDrawn_158 rfl rfl (by decide) ?_
                    refine R_goto 17 rfl dX11_isDrawn_161 ?_
                    have e9 : (((pop ((B.2.2 2 j).toNat ^^^ (B.2.2 2 k).toNat) : Nat) : Int)) = ap (B.2.2 2 j) (B.2.2 2 k) := rfl
                    first
                      | (have e1 : sameP L B k j = false := by
                           rw [Bool.eq_false_iff]
                           intro q
                           have q2 := sp.mp q
                           first | exact h89 (ownN_iff.mpr q2.2.2) | omega
                         exact ih (by omega) _ _ _ _ _ hp (fun q => any_step (ha q) (by rcases a01 with rfl | rfl <;> simp [dP1, e1])) (fun q => all_step (hb q) (by rcases b01 with rfl | rfl <;> simp [dP2, e1])) a01 b01 hp0 (by omega))
                      | (have e1 : sameP L B k j = true := sp.mpr ⟨by omega, by omega, ownN_iff.mp h89⟩
                         refine ih (by omega) _ _ _ _ _ hp (fun q => any_step (ha q) ?_) (fun q => all_step (hb q) ?_) (by omega) (by omega) (by omega) (by omega)
                         · simp only [dP1, e1, Bool.true_and, Bool.not_eq_true', decide_eq_false_iff_not, Bool.not_eq_false', decide_eq_true_eq, true_and]; omega
                         · simp only [dP2, e1, Bool.not_true, Bool.false_or, decide_eq_false_iff_not, decide_eq_true_eq, true_and]; omega)
              · refine R_iload 99 rfl dX11_isDrawn_97 rfl ?_
                refine R_iconst 100 rfl dX11_isDrawn_99 ?_
                refine R_idiv_p 101 rfl dX11_isDrawn_100 (by first | assumption | exact ⟨by omega, by omega⟩) (by first | assumption | exact ⟨by omega, by omega⟩) (by omega) (by omega) ?_
                refine R_iload_n 102 rfl dX11_isDrawn_101 rfl ?_
                refine R_icmp_eq 105 109 rfl rfl dX11_isDrawn_102 (by first | assumption | exact ⟨by omega, by omega⟩) (by first | assumption | exact ⟨by omega, by omega⟩) (fun h102 => ?_) (fun h102 => ?_)
                · refine R_iconst 110 rfl dX11_isDrawn_109 ?_
                  refine R_istore [_, _, _, _, _, _, _, _] 112 rfl dX11_isDrawn_110 rfl (by decide) ?_
                  refine R_iload 114 rfl dX11_isDrawn_112 rfl ?_
                  refine R_if_eq 117 155 rfl rfl dX11_isDrawn_114 (by first | assumption | exact ⟨by omega, by omega⟩) (fun h114 => ?_) (fun h114 => ?_)
                  · refine R_iconst 156 rfl dX11_isDrawn_155 ?_
                    refine R_istore [_, _, _, _, _, _, _, _] 158 rfl dX11_isDrawn_156 rfl (by decide) ?_
                    refine R_iinc [_, _, _, _, _, _, _, _] 161 rfl dX11_isDrawn_158 rfl rfl (by decide) ?_
                    refine R_goto 17 rfl dX11_isDrawn_161 ?_
                    have e9 : (((pop ((B.2.2 2 j).toNat ^^^ (B.2.2 2 k).toNat) : Nat) : Int)) = ap (B.2.2 2 j) (B.2.2 2 k) := rfl
                    first
                      | (have e1 : sameP L B k j = false := by
                           rw [Bool.eq_false_iff]
                           intro q
                           have q2 := sp.mp q
                           first | exact h89 (ownN_iff.mpr q2.2.2) | omega
                         exact ih (by omega) _ _ _ _ _ hp (fun q => any_step (ha q) (by rcases a01 with rfl | rfl <;> simp [dP1, e1])) (fun q => all_step (hb q) (by rcases b01 with rfl | rfl <;> simp [dP2, e1])) a01 b01 hp0 (by omega))
                      | (have e1 : sameP L B k j = true := sp.mpr ⟨by omega, by omega, ownN_iff.mp h89⟩
                         refine ih (by omega) _ _ _ _ _ hp (fun q => any_step (ha q) ?_) (fun q => all_step (hb q) ?_) (by omega) (by omega) (by omega) (by omega)
                         · simp only [dP1, e1, Bool.true_and, Bool.not_eq_true', decide_eq_false_iff_not, Bool.not_eq_false', decide_eq_true_eq, true_and]; omega
                         · simp only [dP2, e1, Bool.not_true, Bool.false_or, decide_eq_false_iff_not, decide_eq_true_eq, true_and]; omega)
                  · refine R_aload_n 118 rfl dX11_isDrawn_117 rfl ?_
                    refine R_iload 120 rfl dX11_isDrawn_118 rfl ?_
                    refine R_iconst 121 rfl dX11_isDrawn_120 ?_
                    refine R_idiv_p 122 rfl dX11_isDrawn_121 (by first | assumption | exact ⟨by omega, by omega⟩) (by first | assumption | exact ⟨by omega, by omega⟩) (by omega) (by omega) ?_
                    refine R_iload 124 rfl dX11_isDrawn_122 rfl ?_
                    refine R_iconst 125 rfl dX11_isDrawn_124 ?_
                    refine R_irem_p 126 rfl dX11_isDrawn_125 (by first | assumption | exact ⟨by omega, by omega⟩) (by first | assumption | exact ⟨by omega, by omega⟩) (by omega) (by omega) ?_
                    refine R_iconst 127 rfl dX11_isDrawn_126 ?_
                    refine R_callV_i (M' := mX11_of5) 130 rfl dX11_isDrawn_127 ml_X11_198 kmX11_of5 im_X11_of5 se_X11_of5 rfl ⟨by decide, rfl⟩ (c_X11_of5 _ _ _ j 2 hR (by omega) (by omega) (by omega) (by omega) (by omega)) rfl rfl ⟨Nat.le_of_ble_eq_true rfl, Nat.le_of_ble_eq_true rfl⟩ (Nat.le_of_ble_eq_true rfl) ⟨Nat.le_of_ble_eq_true rfl, Nat.le_of_ble_eq_true rfl⟩ ?_
                    refine R_top (b := ((B.2.2 2 j).toNat : Int)) (by omega) ?_
                    refine R_aload_n 131 rfl dX11_isDrawn_130 rfl ?_
                    refine R_iload_n 132 rfl dX11_isDrawn_131 rfl ?_
                    refine R_iload_n 133 rfl dX11_isDrawn_132 rfl ?_
                    refine R_iconst 134 rfl dX11_isDrawn_133 ?_
                    refine R_callV_i (M' := mX11_of5) 137 rfl dX11_isDrawn_134 ml_X11_198 kmX11_of5 im_X11_of5 se_X11_of5 rfl ⟨by decide, rfl⟩ (c_X11_of5 _ _ _ k 2 hR (by omega) (by omega) (by omega) (by omega) (by omega)) rfl rfl ⟨Nat.le_of_ble_eq_true rfl, Nat.le_of_ble_eq_true rfl⟩ (Nat.le_of_ble_eq_true rfl) ⟨Nat.le_of_ble_eq_true rfl, Nat.le_of_ble_eq_true rfl⟩ ?_
                    refine R_top (b := ((B.2.2 2 k).toNat : Int)) (by omega) ?_
                    refine R_ixor 138 rfl dX11_isDrawn_137 ?_
                    refine R_callS_i (M' := mX11_bitsOf) 141 rfl dX11_isDrawn_138 ml_X11_204 kmX11_bitsOf st_X11_bitsOf (c_X11_bitsOf _ (Nat.lt_of_lt_of_le (Nat.xor_lt_two_pow (n := 8) (by omega) (by omega)) (by decide))) rfl rfl ⟨Nat.le_of_ble_eq_true rfl, Nat.le_of_ble_eq_true rfl⟩ (Nat.le_of_ble_eq_true rfl) ⟨Nat.le_of_ble_eq_true rfl, Nat.le_of_ble_eq_true rfl⟩ ?_
                    refine R_aload_n 142 rfl dX11_isDrawn_141 rfl ?_
                    refine R_getP 12 145 rfl dX11_isDrawn_142 rfl rfl fl_X11_22 (hP _ _ _ rfl) ?_
                    refine R_bipush 147 rfl dX11_isDrawn_145 (by decide) ?_
                    refine R_iald 6 148 rfl dX11_isDrawn_147 rfl (by first | rfl | omega) (by decide) (by decide) ?_
                    rw [h2]
                    refine R_icmp_gt 151 155 rfl rfl dX11_isDrawn_148 (show rg (ap (B.2.2 2 j) (B.2.2 2 k)) from ⟨by omega, by omega⟩) ⟨by omega, by omega⟩ (fun h148 => ?_) (fun h148 => ?_)
                    · refine R_iconst 156 rfl dX11_isDrawn_155 ?_
                      refine R_istore [_, _, _, _, _, _, _, _] 158 rfl dX11_isDrawn_156 rfl (by decide) ?_
                      refine R_iinc [_, _, _, _, _, _, _, _] 161 rfl dX11_isDrawn_158 rfl rfl (by decide) ?_
                      refine R_goto 17 rfl dX11_isDrawn_161 ?_
                      have e9 : (((pop ((B.2.2 2 j).toNat ^^^ (B.2.2 2 k).toNat) : Nat) : Int)) = ap (B.2.2 2 j) (B.2.2 2 k) := rfl
                      first
                        | (have e1 : sameP L B k j = false := by
                             rw [Bool.eq_false_iff]
                             intro q
                             have q2 := sp.mp q
                             first | exact h89 (ownN_iff.mpr q2.2.2) | omega
                           exact ih (by omega) _ _ _ _ _ hp (fun q => any_step (ha q) (by rcases a01 with rfl | rfl <;> simp [dP1, e1])) (fun q => all_step (hb q) (by rcases b01 with rfl | rfl <;> simp [dP2, e1])) a01 b01 hp0 (by omega))
                        | (have e1 : sameP L B k j = true := sp.mpr ⟨by omega, by omega, ownN_iff.mp h89⟩
                           refine ih (by omega) _ _ _ _ _ hp (fun q => any_step (ha q) ?_) (fun q => all_step (hb q) ?_) (by omega) (by omega) (by omega) (by omega)
                           · simp only [dP1, e1, Bool.true_and, Bool.not_eq_true', decide_eq_false_iff_not, Bool.not_eq_false', decide_eq_true_eq, true_and]; omega
                           · simp only [dP2, e1, Bool.not_true, Bool.false_or, decide_eq_false_iff_not, decide_eq_true_eq, true_and]; omega)
                    · refine R_iconst 152 rfl dX11_isDrawn_151 ?_
                      refine R_goto 156 rfl dX11_isDrawn_152 ?_
                      refine R_istore [_, _, _, _, _, _, _, _] 158 rfl dX11_isDrawn_156 rfl (by decide) ?_
                      refine R_iinc [_, _, _, _, _, _, _, _] 161 rfl dX11_isDrawn_158 rfl rfl (by decide) ?_
                      refine R_goto 17 rfl dX11_isDrawn_161 ?_
                      have e9 : (((pop ((B.2.2 2 j).toNat ^^^ (B.2.2 2 k).toNat) : Nat) : Int)) = ap (B.2.2 2 j) (B.2.2 2 k) := rfl
                      first
                        | (have e1 : sameP L B k j = false := by
                             rw [Bool.eq_false_iff]
                             intro q
                             have q2 := sp.mp q
                             first | exact h89 (ownN_iff.mpr q2.2.2) | omega
                           exact ih (by omega) _ _ _ _ _ hp (fun q => any_step (ha q) (by rcases a01 with rfl | rfl <;> simp [dP1, e1])) (fun q => all_step (hb q) (by rcases b01 with rfl | rfl <;> simp [dP2, e1])) a01 b01 hp0 (by omega))
                        | (have e1 : sameP L B k j = true := sp.mpr ⟨by omega, by omega, ownN_iff.mp h89⟩
                           refine ih (by omega) _ _ _ _ _ hp (fun q => any_step (ha q) ?_) (fun q => all_step (hb q) ?_) (by omega) (by omega) (by omega) (by omega)
                           · simp only [dP1, e1, Bool.true_and, Bool.not_eq_true', decide_eq_false_iff_not, Bool.not_eq_false', decide_eq_true_eq, true_and]; omega
                           · simp only [dP2, e1, Bool.not_true, Bool.false_or, decide_eq_false_iff_not, decide_eq_true_eq, true_and]; omega)
                · refine R_iconst 106 rfl dX11_isDrawn_105 ?_
                  refine R_goto 110 rfl dX11_isDrawn_106 ?_
                  refine R_istore [_, _, _, _, _, _, _, _] 112 rfl dX11_isDrawn_110 rfl (by decide) ?_
                  refine R_iload 114 rfl dX11_isDrawn_112 rfl ?_
                  refine R_if_eq 117 155 rfl rfl dX11_isDrawn_114 (by first | assumption | exact ⟨by omega, by omega⟩) (fun h114 => ?_) (fun h114 => ?_)
                  · refine R_iconst 156 rfl dX11_isDrawn_155 ?_
                    refine R_istore [_, _, _, _, _, _, _, _] 158 rfl dX11_isDrawn_156 rfl (by decide) ?_
                    refine R_iinc [_, _, _, _, _, _, _, _] 161 rfl dX11_isDrawn_158 rfl rfl (by decide) ?_
                    refine R_goto 17 rfl dX11_isDrawn_161 ?_
                    have e9 : (((pop ((B.2.2 2 j).toNat ^^^ (B.2.2 2 k).toNat) : Nat) : Int)) = ap (B.2.2 2 j) (B.2.2 2 k) := rfl
                    first
                      | (have e1 : sameP L B k j = false := by
                           rw [Bool.eq_false_iff]
                           intro q
                           have q2 := sp.mp q
                           first | exact h89 (ownN_iff.mpr q2.2.2) | omega
                         exact ih (by omega) _ _ _ _ _ hp (fun q => any_step (ha q) (by rcases a01 with rfl | rfl <;> simp [dP1, e1])) (fun q => all_step (hb q) (by rcases b01 with rfl | rfl <;> simp [dP2, e1])) a01 b01 hp0 (by omega))
                      | (have e1 : sameP L B k j = true := sp.mpr ⟨by omega, by omega, ownN_iff.mp h89⟩
                         refine ih (by omega) _ _ _ _ _ hp (fun q => any_step (ha q) ?_) (fun q => all_step (hb q) ?_) (by omega) (by omega) (by omega) (by omega)
                         · simp only [dP1, e1, Bool.true_and, Bool.not_eq_true', decide_eq_false_iff_not, Bool.not_eq_false', decide_eq_true_eq, true_and]; omega
                         · simp only [dP2, e1, Bool.not_true, Bool.false_or, decide_eq_false_iff_not, decide_eq_true_eq, true_and]; omega)
                  · refine R_aload_n 118 rfl dX11_isDrawn_117 rfl ?_
                    refine R_iload 120 rfl dX11_isDrawn_118 rfl ?_
                    refine R_iconst 121 rfl dX11_isDrawn_120 ?_
                    refine R_idiv_p 122 rfl dX11_isDrawn_121 (by first | assumption | exact ⟨by omega, by omega⟩) (by first | assumption | exact ⟨by omega, by omega⟩) (by omega) (by omega) ?_
                    refine R_iload 124 rfl dX11_isDrawn_122 rfl ?_
                    refine R_iconst 125 rfl dX11_isDrawn_124 ?_
                    refine R_irem_p 126 rfl dX11_isDrawn_125 (by first | assumption | exact ⟨by omega, by omega⟩) (by first | assumption | exact ⟨by omega, by omega⟩) (by omega) (by omega) ?_
                    refine R_iconst 127 rfl dX11_isDrawn_126 ?_
                    refine R_callV_i (M' := mX11_of5) 130 rfl dX11_isDrawn_127 ml_X11_198 kmX11_of5 im_X11_of5 se_X11_of5 rfl ⟨by decide, rfl⟩ (c_X11_of5 _ _ _ j 2 hR (by omega) (by omega) (by omega) (by omega) (by omega)) rfl rfl ⟨Nat.le_of_ble_eq_true rfl, Nat.le_of_ble_eq_true rfl⟩ (Nat.le_of_ble_eq_true rfl) ⟨Nat.le_of_ble_eq_true rfl, Nat.le_of_ble_eq_true rfl⟩ ?_
                    refine R_top (b := ((B.2.2 2 j).toNat : Int)) (by omega) ?_
                    refine R_aload_n 131 rfl dX11_isDrawn_130 rfl ?_
                    refine R_iload_n 132 rfl dX11_isDrawn_131 rfl ?_
                    refine R_iload_n 133 rfl dX11_isDrawn_132 rfl ?_
                    refine R_iconst 134 rfl dX11_isDrawn_133 ?_
                    refine R_callV_i (M' := mX11_of5) 137 rfl dX11_isDrawn_134 ml_X11_198 kmX11_of5 im_X11_of5 se_X11_of5 rfl ⟨by decide, rfl⟩ (c_X11_of5 _ _ _ k 2 hR (by omega) (by omega) (by omega) (by omega) (by omega)) rfl rfl ⟨Nat.le_of_ble_eq_true rfl, Nat.le_of_ble_eq_true rfl⟩ (Nat.le_of_ble_eq_true rfl) ⟨Nat.le_of_ble_eq_true rfl, Nat.le_of_ble_eq_true rfl⟩ ?_
                    refine R_top (b := ((B.2.2 2 k).toNat : Int)) (by omega) ?_
                    refine R_ixor 138 rfl dX11_isDrawn_137 ?_
                    refine R_callS_i (M' := mX11_bitsOf) 141 rfl dX11_isDrawn_138 ml_X11_204 kmX11_bitsOf st_X11_bitsOf (c_X11_bitsOf _ (Nat.lt_of_lt_of_le (Nat.xor_lt_two_pow (n := 8) (by omega) (by omega)) (by decide))) rfl rfl ⟨Nat.le_of_ble_eq_true rfl, Nat.le_of_ble_eq_true rfl⟩ (Nat.le_of_ble_eq_true rfl) ⟨Nat.le_of_ble_eq_true rfl, Nat.le_of_ble_eq_true rfl⟩ ?_
                    refine R_aload_n 142 rfl dX11_isDrawn_141 rfl ?_
                    refine R_getP 12 145 rfl dX11_isDrawn_142 rfl rfl fl_X11_22 (hP _ _ _ rfl) ?_
                    refine R_bipush 147 rfl dX11_isDrawn_145 (by decide) ?_
                    refine R_iald 6 148 rfl dX11_isDrawn_147 rfl (by first | rfl | omega) (by decide) (by decide) ?_
                    rw [h2]
                    refine R_icmp_gt 151 155 rfl rfl dX11_isDrawn_148 (show rg (ap (B.2.2 2 j) (B.2.2 2 k)) from ⟨by omega, by omega⟩) ⟨by omega, by omega⟩ (fun h148 => ?_) (fun h148 => ?_)
                    · refine R_iconst 156 rfl dX11_isDrawn_155 ?_
                      refine R_istore [_, _, _, _, _, _, _, _] 158 rfl dX11_isDrawn_156 rfl (by decide) ?_
                      refine R_iinc [_, _, _, _, _, _, _, _] 161 rfl dX11_isDrawn_158 rfl rfl (by decide) ?_
                      refine R_goto 17 rfl dX11_isDrawn_161 ?_
                      have e9 : (((pop ((B.2.2 2 j).toNat ^^^ (B.2.2 2 k).toNat) : Nat) : Int)) = ap (B.2.2 2 j) (B.2.2 2 k) := rfl
                      first
                        | (have e1 : sameP L B k j = false := by
                             rw [Bool.eq_false_iff]
                             intro q
                             have q2 := sp.mp q
                             first | exact h89 (ownN_iff.mpr q2.2.2) | omega
                           exact ih (by omega) _ _ _ _ _ hp (fun q => any_step (ha q) (by rcases a01 with rfl | rfl <;> simp [dP1, e1])) (fun q => all_step (hb q) (by rcases b01 with rfl | rfl <;> simp [dP2, e1])) a01 b01 hp0 (by omega))
                        | (have e1 : sameP L B k j = true := sp.mpr ⟨by omega, by omega, ownN_iff.mp h89⟩
                           refine ih (by omega) _ _ _ _ _ hp (fun q => any_step (ha q) ?_) (fun q => all_step (hb q) ?_) (by omega) (by omega) (by omega) (by omega)
                           · simp only [dP1, e1, Bool.true_and, Bool.not_eq_true', decide_eq_false_iff_not, Bool.not_eq_false', decide_eq_true_eq, true_and]; omega
                           · simp only [dP2, e1, Bool.not_true, Bool.false_or, decide_eq_false_iff_not, decide_eq_true_eq, true_and]; omega)
                    · refine R_iconst 152 rfl dX11_isDrawn_151 ?_
                      refine R_goto 156 rfl dX11_isDrawn_152 ?_
                      refine R_istore [_, _, _, _, _, _, _, _] 158 rfl dX11_isDrawn_156 rfl (by decide) ?_
                      refine R_iinc [_, _, _, _, _, _, _, _] 161 rfl dX11_isDrawn_158 rfl rfl (by decide) ?_
                      refine R_goto 17 rfl dX11_isDrawn_161 ?_
                      have e9 : (((pop ((B.2.2 2 j).toNat ^^^ (B.2.2 2 k).toNat) : Nat) : Int)) = ap (B.2.2 2 j) (B.2.2 2 k) := rfl
                      first
                        | (have e1 : sameP L B k j = false := by
                             rw [Bool.eq_false_iff]
                             intro q
                             have q2 := sp.mp q
                             first | exact h89 (ownN_iff.mpr q2.2.2) | omega
                           exact ih (by omega) _ _ _ _ _ hp (fun q => any_step (ha q) (by rcases a01 with rfl | rfl <;> simp [dP1, e1])) (fun q => all_step (hb q) (by rcases b01 with rfl | rfl <;> simp [dP2, e1])) a01 b01 hp0 (by omega))
                        | (have e1 : sameP L B k j = true := sp.mpr ⟨by omega, by omega, ownN_iff.mp h89⟩
                           refine ih (by omega) _ _ _ _ _ hp (fun q => any_step (ha q) ?_) (fun q => all_step (hb q) ?_) (by omega) (by omega) (by omega) (by omega)
                           · simp only [dP1, e1, Bool.true_and, Bool.not_eq_true', decide_eq_false_iff_not, Bool.not_eq_false', decide_eq_true_eq, true_and]; omega
                           · simp only [dP2, e1, Bool.not_true, Bool.false_or, decide_eq_false_iff_not, decide_eq_true_eq, true_and]; omega)
        · refine R_iload 42 rfl dX11_isDrawn_40 rfl ?_
          refine R_iconst 43 rfl dX11_isDrawn_42 ?_
          refine R_irem_p 44 rfl dX11_isDrawn_43 (by first | assumption | exact ⟨by omega, by omega⟩) (by first | assumption | exact ⟨by omega, by omega⟩) (by omega) (by omega) ?_
          refine R_iload_n 45 rfl dX11_isDrawn_44 rfl ?_
          refine R_icmp_ne 48 52 rfl rfl dX11_isDrawn_45 (by first | assumption | exact ⟨by omega, by omega⟩) (by first | assumption | exact ⟨by omega, by omega⟩) (fun h45 => ?_) (fun h45 => ?_)
          · refine R_iconst 53 rfl dX11_isDrawn_52 ?_
            refine R_istore [_, _, _, _, _, _, _, _] 55 rfl dX11_isDrawn_53 rfl (by decide) ?_
            refine R_iload 57 rfl dX11_isDrawn_55 rfl ?_
            refine R_if_ne 60 158 rfl rfl dX11_isDrawn_57 (by first | assumption | exact ⟨by omega, by omega⟩) (fun h57 => ?_) (fun h57 => ?_)
            · exact absurd h57 (by omega)
            refine R_aload_n 61 rfl dX11_isDrawn_60 rfl ?_
            refine R_iload 63 rfl dX11_isDrawn_61 rfl ?_
            refine R_iconst 64 rfl dX11_isDrawn_63 ?_
            refine R_idiv_p 65 rfl dX11_isDrawn_64 (by first | assumption | exact ⟨by omega, by omega⟩) (by first | assumption | exact ⟨by omega, by omega⟩) (by omega) (by omega) ?_
            refine R_iload 67 rfl dX11_isDrawn_65 rfl ?_
            refine R_iconst 68 rfl dX11_isDrawn_67 ?_
            refine R_irem_p 69 rfl dX11_isDrawn_68 (by first | assumption | exact ⟨by omega, by omega⟩) (by first | assumption | exact ⟨by omega, by omega⟩) (by omega) (by omega) ?_
            refine R_iconst 70 rfl dX11_isDrawn_69 ?_
            refine R_callV_i (M' := mX11_of5) 73 rfl dX11_isDrawn_70 ml_X11_198 kmX11_of5 im_X11_of5 se_X11_of5 rfl ⟨by decide, rfl⟩ (c_X11_of5 _ _ _ j 3 hR (by omega) (by omega) (by omega) (by omega) (by omega)) rfl rfl ⟨Nat.le_of_ble_eq_true rfl, Nat.le_of_ble_eq_true rfl⟩ (Nat.le_of_ble_eq_true rfl) ⟨Nat.le_of_ble_eq_true rfl, Nat.le_of_ble_eq_true rfl⟩ ?_
            refine R_iload_n 74 rfl dX11_isDrawn_73 rfl ?_
            refine R_icmp_ne 77 158 rfl rfl dX11_isDrawn_74 (by first | assumption | exact ⟨by omega, by omega⟩) (by first | assumption | exact ⟨by omega, by omega⟩) (fun h74 => ?_) (fun h74 => ?_)
            · refine R_iinc [_, _, _, _, _, _, _, _] 161 rfl dX11_isDrawn_158 rfl rfl (by decide) ?_
              refine R_goto 17 rfl dX11_isDrawn_161 ?_
              have e9 : (((pop ((B.2.2 2 j).toNat ^^^ (B.2.2 2 k).toNat) : Nat) : Int)) = ap (B.2.2 2 j) (B.2.2 2 k) := rfl
              first
                | (have e1 : sameP L B k j = false := by
                     rw [Bool.eq_false_iff]
                     intro q
                     have q2 := sp.mp q
                     first | exact h89 (ownN_iff.mpr q2.2.2) | omega
                   exact ih (by omega) _ _ _ _ _ hp (fun q => any_step (ha q) (by rcases a01 with rfl | rfl <;> simp [dP1, e1])) (fun q => all_step (hb q) (by rcases b01 with rfl | rfl <;> simp [dP2, e1])) a01 b01 hp0 (by omega))
                | (have e1 : sameP L B k j = true := sp.mpr ⟨by omega, by omega, ownN_iff.mp h89⟩
                   refine ih (by omega) _ _ _ _ _ hp (fun q => any_step (ha q) ?_) (fun q => all_step (hb q) ?_) (by omega) (by omega) (by omega) (by omega)
                   · simp only [dP1, e1, Bool.true_and, Bool.not_eq_true', decide_eq_false_iff_not, Bool.not_eq_false', decide_eq_true_eq, true_and]; omega
                   · simp only [dP2, e1, Bool.not_true, Bool.false_or, decide_eq_false_iff_not, decide_eq_true_eq, true_and]; omega)
            · refine R_aload_n 78 rfl dX11_isDrawn_77 rfl ?_
              refine R_iload 80 rfl dX11_isDrawn_78 rfl ?_
              refine R_iconst 81 rfl dX11_isDrawn_80 ?_
              refine R_idiv_p 82 rfl dX11_isDrawn_81 (by first | assumption | exact ⟨by omega, by omega⟩) (by first | assumption | exact ⟨by omega, by omega⟩) (by omega) (by omega) ?_
              refine R_iload 84 rfl dX11_isDrawn_82 rfl ?_
              refine R_iconst 85 rfl dX11_isDrawn_84 ?_
              refine R_irem_p 86 rfl dX11_isDrawn_85 (by first | assumption | exact ⟨by omega, by omega⟩) (by first | assumption | exact ⟨by omega, by omega⟩) (by omega) (by omega) ?_
              refine R_callV_i (M' := mX11_isOwnName) 89 rfl dX11_isDrawn_86 ml_X11_207 kmX11_isOwnName im_X11_isOwnName se_X11_isOwnName rfl ⟨by decide, rfl⟩ (c_X11_isOwnName _ _ j hR (by omega) (by omega) (by omega)) rfl rfl ⟨Nat.le_of_ble_eq_true rfl, Nat.le_of_ble_eq_true rfl⟩ (Nat.le_of_ble_eq_true rfl) ⟨Nat.le_of_ble_eq_true rfl, Nat.le_of_ble_eq_true rfl⟩ ?_
              refine R_ifp_eq 92 158 rfl rfl dX11_isDrawn_89 (fun h89 => ?_) (fun h89 => ?_)
              · refine R_iinc [_, _, _, _, _, _, _, _] 161 rfl dX11_isDrawn_158 rfl rfl (by decide) ?_
                refine R_goto 17 rfl dX11_isDrawn_161 ?_
                have e9 : (((pop ((B.2.2 2 j).toNat ^^^ (B.2.2 2 k).toNat) : Nat) : Int)) = ap (B.2.2 2 j) (B.2.2 2 k) := rfl
                first
                  | (have e1 : sameP L B k j = false := by
                       rw [Bool.eq_false_iff]
                       intro q
                       have q2 := sp.mp q
                       first | exact h89 (ownN_iff.mpr q2.2.2) | omega
                     exact ih (by omega) _ _ _ _ _ hp (fun q => any_step (ha q) (by rcases a01 with rfl | rfl <;> simp [dP1, e1])) (fun q => all_step (hb q) (by rcases b01 with rfl | rfl <;> simp [dP2, e1])) a01 b01 hp0 (by omega))
                  | (have e1 : sameP L B k j = true := sp.mpr ⟨by omega, by omega, ownN_iff.mp h89⟩
                     refine ih (by omega) _ _ _ _ _ hp (fun q => any_step (ha q) ?_) (fun q => all_step (hb q) ?_) (by omega) (by omega) (by omega) (by omega)
                     · simp only [dP1, e1, Bool.true_and, Bool.not_eq_true', decide_eq_false_iff_not, Bool.not_eq_false', decide_eq_true_eq, true_and]; omega
                     · simp only [dP2, e1, Bool.not_true, Bool.false_or, decide_eq_false_iff_not, decide_eq_true_eq, true_and]; omega)
              · refine R_iload 94 rfl dX11_isDrawn_92 rfl ?_
                refine R_if_ne 97 105 rfl rfl dX11_isDrawn_94 (by first | assumption | exact ⟨by omega, by omega⟩) (fun h94 => ?_) (fun h94 => ?_)
                · refine R_iconst 106 rfl dX11_isDrawn_105 ?_
                  refine R_goto 110 rfl dX11_isDrawn_106 ?_
                  refine R_istore [_, _, _, _, _, _, _, _] 112 rfl dX11_isDrawn_110 rfl (by decide) ?_
                  refine R_iload 114 rfl dX11_isDrawn_112 rfl ?_
                  refine R_if_eq 117 155 rfl rfl dX11_isDrawn_114 (by first | assumption | exact ⟨by omega, by omega⟩) (fun h114 => ?_) (fun h114 => ?_)
                  · refine R_iconst 156 rfl dX11_isDrawn_155 ?_
                    refine R_istore [_, _, _, _, _, _, _, _] 158 rfl dX11_isDrawn_156 rfl (by decide) ?_
                    refine R_iinc [_, _, _, _, _, _, _, _] 161 rfl dX11_isDrawn_158 rfl rfl (by decide) ?_
                    refine R_goto 17 rfl dX11_isDrawn_161 ?_
                    have e9 : (((pop ((B.2.2 2 j).toNat ^^^ (B.2.2 2 k).toNat) : Nat) : Int)) = ap (B.2.2 2 j) (B.2.2 2 k) := rfl
                    first
                      | (have e1 : sameP L B k j = false := by
                           rw [Bool.eq_false_iff]
                           intro q
                           have q2 := sp.mp q
                           first | exact h89 (ownN_iff.mpr q2.2.2) | omega
                         exact ih (by omega) _ _ _ _ _ hp (fun q => any_step (ha q) (by rcases a01 with rfl | rfl <;> simp [dP1, e1])) (fun q => all_step (hb q) (by rcases b01 with rfl | rfl <;> simp [dP2, e1])) a01 b01 hp0 (by omega))
                      | (have e1 : sameP L B k j = true := sp.mpr ⟨by omega, by omega, ownN_iff.mp h89⟩
                         refine ih (by omega) _ _ _ _ _ hp (fun q => any_step (ha q) ?_) (fun q => all_step (hb q) ?_) (by omega) (by omega) (by omega) (by omega)
                         · simp only [dP1, e1, Bool.true_and, Bool.not_eq_true', decide_eq_false_iff_not, Bool.not_eq_false', decide_eq_true_eq, true_and]; omega
                         · simp only [dP2, e1, Bool.not_true, Bool.false_or, decide_eq_false_iff_not, decide_eq_true_eq, true_and]; omega)
                  · refine R_aload_n 118 rfl dX11_isDrawn_117 rfl ?_
                    refine R_iload 120 rfl dX11_isDrawn_118 rfl ?_
                    refine R_iconst 121 rfl dX11_isDrawn_120 ?_
                    refine R_idiv_p 122 rfl dX11_isDrawn_121 (by first | assumption | exact ⟨by omega, by omega⟩) (by first | assumption | exact ⟨by omega, by omega⟩) (by omega) (by omega) ?_
                    refine R_iload 124 rfl dX11_isDrawn_122 rfl ?_
                    refine R_iconst 125 rfl dX11_isDrawn_124 ?_
                    refine R_irem_p 126 rfl dX11_isDrawn_125 (by first | assumption | exact ⟨by omega, by omega⟩) (by first | assumption | exact ⟨by omega, by omega⟩) (by omega) (by omega) ?_
                    refine R_iconst 127 rfl dX11_isDrawn_126 ?_
                    refine R_callV_i (M' := mX11_of5) 130 rfl dX11_isDrawn_127 ml_X11_198 kmX11_of5 im_X11_of5 se_X11_of5 rfl ⟨by decide, rfl⟩ (c_X11_of5 _ _ _ j 2 hR (by omega) (by omega) (by omega) (by omega) (by omega)) rfl rfl ⟨Nat.le_of_ble_eq_true rfl, Nat.le_of_ble_eq_true rfl⟩ (Nat.le_of_ble_eq_true rfl) ⟨Nat.le_of_ble_eq_true rfl, Nat.le_of_ble_eq_true rfl⟩ ?_
                    refine R_top (b := ((B.2.2 2 j).toNat : Int)) (by omega) ?_
                    refine R_aload_n 131 rfl dX11_isDrawn_130 rfl ?_
                    refine R_iload_n 132 rfl dX11_isDrawn_131 rfl ?_
                    refine R_iload_n 133 rfl dX11_isDrawn_132 rfl ?_
                    refine R_iconst 134 rfl dX11_isDrawn_133 ?_
                    refine R_callV_i (M' := mX11_of5) 137 rfl dX11_isDrawn_134 ml_X11_198 kmX11_of5 im_X11_of5 se_X11_of5 rfl ⟨by decide, rfl⟩ (c_X11_of5 _ _ _ k 2 hR (by omega) (by omega) (by omega) (by omega) (by omega)) rfl rfl ⟨Nat.le_of_ble_eq_true rfl, Nat.le_of_ble_eq_true rfl⟩ (Nat.le_of_ble_eq_true rfl) ⟨Nat.le_of_ble_eq_true rfl, Nat.le_of_ble_eq_true rfl⟩ ?_
                    refine R_top (b := ((B.2.2 2 k).toNat : Int)) (by omega) ?_
                    refine R_ixor 138 rfl dX11_isDrawn_137 ?_
                    refine R_callS_i (M' := mX11_bitsOf) 141 rfl dX11_isDrawn_138 ml_X11_204 kmX11_bitsOf st_X11_bitsOf (c_X11_bitsOf _ (Nat.lt_of_lt_of_le (Nat.xor_lt_two_pow (n := 8) (by omega) (by omega)) (by decide))) rfl rfl ⟨Nat.le_of_ble_eq_true rfl, Nat.le_of_ble_eq_true rfl⟩ (Nat.le_of_ble_eq_true rfl) ⟨Nat.le_of_ble_eq_true rfl, Nat.le_of_ble_eq_true rfl⟩ ?_
                    refine R_aload_n 142 rfl dX11_isDrawn_141 rfl ?_
                    refine R_getP 12 145 rfl dX11_isDrawn_142 rfl rfl fl_X11_22 (hP _ _ _ rfl) ?_
                    refine R_bipush 147 rfl dX11_isDrawn_145 (by decide) ?_
                    refine R_iald 6 148 rfl dX11_isDrawn_147 rfl (by first | rfl | omega) (by decide) (by decide) ?_
                    rw [h2]
                    refine R_icmp_gt 151 155 rfl rfl dX11_isDrawn_148 (show rg (ap (B.2.2 2 j) (B.2.2 2 k)) from ⟨by omega, by omega⟩) ⟨by omega, by omega⟩ (fun h148 => ?_) (fun h148 => ?_)
                    · refine R_iconst 156 rfl dX11_isDrawn_155 ?_
                      refine R_istore [_, _, _, _, _, _, _, _] 158 rfl dX11_isDrawn_156 rfl (by decide) ?_
                      refine R_iinc [_, _, _, _, _, _, _, _] 161 rfl dX11_isDrawn_158 rfl rfl (by decide) ?_
                      refine R_goto 17 rfl dX11_isDrawn_161 ?_
                      have e9 : (((pop ((B.2.2 2 j).toNat ^^^ (B.2.2 2 k).toNat) : Nat) : Int)) = ap (B.2.2 2 j) (B.2.2 2 k) := rfl
                      first
                        | (have e1 : sameP L B k j = false := by
                             rw [Bool.eq_false_iff]
                             intro q
                             have q2 := sp.mp q
                             first | exact h89 (ownN_iff.mpr q2.2.2) | omega
                           exact ih (by omega) _ _ _ _ _ hp (fun q => any_step (ha q) (by rcases a01 with rfl | rfl <;> simp [dP1, e1])) (fun q => all_step (hb q) (by rcases b01 with rfl | rfl <;> simp [dP2, e1])) a01 b01 hp0 (by omega))
                        | (have e1 : sameP L B k j = true := sp.mpr ⟨by omega, by omega, ownN_iff.mp h89⟩
                           refine ih (by omega) _ _ _ _ _ hp (fun q => any_step (ha q) ?_) (fun q => all_step (hb q) ?_) (by omega) (by omega) (by omega) (by omega)
                           · simp only [dP1, e1, Bool.true_and, Bool.not_eq_true', decide_eq_false_iff_not, Bool.not_eq_false', decide_eq_true_eq, true_and]; omega
                           · simp only [dP2, e1, Bool.not_true, Bool.false_or, decide_eq_false_iff_not, decide_eq_true_eq, true_and]; omega)
                    · refine R_iconst 152 rfl dX11_isDrawn_151 ?_
                      refine R_goto 156 rfl dX11_isDrawn_152 ?_
                      refine R_istore [_, _, _, _, _, _, _, _] 158 rfl dX11_isDrawn_156 rfl (by decide) ?_
                      refine R_iinc [_, _, _, _, _, _, _, _] 161 rfl dX11_isDrawn_158 rfl rfl (by decide) ?_
                      refine R_goto 17 rfl dX11_isDrawn_161 ?_
                      have e9 : (((pop ((B.2.2 2 j).toNat ^^^ (B.2.2 2 k).toNat) : Nat) : Int)) = ap (B.2.2 2 j) (B.2.2 2 k) := rfl
                      first
                        | (have e1 : sameP L B k j = false := by
                             rw [Bool.eq_false_iff]
                             intro q
                             have q2 := sp.mp q
                             first | exact h89 (ownN_iff.mpr q2.2.2) | omega
                           exact ih (by omega) _ _ _ _ _ hp (fun q => any_step (ha q) (by rcases a01 with rfl | rfl <;> simp [dP1, e1])) (fun q => all_step (hb q) (by rcases b01 with rfl | rfl <;> simp [dP2, e1])) a01 b01 hp0 (by omega))
                        | (have e1 : sameP L B k j = true := sp.mpr ⟨by omega, by omega, ownN_iff.mp h89⟩
                           refine ih (by omega) _ _ _ _ _ hp (fun q => any_step (ha q) ?_) (fun q => all_step (hb q) ?_) (by omega) (by omega) (by omega) (by omega)
                           · simp only [dP1, e1, Bool.true_and, Bool.not_eq_true', decide_eq_false_iff_not, Bool.not_eq_false', decide_eq_true_eq, true_and]; omega
                           · simp only [dP2, e1, Bool.not_true, Bool.false_or, decide_eq_false_iff_not, decide_eq_true_eq, true_and]; omega)
                · refine R_iload 99 rfl dX11_isDrawn_97 rfl ?_
                  refine R_iconst 100 rfl dX11_isDrawn_99 ?_
                  refine R_idiv_p 101 rfl dX11_isDrawn_100 (by first | assumption | exact ⟨by omega, by omega⟩) (by first | assumption | exact ⟨by omega, by omega⟩) (by omega) (by omega) ?_
                  refine R_iload_n 102 rfl dX11_isDrawn_101 rfl ?_
                  refine R_icmp_eq 105 109 rfl rfl dX11_isDrawn_102 (by first | assumption | exact ⟨by omega, by omega⟩) (by first | assumption | exact ⟨by omega, by omega⟩) (fun h102 => ?_) (fun h102 => ?_)
                  · refine R_iconst 110 rfl dX11_isDrawn_109 ?_
                    refine R_istore [_, _, _, _, _, _, _, _] 112 rfl dX11_isDrawn_110 rfl (by decide) ?_
                    refine R_iload 114 rfl dX11_isDrawn_112 rfl ?_
                    refine R_if_eq 117 155 rfl rfl dX11_isDrawn_114 (by first | assumption | exact ⟨by omega, by omega⟩) (fun h114 => ?_) (fun h114 => ?_)
                    · refine R_iconst 156 rfl dX11_isDrawn_155 ?_
                      refine R_istore [_, _, _, _, _, _, _, _] 158 rfl dX11_isDrawn_156 rfl (by decide) ?_
                      refine R_iinc [_, _, _, _, _, _, _, _] 161 rfl dX11_isDrawn_158 rfl rfl (by decide) ?_
                      refine R_goto 17 rfl dX11_isDrawn_161 ?_
                      have e9 : (((pop ((B.2.2 2 j).toNat ^^^ (B.2.2 2 k).toNat) : Nat) : Int)) = ap (B.2.2 2 j) (B.2.2 2 k) := rfl
                      first
                        | (have e1 : sameP L B k j = false := by
                             rw [Bool.eq_false_iff]
                             intro q
                             have q2 := sp.mp q
                             first | exact h89 (ownN_iff.mpr q2.2.2) | omega
                           exact ih (by omega) _ _ _ _ _ hp (fun q => any_step (ha q) (by rcases a01 with rfl | rfl <;> simp [dP1, e1])) (fun q => all_step (hb q) (by rcases b01 with rfl | rfl <;> simp [dP2, e1])) a01 b01 hp0 (by omega))
                        | (have e1 : sameP L B k j = true := sp.mpr ⟨by omega, by omega, ownN_iff.mp h89⟩
                           refine ih (by omega) _ _ _ _ _ hp (fun q => any_step (ha q) ?_) (fun q => all_step (hb q) ?_) (by omega) (by omega) (by omega) (by omega)
                           · simp only [dP1, e1, Bool.true_and, Bool.not_eq_true', decide_eq_false_iff_not, Bool.not_eq_false', decide_eq_true_eq, true_and]; omega
                           · simp only [dP2, e1, Bool.not_true, Bool.false_or, decide_eq_false_iff_not, decide_eq_true_eq, true_and]; omega)
                    · refine R_aload_n 118 rfl dX11_isDrawn_117 rfl ?_
                      refine R_iload 120 rfl dX11_isDrawn_118 rfl ?_
                      refine R_iconst 121 rfl dX11_isDrawn_120 ?_
                      refine R_idiv_p 122 rfl dX11_isDrawn_121 (by first | assumption | exact ⟨by omega, by omega⟩) (by first | assumption | exact ⟨by omega, by omega⟩) (by omega) (by omega) ?_
                      refine R_iload 124 rfl dX11_isDrawn_122 rfl ?_
                      refine R_iconst 125 rfl dX11_isDrawn_124 ?_
                      refine R_irem_p 126 rfl dX11_isDrawn_125 (by first | assumption | exact ⟨by omega, by omega⟩) (by first | assumption | exact ⟨by omega, by omega⟩) (by omega) (by omega) ?_
                      refine R_iconst 127 rfl dX11_isDrawn_126 ?_
                      refine R_callV_i (M' := mX11_of5) 130 rfl dX11_isDrawn_127 ml_X11_198 kmX11_of5 im_X11_of5 se_X11_of5 rfl ⟨by decide, rfl⟩ (c_X11_of5 _ _ _ j 2 hR (by omega) (by omega) (by omega) (by omega) (by omega)) rfl rfl ⟨Nat.le_of_ble_eq_true rfl, Nat.le_of_ble_eq_true rfl⟩ (Nat.le_of_ble_eq_true rfl) ⟨Nat.le_of_ble_eq_true rfl, Nat.le_of_ble_eq_true rfl⟩ ?_
                      refine R_top (b := ((B.2.2 2 j).toNat : Int)) (by omega) ?_
                      refine R_aload_n 131 rfl dX11_isDrawn_130 rfl ?_
                      refine R_iload_n 132 rfl dX11_isDrawn_131 rfl ?_
                      refine R_iload_n 133 rfl dX11_isDrawn_132 rfl ?_
                      refine R_iconst 134 rfl dX11_isDrawn_133 ?_
                      refine R_callV_i (M' := mX11_of5) 137 rfl dX11_isDrawn_134 ml_X11_198 kmX11_of5 im_X11_of5 se_X11_of5 rfl ⟨by decide, rfl⟩ (c_X11_of5 _ _ _ k 2 hR (by omega) (by omega) (by omega) (by omega) (by omega)) rfl rfl ⟨Nat.le_of_ble_eq_true rfl, Nat.le_of_ble_eq_true rfl⟩ (Nat.le_of_ble_eq_true rfl) ⟨Nat.le_of_ble_eq_true rfl, Nat.le_of_ble_eq_true rfl⟩ ?_
                      refine R_top (b := ((B.2.2 2 k).toNat : Int)) (by omega) ?_
                      refine R_ixor 138 rfl dX11_isDrawn_137 ?_
                      refine R_callS_i (M' := mX11_bitsOf) 141 rfl dX11_isDrawn_138 ml_X11_204 kmX11_bitsOf st_X11_bitsOf (c_X11_bitsOf _ (Nat.lt_of_lt_of_le (Nat.xor_lt_two_pow (n := 8) (by omega) (by omega)) (by decide))) rfl rfl ⟨Nat.le_of_ble_eq_true rfl, Nat.le_of_ble_eq_true rfl⟩ (Nat.le_of_ble_eq_true rfl) ⟨Nat.le_of_ble_eq_true rfl, Nat.le_of_ble_eq_true rfl⟩ ?_
                      refine R_aload_n 142 rfl dX11_isDrawn_141 rfl ?_
                      refine R_getP 12 145 rfl dX11_isDrawn_142 rfl rfl fl_X11_22 (hP _ _ _ rfl) ?_
                      refine R_bipush 147 rfl dX11_isDrawn_145 (by decide) ?_
                      refine R_iald 6 148 rfl dX11_isDrawn_147 rfl (by first | rfl | omega) (by decide) (by decide) ?_
                      rw [h2]
                      refine R_icmp_gt 151 155 rfl rfl dX11_isDrawn_148 (show rg (ap (B.2.2 2 j) (B.2.2 2 k)) from ⟨by omega, by omega⟩) ⟨by omega, by omega⟩ (fun h148 => ?_) (fun h148 => ?_)
                      · refine R_iconst 156 rfl dX11_isDrawn_155 ?_
                        refine R_istore [_, _, _, _, _, _, _, _] 158 rfl dX11_isDrawn_156 rfl (by decide) ?_
                        refine R_iinc [_, _, _, _, _, _, _, _] 161 rfl dX11_isDrawn_158 rfl rfl (by decide) ?_
                        refine R_goto 17 rfl dX11_isDrawn_161 ?_
                        have e9 : (((pop ((B.2.2 2 j).toNat ^^^ (B.2.2 2 k).toNat) : Nat) : Int)) = ap (B.2.2 2 j) (B.2.2 2 k) := rfl
                        first
                          | (have e1 : sameP L B k j = false := by
                               rw [Bool.eq_false_iff]
                               intro q
                               have q2 := sp.mp q
                               first | exact h89 (ownN_iff.mpr q2.2.2) | omega
                             exact ih (by omega) _ _ _ _ _ hp (fun q => any_step (ha q) (by rcases a01 with rfl | rfl <;> simp [dP1, e1])) (fun q => all_step (hb q) (by rcases b01 with rfl | rfl <;> simp [dP2, e1])) a01 b01 hp0 (by omega))
                          | (have e1 : sameP L B k j = true := sp.mpr ⟨by omega, by omega, ownN_iff.mp h89⟩
                             refine ih (by omega) _ _ _ _ _ hp (fun q => any_step (ha q) ?_) (fun q => all_step (hb q) ?_) (by omega) (by omega) (by omega) (by omega)
                             · simp only [dP1, e1, Bool.true_and, Bool.not_eq_true', decide_eq_false_iff_not, Bool.not_eq_false', decide_eq_true_eq, true_and]; omega
                             · simp only [dP2, e1, Bool.not_true, Bool.false_or, decide_eq_false_iff_not, decide_eq_true_eq, true_and]; omega)
                      · refine R_iconst 152 rfl dX11_isDrawn_151 ?_
                        refine R_goto 156 rfl dX11_isDrawn_152 ?_
                        refine R_istore [_, _, _, _, _, _, _, _] 158 rfl dX11_isDrawn_156 rfl (by decide) ?_
                        refine R_iinc [_, _, _, _, _, _, _, _] 161 rfl dX11_isDrawn_158 rfl rfl (by decide) ?_
                        refine R_goto 17 rfl dX11_isDrawn_161 ?_
                        have e9 : (((pop ((B.2.2 2 j).toNat ^^^ (B.2.2 2 k).toNat) : Nat) : Int)) = ap (B.2.2 2 j) (B.2.2 2 k) := rfl
                        first
                          | (have e1 : sameP L B k j = false := by
                               rw [Bool.eq_false_iff]
                               intro q
                               have q2 := sp.mp q
                               first | exact h89 (ownN_iff.mpr q2.2.2) | omega
                             exact ih (by omega) _ _ _ _ _ hp (fun q => any_step (ha q) (by rcases a01 with rfl | rfl <;> simp [dP1, e1])) (fun q => all_step (hb q) (by rcases b01 with rfl | rfl <;> simp [dP2, e1])) a01 b01 hp0 (by omega))
                          | (have e1 : sameP L B k j = true := sp.mpr ⟨by omega, by omega, ownN_iff.mp h89⟩
                             refine ih (by omega) _ _ _ _ _ hp (fun q => any_step (ha q) ?_) (fun q => all_step (hb q) ?_) (by omega) (by omega) (by omega) (by omega)
                             · simp only [dP1, e1, Bool.true_and, Bool.not_eq_true', decide_eq_false_iff_not, Bool.not_eq_false', decide_eq_true_eq, true_and]; omega
                             · simp only [dP2, e1, Bool.not_true, Bool.false_or, decide_eq_false_iff_not, decide_eq_true_eq, true_and]; omega)
                  · refine R_iconst 106 rfl dX11_isDrawn_105 ?_
                    refine R_goto 110 rfl dX11_isDrawn_106 ?_
                    refine R_istore [_, _, _, _, _, _, _, _] 112 rfl dX11_isDrawn_110 rfl (by decide) ?_
                    refine R_iload 114 rfl dX11_isDrawn_112 rfl ?_
                    refine R_if_eq 117 155 rfl rfl dX11_isDrawn_114 (by first | assumption | exact ⟨by omega, by omega⟩) (fun h114 => ?_) (fun h114 => ?_)
                    · refine R_iconst 156 rfl dX11_isDrawn_155 ?_
                      refine R_istore [_, _, _, _, _, _, _, _] 158 rfl dX11_isDrawn_156 rfl (by decide) ?_
                      refine R_iinc [_, _, _, _, _, _, _, _] 161 rfl dX11_isDrawn_158 rfl rfl (by decide) ?_
                      refine R_goto 17 rfl dX11_isDrawn_161 ?_
                      have e9 : (((pop ((B.2.2 2 j).toNat ^^^ (B.2.2 2 k).toNat) : Nat) : Int)) = ap (B.2.2 2 j) (B.2.2 2 k) := rfl
                      first
                        | (have e1 : sameP L B k j = false := by
                             rw [Bool.eq_false_iff]
                             intro q
                             have q2 := sp.mp q
                             first | exact h89 (ownN_iff.mpr q2.2.2) | omega
                           exact ih (by omega) _ _ _ _ _ hp (fun q => any_step (ha q) (by rcases a01 with rfl | rfl <;> simp [dP1, e1])) (fun q => all_step (hb q) (by rcases b01 with rfl | rfl <;> simp [dP2, e1])) a01 b01 hp0 (by omega))
                        | (have e1 : sameP L B k j = true := sp.mpr ⟨by omega, by omega, ownN_iff.mp h89⟩
                           refine ih (by omega) _ _ _ _ _ hp (fun q => any_step (ha q) ?_) (fun q => all_step (hb q) ?_) (by omega) (by omega) (by omega) (by omega)
                           · simp only [dP1, e1, Bool.true_and, Bool.not_eq_true', decide_eq_false_iff_not, Bool.not_eq_false', decide_eq_true_eq, true_and]; omega
                           · simp only [dP2, e1, Bool.not_true, Bool.false_or, decide_eq_false_iff_not, decide_eq_true_eq, true_and]; omega)
                    · refine R_aload_n 118 rfl dX11_isDrawn_117 rfl ?_
                      refine R_iload 120 rfl dX11_isDrawn_118 rfl ?_
                      refine R_iconst 121 rfl dX11_isDrawn_120 ?_
                      refine R_idiv_p 122 rfl dX11_isDrawn_121 (by first | assumption | exact ⟨by omega, by omega⟩) (by first | assumption | exact ⟨by omega, by omega⟩) (by omega) (by omega) ?_
                      refine R_iload 124 rfl dX11_isDrawn_122 rfl ?_
                      refine R_iconst 125 rfl dX11_isDrawn_124 ?_
                      refine R_irem_p 126 rfl dX11_isDrawn_125 (by first | assumption | exact ⟨by omega, by omega⟩) (by first | assumption | exact ⟨by omega, by omega⟩) (by omega) (by omega) ?_
                      refine R_iconst 127 rfl dX11_isDrawn_126 ?_
                      refine R_callV_i (M' := mX11_of5) 130 rfl dX11_isDrawn_127 ml_X11_198 kmX11_of5 im_X11_of5 se_X11_of5 rfl ⟨by decide, rfl⟩ (c_X11_of5 _ _ _ j 2 hR (by omega) (by omega) (by omega) (by omega) (by omega)) rfl rfl ⟨Nat.le_of_ble_eq_true rfl, Nat.le_of_ble_eq_true rfl⟩ (Nat.le_of_ble_eq_true rfl) ⟨Nat.le_of_ble_eq_true rfl, Nat.le_of_ble_eq_true rfl⟩ ?_
                      refine R_top (b := ((B.2.2 2 j).toNat : Int)) (by omega) ?_
                      refine R_aload_n 131 rfl dX11_isDrawn_130 rfl ?_
                      refine R_iload_n 132 rfl dX11_isDrawn_131 rfl ?_
                      refine R_iload_n 133 rfl dX11_isDrawn_132 rfl ?_
                      refine R_iconst 134 rfl dX11_isDrawn_133 ?_
                      refine R_callV_i (M' := mX11_of5) 137 rfl dX11_isDrawn_134 ml_X11_198 kmX11_of5 im_X11_of5 se_X11_of5 rfl ⟨by decide, rfl⟩ (c_X11_of5 _ _ _ k 2 hR (by omega) (by omega) (by omega) (by omega) (by omega)) rfl rfl ⟨Nat.le_of_ble_eq_true rfl, Nat.le_of_ble_eq_true rfl⟩ (Nat.le_of_ble_eq_true rfl) ⟨Nat.le_of_ble_eq_true rfl, Nat.le_of_ble_eq_true rfl⟩ ?_
                      refine R_top (b := ((B.2.2 2 k).toNat : Int)) (by omega) ?_
                      refine R_ixor 138 rfl dX11_isDrawn_137 ?_
                      refine R_callS_i (M' := mX11_bitsOf) 141 rfl dX11_isDrawn_138 ml_X11_204 kmX11_bitsOf st_X11_bitsOf (c_X11_bitsOf _ (Nat.lt_of_lt_of_le (Nat.xor_lt_two_pow (n := 8) (by omega) (by omega)) (by decide))) rfl rfl ⟨Nat.le_of_ble_eq_true rfl, Nat.le_of_ble_eq_true rfl⟩ (Nat.le_of_ble_eq_true rfl) ⟨Nat.le_of_ble_eq_true rfl, Nat.le_of_ble_eq_true rfl⟩ ?_
                      refine R_aload_n 142 rfl dX11_isDrawn_141 rfl ?_
                      refine R_getP 12 145 rfl dX11_isDrawn_142 rfl rfl fl_X11_22 (hP _ _ _ rfl) ?_
                      refine R_bipush 147 rfl dX11_isDrawn_145 (by decide) ?_
                      refine R_iald 6 148 rfl dX11_isDrawn_147 rfl (by first | rfl | omega) (by decide) (by decide) ?_
                      rw [h2]
                      refine R_icmp_gt 151 155 rfl rfl dX11_isDrawn_148 (show rg (ap (B.2.2 2 j) (B.2.2 2 k)) from ⟨by omega, by omega⟩) ⟨by omega, by omega⟩ (fun h148 => ?_) (fun h148 => ?_)
                      · refine R_iconst 156 rfl dX11_isDrawn_155 ?_
                        refine R_istore [_, _, _, _, _, _, _, _] 158 rfl dX11_isDrawn_156 rfl (by decide) ?_
                        refine R_iinc [_, _, _, _, _, _, _, _] 161 rfl dX11_isDrawn_158 rfl rfl (by decide) ?_
                        refine R_goto 17 rfl dX11_isDrawn_161 ?_
                        have e9 : (((pop ((B.2.2 2 j).toNat ^^^ (B.2.2 2 k).toNat) : Nat) : Int)) = ap (B.2.2 2 j) (B.2.2 2 k) := rfl
                        first
                          | (have e1 : sameP L B k j = false := by
                               rw [Bool.eq_false_iff]
                               intro q
                               have q2 := sp.mp q
                               first | exact h89 (ownN_iff.mpr q2.2.2) | omega
                             exact ih (by omega) _ _ _ _ _ hp (fun q => any_step (ha q) (by rcases a01 with rfl | rfl <;> simp [dP1, e1])) (fun q => all_step (hb q) (by rcases b01 with rfl | rfl <;> simp [dP2, e1])) a01 b01 hp0 (by omega))
                          | (have e1 : sameP L B k j = true := sp.mpr ⟨by omega, by omega, ownN_iff.mp h89⟩
                             refine ih (by omega) _ _ _ _ _ hp (fun q => any_step (ha q) ?_) (fun q => all_step (hb q) ?_) (by omega) (by omega) (by omega) (by omega)
                             · simp only [dP1, e1, Bool.true_and, Bool.not_eq_true', decide_eq_false_iff_not, Bool.not_eq_false', decide_eq_true_eq, true_and]; omega
                             · simp only [dP2, e1, Bool.not_true, Bool.false_or, decide_eq_false_iff_not, decide_eq_true_eq, true_and]; omega)
                      · refine R_iconst 152 rfl dX11_isDrawn_151 ?_
                        refine R_goto 156 rfl dX11_isDrawn_152 ?_
                        refine R_istore [_, _, _, _, _, _, _, _] 158 rfl dX11_isDrawn_156 rfl (by decide) ?_
                        refine R_iinc [_, _, _, _, _, _, _, _] 161 rfl dX11_isDrawn_158 rfl rfl (by decide) ?_
                        refine R_goto 17 rfl dX11_isDrawn_161 ?_
                        have e9 : (((pop ((B.2.2 2 j).toNat ^^^ (B.2.2 2 k).toNat) : Nat) : Int)) = ap (B.2.2 2 j) (B.2.2 2 k) := rfl
                        first
                          | (have e1 : sameP L B k j = false := by
                               rw [Bool.eq_false_iff]
                               intro q
                               have q2 := sp.mp q
                               first | exact h89 (ownN_iff.mpr q2.2.2) | omega
                             exact ih (by omega) _ _ _ _ _ hp (fun q => any_step (ha q) (by rcases a01 with rfl | rfl <;> simp [dP1, e1])) (fun q => all_step (hb q) (by rcases b01 with rfl | rfl <;> simp [dP2, e1])) a01 b01 hp0 (by omega))
                          | (have e1 : sameP L B k j = true := sp.mpr ⟨by omega, by omega, ownN_iff.mp h89⟩
                             refine ih (by omega) _ _ _ _ _ hp (fun q => any_step (ha q) ?_) (fun q => all_step (hb q) ?_) (by omega) (by omega) (by omega) (by omega)
                             · simp only [dP1, e1, Bool.true_and, Bool.not_eq_true', decide_eq_false_iff_not, Bool.not_eq_false', decide_eq_true_eq, true_and]; omega
                             · simp only [dP2, e1, Bool.not_true, Bool.false_or, decide_eq_false_iff_not, decide_eq_true_eq, true_and]; omega)
          · refine R_iconst 49 rfl dX11_isDrawn_48 ?_
            refine R_goto 53 rfl dX11_isDrawn_49 ?_
            refine R_istore [_, _, _, _, _, _, _, _] 55 rfl dX11_isDrawn_53 rfl (by decide) ?_
            refine R_iload 57 rfl dX11_isDrawn_55 rfl ?_
            refine R_if_ne 60 158 rfl rfl dX11_isDrawn_57 (by first | assumption | exact ⟨by omega, by omega⟩) (fun h57 => ?_) (fun h57 => ?_)
            rotate_left
            · exact absurd h57 (by omega)
            refine R_iinc [_, _, _, _, _, _, _, _] 161 rfl dX11_isDrawn_158 rfl rfl (by decide) ?_
            refine R_goto 17 rfl dX11_isDrawn_161 ?_
            have e9 : (((pop ((B.2.2 2 j).toNat ^^^ (B.2.2 2 k).toNat) : Nat) : Int)) = ap (B.2.2 2 j) (B.2.2 2 k) := rfl
            first
              | (have e1 : sameP L B k j = false := by
                   rw [Bool.eq_false_iff]
                   intro q
                   have q2 := sp.mp q
                   first | exact h89 (ownN_iff.mpr q2.2.2) | omega
                 exact ih (by omega) _ _ _ _ _ hp (fun q => any_step (ha q) (by rcases a01 with rfl | rfl <;> simp [dP1, e1])) (fun q => all_step (hb q) (by rcases b01 with rfl | rfl <;> simp [dP2, e1])) a01 b01 hp0 (by omega))
              | (have e1 : sameP L B k j = true := sp.mpr ⟨by omega, by omega, ownN_iff.mp h89⟩
                 refine ih (by omega) _ _ _ _ _ hp (fun q => any_step (ha q) ?_) (fun q => all_step (hb q) ?_) (by omega) (by omega) (by omega) (by omega)
                 · simp only [dP1, e1, Bool.true_and, Bool.not_eq_true', decide_eq_false_iff_not, Bool.not_eq_false', decide_eq_true_eq, true_and]; omega
                 · simp only [dP2, e1, Bool.not_true, Bool.false_or, decide_eq_false_iff_not, decide_eq_true_eq, true_and]; omega)
  refine R_aload_n 1 rfl dX11_isDrawn_0 rfl ?_
  refine R_iload_n 2 rfl dX11_isDrawn_1 rfl ?_
  refine R_iload_n 3 rfl dX11_isDrawn_2 rfl ?_
  refine R_iconst 4 rfl dX11_isDrawn_3 ?_
  refine R_callV_i (M' := mX11_of5) 7 rfl dX11_isDrawn_4 ml_X11_198 kmX11_of5 im_X11_of5 se_X11_of5 rfl ⟨by decide, rfl⟩ (c_X11_of5 _ _ _ k 3 hR (by omega) (by omega) (by omega) (by omega) (by omega)) rfl rfl ⟨Nat.le_of_ble_eq_true rfl, Nat.le_of_ble_eq_true rfl⟩ (Nat.le_of_ble_eq_true rfl) ⟨Nat.le_of_ble_eq_true rfl, Nat.le_of_ble_eq_true rfl⟩ ?_
  refine R_istore_n [_, _, _, _, _, _, _, _] 8 rfl dX11_isDrawn_7 rfl (by decide) ?_
  refine R_iconst 9 rfl dX11_isDrawn_8 ?_
  refine R_istore [_, _, _, _, _, _, _, _] 11 rfl dX11_isDrawn_9 rfl (by decide) ?_
  refine R_iconst 12 rfl dX11_isDrawn_11 ?_
  refine R_istore [_, _, _, _, _, _, _, _] 14 rfl dX11_isDrawn_12 rfl (by decide) ?_
  refine R_iconst 15 rfl dX11_isDrawn_14 ?_
  refine R_istore [_, _, _, _, _, _, _, _] 17 rfl dX11_isDrawn_15 rfl (by decide) ?_
  exact Lp 0 (by omega) _ _ _ _ _ rfl (fun _ => rfl) (fun _ => rfl) (Or.inl rfl) (Or.inr rfl) (fun _ => rfl) rfl
end
