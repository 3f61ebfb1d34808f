section
variable {Γ : GX} {m m' : Mem} {B B' : Bk} {L : Ld} {ch ch' : Cs}
theorem c_X11_isIn (cz z : Int) (c k : Nat) (hR : RW L B ch m) (hc : cz = (c : Int)) (hc2 : c < 2) (hz : z = (k : Int)) (hk : k < 2 * B.1) : C Γ mX11_isIn 1 40 0 0 [vr 96, vi cz, vi z] SH m (Qi SH m (pI (inC B ch c k = true))) := by
  refine C_of_R rfl (Nat.le_of_ble_eq_true rfl) ?_
  have hP := hR.1.1
  have rc := hR.rc
  have hO := hR.1.2.2.2.2.1
  have h3 := hO.1
  have hl := hR.1.2.2.1.1
  have h4 := hO.2.1 (k / 2) (by omega)
  have h5 := hR.1.2.2.2.2.2.2 c hc2
  have c0 : m.1 107 (0 + 640 + 5 * c + 0) = ch c 0 := rc c hc2 0 (by omega)
  have c1 : m.1 107 (0 + 640 + 5 * c + 1) = ch c 1 := rc c hc2 1 (by omega)
  have c2 : m.1 107 (0 + 640 + 5 * c + 2) = ch c 2 := rc c hc2 2 (by omega)
  have c3 : m.1 107 (0 + 640 + 5 * c + 3) = ch c 3 := rc c hc2 3 (by omega)
  have c4 : m.1 107 (0 + 640 + 5 * c + 4) = ch c 4 := rc c hc2 4 (by omega)
  have t0 := tb_2 (ch c 0 / 2 ^ (B.2.1 0 (k / 2)).toNat)
  have t1 := tb_2 (ch c 3 / 2 ^ (k % 2))
  have t2 := tb_2 (ch c 4 / 2 ^ (B.2.1 2 (k / 2)).toNat)
  refine R_sipush 3 rfl dX11_isIn_0 (by decide) ?_
  refine R_iconst 4 rfl dX11_isIn_3 ?_
  refine R_iload_n 5 rfl dX11_isIn_4 rfl ?_
  refine R_imul 6 rfl dX11_isIn_5 ?_
  refine R_iadd 7 rfl dX11_isIn_6 ?_
  refine R_istore_n [_, _, _, _, _] 8 rfl dX11_isIn_7 rfl (by decide) ?_
  refine R_iload_n 9 rfl dX11_isIn_8 rfl ?_
  refine R_iconst 10 rfl dX11_isIn_9 ?_
  refine R_idiv_p 11 rfl dX11_isIn_10 (by first | assumption | exact ⟨by omega, by omega⟩) (by first | assumption | exact ⟨by omega, by omega⟩) (by omega) (by omega) ?_
  refine R_istore [_, _, _, _, _] 13 rfl dX11_isIn_11 rfl (by decide) ?_
  refine R_aload_n 14 rfl dX11_isIn_13 rfl ?_
  refine R_getP 19 17 rfl dX11_isIn_14 rfl rfl fl_X11_40 (hP _ _ _ rfl) ?_
  refine R_iload_n 18 rfl dX11_isIn_17 rfl ?_
  refine R_iald (0 + 640 + 5 * c + 0) 19 rfl dX11_isIn_18 rfl (by first | rfl | omega) (by omega) (by decide) ?_
  rw [c0]
  refine R_aload_n 20 rfl dX11_isIn_19 rfl ?_
  refine R_iload 22 rfl dX11_isIn_20 rfl ?_
  refine R_iconst 23 rfl dX11_isIn_22 ?_
  refine R_callV_i (M' := mX11_its) 26 rfl dX11_isIn_23 ml_X11_153 kmX11_its im_X11_its se_X11_its rfl ⟨by decide, rfl⟩ (c_X11_its _ _ (k / 2) 0 hR.1 (by omega) (by omega) (by omega) (by omega)) rfl rfl ⟨Nat.le_of_ble_eq_true rfl, Nat.le_of_ble_eq_true rfl⟩ (Nat.le_of_ble_eq_true rfl) ⟨Nat.le_of_ble_eq_true rfl, Nat.le_of_ble_eq_true rfl⟩ ?_
  refine R_ishr 27 rfl dX11_isIn_26 (by first | assumption | exact ⟨by omega, by omega⟩) (by omega) (by omega) ?_
  refine R_iconst 28 rfl dX11_isIn_27 ?_
  refine R_iand1 29 rfl dX11_isIn_28 ?_
  refine R_iconst 30 rfl dX11_isIn_29 ?_
  refine R_icmp_ne 33 109 rfl rfl dX11_isIn_30 (by first | assumption | exact ⟨by omega, by omega⟩) (by first | assumption | exact ⟨by omega, by omega⟩) (fun h30 => ?_) (fun h30 => ?_)
  · refine R_iconst 110 rfl dX11_isIn_109 ?_
    refine R_zreturn dX11_isIn_110 rfl (by first | decide | exact pI_01 _) ?_
    first | exact Qi_mk (pI_1 (inC_iff.mpr (by omega))) | exact Qi_mk (pI_0 (fun q => by have := inC_iff.mp q; omega))
  · refine R_aload_n 34 rfl dX11_isIn_33 rfl ?_
    refine R_iload 36 rfl dX11_isIn_34 rfl ?_
    refine R_iconst 37 rfl dX11_isIn_36 ?_
    refine R_callV_i (M' := mX11_its) 40 rfl dX11_isIn_37 ml_X11_153 kmX11_its im_X11_its se_X11_its rfl ⟨by decide, rfl⟩ (c_X11_its _ _ (k / 2) 1 hR.1 (by omega) (by omega) (by omega) (by omega)) rfl rfl ⟨Nat.le_of_ble_eq_true rfl, Nat.le_of_ble_eq_true rfl⟩ (Nat.le_of_ble_eq_true rfl) ⟨Nat.le_of_ble_eq_true rfl, Nat.le_of_ble_eq_true rfl⟩ ?_
    refine R_i2l 41 rfl dX11_isIn_40 (by first | assumption | exact ⟨by omega, by omega⟩) ?_
    refine R_aload_n 42 rfl dX11_isIn_41 rfl ?_
    refine R_getP 19 45 rfl dX11_isIn_42 rfl rfl fl_X11_40 (hP _ _ _ rfl) ?_
    refine R_iload_n 46 rfl dX11_isIn_45 rfl ?_
    refine R_iconst 47 rfl dX11_isIn_46 ?_
    refine R_iadd 48 rfl dX11_isIn_47 ?_
    refine R_iald (0 + 640 + 5 * c + 1) 49 rfl dX11_isIn_48 rfl (by first | rfl | omega) (by omega) (by decide) ?_
    rw [c1]
    refine R_i2l 50 rfl dX11_isIn_49 (by first | assumption | exact ⟨by omega, by omega⟩) ?_
    refine R_aload_n 51 rfl dX11_isIn_50 rfl ?_
    refine R_getP 19 54 rfl dX11_isIn_51 rfl rfl fl_X11_40 (hP _ _ _ rfl) ?_
    refine R_iload_n 55 rfl dX11_isIn_54 rfl ?_
    refine R_iconst 56 rfl dX11_isIn_55 ?_
    refine R_iadd 57 rfl dX11_isIn_56 ?_
    refine R_iald (0 + 640 + 5 * c + 2) 58 rfl dX11_isIn_57 rfl (by first | rfl | omega) (by omega) (by decide) ?_
    rw [c2]
    refine R_i2l 59 rfl dX11_isIn_58 (by first | assumption | exact ⟨by omega, by omega⟩) ?_
    refine R_callS_i (M' := mX11_in) 62 rfl dX11_isIn_59 ml_X11_63 kmX11_in st_X11_in (c_X11_in _ _ _ (by first | assumption | exact ⟨by omega, by omega⟩ | exact rg_L (by assumption)) (by first | assumption | exact ⟨by omega, by omega⟩ | exact rg_L (by assumption)) (by first | assumption | exact ⟨by omega, by omega⟩ | exact rg_L (by assumption))) rfl rfl ⟨Nat.le_of_ble_eq_true rfl, Nat.le_of_ble_eq_true rfl⟩ (Nat.le_of_ble_eq_true rfl) ⟨Nat.le_of_ble_eq_true rfl, Nat.le_of_ble_eq_true rfl⟩ ?_
    refine R_ifp_eq 65 109 rfl rfl dX11_isIn_62 (fun h62 => ?_) (fun h62 => ?_)
    · refine R_iconst 110 rfl dX11_isIn_109 ?_
      refine R_zreturn dX11_isIn_110 rfl (by first | decide | exact pI_01 _) ?_
      first | exact Qi_mk (pI_1 (inC_iff.mpr (by omega))) | exact Qi_mk (pI_0 (fun q => by have := inC_iff.mp q; omega))
    · refine R_aload_n 66 rfl dX11_isIn_65 rfl ?_
      refine R_getP 19 69 rfl dX11_isIn_66 rfl rfl fl_X11_40 (hP _ _ _ rfl) ?_
      refine R_iload_n 70 rfl dX11_isIn_69 rfl ?_
      refine R_iconst 71 rfl dX11_isIn_70 ?_
      refine R_iadd 72 rfl dX11_isIn_71 ?_
      refine R_iald (0 + 640 + 5 * c + 3) 73 rfl dX11_isIn_72 rfl (by first | rfl | omega) (by omega) (by decide) ?_
      rw [c3]
      refine R_iload_n 74 rfl dX11_isIn_73 rfl ?_
      refine R_iconst 75 rfl dX11_isIn_74 ?_
      refine R_irem_p 76 rfl dX11_isIn_75 (by first | assumption | exact ⟨by omega, by omega⟩) (by first | assumption | exact ⟨by omega, by omega⟩) (by omega) (by omega) ?_
      refine R_top (b := ((k % 2 : Nat) : Int)) (by omega) ?_
      refine R_ishr 77 rfl dX11_isIn_76 (by first | assumption | exact ⟨by omega, by omega⟩) (by omega) (by omega) ?_
      rw [Int.toNat_natCast]
      refine R_iconst 78 rfl dX11_isIn_77 ?_
      refine R_iand1 79 rfl dX11_isIn_78 ?_
      refine R_iconst 80 rfl dX11_isIn_79 ?_
      refine R_icmp_ne 83 109 rfl rfl dX11_isIn_80 (by first | assumption | exact ⟨by omega, by omega⟩) (by first | assumption | exact ⟨by omega, by omega⟩) (fun h80 => ?_) (fun h80 => ?_)
      · refine R_iconst 110 rfl dX11_isIn_109 ?_
        refine R_zreturn dX11_isIn_110 rfl (by first | decide | exact pI_01 _) ?_
        first | exact Qi_mk (pI_1 (inC_iff.mpr (by omega))) | exact Qi_mk (pI_0 (fun q => by have := inC_iff.mp q; omega))
      · refine R_aload_n 84 rfl dX11_isIn_83 rfl ?_
        refine R_getP 19 87 rfl dX11_isIn_84 rfl rfl fl_X11_40 (hP _ _ _ rfl) ?_
        refine R_iload_n 88 rfl dX11_isIn_87 rfl ?_
        refine R_iconst 89 rfl dX11_isIn_88 ?_
        refine R_iadd 90 rfl dX11_isIn_89 ?_
        refine R_iald (0 + 640 + 5 * c + 4) 91 rfl dX11_isIn_90 rfl (by first | rfl | omega) (by omega) (by decide) ?_
        rw [c4]
        refine R_aload_n 92 rfl dX11_isIn_91 rfl ?_
        refine R_iload 94 rfl dX11_isIn_92 rfl ?_
        refine R_iconst 95 rfl dX11_isIn_94 ?_
        refine R_callV_i (M' := mX11_its) 98 rfl dX11_isIn_95 ml_X11_153 kmX11_its im_X11_its se_X11_its rfl ⟨by decide, rfl⟩ (c_X11_its _ _ (k / 2) 2 hR.1 (by omega) (by omega) (by omega) (by omega)) rfl rfl ⟨Nat.le_of_ble_eq_true rfl, Nat.le_of_ble_eq_true rfl⟩ (Nat.le_of_ble_eq_true rfl) ⟨Nat.le_of_ble_eq_true rfl, Nat.le_of_ble_eq_true rfl⟩ ?_
        refine R_ishr 99 rfl dX11_isIn_98 (by first | assumption | exact ⟨by omega, by omega⟩) (by omega) (by omega) ?_
        refine R_iconst 100 rfl dX11_isIn_99 ?_
        refine R_iand1 101 rfl dX11_isIn_100 ?_
        refine R_iconst 102 rfl dX11_isIn_101 ?_
        refine R_icmp_ne 105 109 rfl rfl dX11_isIn_102 (by first | assumption | exact ⟨by omega, by omega⟩) (by first | assumption | exact ⟨by omega, by omega⟩) (fun h102 => ?_) (fun h102 => ?_)
        · refine R_iconst 110 rfl dX11_isIn_109 ?_
          refine R_zreturn dX11_isIn_110 rfl (by first | decide | exact pI_01 _) ?_
          first | exact Qi_mk (pI_1 (inC_iff.mpr (by omega))) | exact Qi_mk (pI_0 (fun q => by have := inC_iff.mp q; omega))
        · refine R_iconst 106 rfl dX11_isIn_105 ?_
          refine R_goto 110 rfl dX11_isIn_106 ?_
          refine R_zreturn dX11_isIn_110 rfl (by first | decide | exact pI_01 _) ?_
          first | exact Qi_mk (pI_1 (inC_iff.mpr (by omega))) | exact Qi_mk (pI_0 (fun q => by have := inC_iff.mp q; omega))
theorem c_X11_isAble (z : Int) (k : Nat) (hR : RZ L B ch m) (hz : z = (k : Int)) (hk : k < 2 * B.1) : C Γ mX11_isAble 0 0 0 0 [vr 96, vi z] SH m (Qi SH m (pI (abl L B k = true))) := by
  refine C_of_R rfl (Nat.le_of_ble_eq_true rfl) ?_
  have hP := hR.1.1
  have h1 := hR.2.2 k hk
  have h2 := kd_rg L B k
  have h3 := hR.1.2.2.2.2.1.1
  have e : abl L B k = true ↔ (kd L B k = 2 ∨ kd L B k = 3) := by simp [abl]
  refine R_aload_n 1 rfl dX11_isAble_0 rfl ?_
  refine R_getP 21 4 rfl dX11_isAble_1 rfl rfl fl_X11_43 (hP _ _ _ rfl) ?_
  refine R_iload_n 5 rfl dX11_isAble_4 rfl ?_
  refine R_iald k 6 rfl dX11_isAble_5 rfl (by first | rfl | omega) (by omega) (by decide) ?_
  refine R_iconst 7 rfl dX11_isAble_6 ?_
  refine R_icmp_eq 10 20 rfl rfl dX11_isAble_7 (by first | assumption | exact ⟨by omega, by omega⟩) (by first | assumption | exact ⟨by omega, by omega⟩) (fun h7 => ?_) (fun h7 => ?_)
  · refine R_iconst 21 rfl dX11_isAble_20 ?_
    refine R_goto 25 rfl dX11_isAble_21 ?_
    refine R_zreturn dX11_isAble_25 rfl (by first | decide | exact pI_01 _) ?_
    first | exact Qi_mk (pI_1 (e.mpr (by omega))) | exact Qi_mk (pI_0 (fun q => by have := e.mp q; omega))
  · refine R_aload_n 11 rfl dX11_isAble_10 rfl ?_
    refine R_getP 21 14 rfl dX11_isAble_11 rfl rfl fl_X11_43 (hP _ _ _ rfl) ?_
    refine R_iload_n 15 rfl dX11_isAble_14 rfl ?_
    refine R_iald k 16 rfl dX11_isAble_15 rfl (by first | rfl | omega) (by omega) (by decide) ?_
    refine R_iconst 17 rfl dX11_isAble_16 ?_
    refine R_icmp_ne 20 24 rfl rfl dX11_isAble_17 (by first | assumption | exact ⟨by omega, by omega⟩) (by first | assumption | exact ⟨by omega, by omega⟩) (fun h17 => ?_) (fun h17 => ?_)
    · refine R_iconst 25 rfl dX11_isAble_24 ?_
      refine R_zreturn dX11_isAble_25 rfl (by first | decide | exact pI_01 _) ?_
      first | exact Qi_mk (pI_1 (e.mpr (by omega))) | exact Qi_mk (pI_0 (fun q => by have := e.mp q; omega))
    · refine R_iconst 21 rfl dX11_isAble_20 ?_
      refine R_goto 25 rfl dX11_isAble_21 ?_
      refine R_zreturn dX11_isAble_25 rfl (by first | decide | exact pI_01 _) ?_
      first | exact Qi_mk (pI_1 (e.mpr (by omega))) | exact Qi_mk (pI_0 (fun q => by have := e.mp q; omega))
theorem c_X11_groupOf (z g : Int) (k : Nat) (hR : RS L B ch m) (hz : z = (k : Int)) (hk : k < 2 * B.1) (hg : 0 ≤ g ∧ g ≤ 3) : C Γ mX11_groupOf 1 40 0 0 [vr 96, vi z, vi g] SH m (Qi SH m (grp B k g)) := by
  refine C_of_R rfl (Nat.le_of_ble_eq_true rfl) ?_
  have h3 := hR.2.2.2.2.1.1
  refine R_iload_n 1 rfl dX11_groupOf_0 rfl ?_
  refine R_iconst 2 rfl dX11_groupOf_1 ?_
  refine R_idiv_p 3 rfl dX11_groupOf_2 (by first | assumption | exact ⟨by omega, by omega⟩) (by first | assumption | exact ⟨by omega, by omega⟩) (by omega) (by omega) ?_
  refine R_istore_n [_, _, _, _] 4 rfl dX11_groupOf_3 rfl (by decide) ?_
  refine R_iload_n 5 rfl dX11_groupOf_4 rfl ?_
  refine R_if_ne 8 17 rfl rfl dX11_groupOf_5 (by first | assumption | exact ⟨by omega, by omega⟩) (fun h5 => ?_) (fun h5 => ?_)
  · refine R_iload_n 18 rfl dX11_groupOf_17 rfl ?_
    refine R_iconst 19 rfl dX11_groupOf_18 ?_
    refine R_icmp_ne 22 31 rfl rfl dX11_groupOf_19 (by first | assumption | exact ⟨by omega, by omega⟩) (by first | assumption | exact ⟨by omega, by omega⟩) (fun h19 => ?_) (fun h19 => ?_)
    · refine R_iload_n 32 rfl dX11_groupOf_31 rfl ?_
      refine R_iconst 33 rfl dX11_groupOf_32 ?_
      refine R_icmp_ne 36 42 rfl rfl dX11_groupOf_33 (by first | assumption | exact ⟨by omega, by omega⟩) (by first | assumption | exact ⟨by omega, by omega⟩) (fun h33 => ?_) (fun h33 => ?_)
      · refine R_aload_n 43 rfl dX11_groupOf_42 rfl ?_
        refine R_iload_n 44 rfl dX11_groupOf_43 rfl ?_
        refine R_iload_n 45 rfl dX11_groupOf_44 rfl ?_
        refine R_iconst 46 rfl dX11_groupOf_45 ?_
        refine R_irem_p 47 rfl dX11_groupOf_46 (by first | assumption | exact ⟨by omega, by omega⟩) (by first | assumption | exact ⟨by omega, by omega⟩) (by omega) (by omega) ?_
        refine R_iconst 48 rfl dX11_groupOf_47 ?_
        refine R_callV_i (M' := mX11_of5) 51 rfl dX11_groupOf_48 ml_X11_198 kmX11_of5 im_X11_of5 se_X11_of5 rfl ⟨by decide, rfl⟩ (c_X11_of5 _ _ _ k 4 hR (by omega) (by omega) (by omega) (by omega) (by omega)) rfl rfl ⟨Nat.le_of_ble_eq_true rfl, Nat.le_of_ble_eq_true rfl⟩ (Nat.le_of_ble_eq_true rfl) ⟨Nat.le_of_ble_eq_true rfl, Nat.le_of_ble_eq_true rfl⟩ ?_
        refine R_ireturn dX11_groupOf_51 rfl ?_
        exact Qi_mk (by unfold grp; first | rw [if_pos (by omega)] | rw [if_neg (by omega), if_pos (by omega)] | (rw [if_neg (by omega), if_neg (by omega), if_pos (by omega)]; omega) | rw [if_neg (by omega), if_neg (by omega), if_neg (by omega)])
      · refine R_iload_n 37 rfl dX11_groupOf_36 rfl ?_
        refine R_iconst 38 rfl dX11_groupOf_37 ?_
        refine R_irem_p 39 rfl dX11_groupOf_38 (by first | assumption | exact ⟨by omega, by omega⟩) (by first | assumption | exact ⟨by omega, by omega⟩) (by omega) (by omega) ?_
        refine R_goto 51 rfl dX11_groupOf_39 ?_
        refine R_ireturn dX11_groupOf_51 rfl ?_
        exact Qi_mk (by unfold grp; first | rw [if_pos (by omega)] | rw [if_neg (by omega), if_pos (by omega)] | (rw [if_neg (by omega), if_neg (by omega), if_pos (by omega)]; omega) | rw [if_neg (by omega), if_neg (by omega), if_neg (by omega)])
    · refine R_aload_n 23 rfl dX11_groupOf_22 rfl ?_
      refine R_iload_n 24 rfl dX11_groupOf_23 rfl ?_
      refine R_iconst 25 rfl dX11_groupOf_24 ?_
      refine R_callV_i (M' := mX11_its) 28 rfl dX11_groupOf_25 ml_X11_153 kmX11_its im_X11_its se_X11_its rfl ⟨by decide, rfl⟩ (c_X11_its _ _ (k / 2) 2 hR (by omega) (by omega) (by omega) (by omega)) rfl rfl ⟨Nat.le_of_ble_eq_true rfl, Nat.le_of_ble_eq_true rfl⟩ (Nat.le_of_ble_eq_true rfl) ⟨Nat.le_of_ble_eq_true rfl, Nat.le_of_ble_eq_true rfl⟩ ?_
      refine R_goto 51 rfl dX11_groupOf_28 ?_
      refine R_ireturn dX11_groupOf_51 rfl ?_
      exact Qi_mk (by unfold grp; first | rw [if_pos (by omega)] | rw [if_neg (by omega), if_pos (by omega)] | (rw [if_neg (by omega), if_neg (by omega), if_pos (by omega)]; omega) | rw [if_neg (by omega), if_neg (by omega), if_neg (by omega)])
  · refine R_aload_n 9 rfl dX11_groupOf_8 rfl ?_
    refine R_iload_n 10 rfl dX11_groupOf_9 rfl ?_
    refine R_iconst 11 rfl dX11_groupOf_10 ?_
    refine R_callV_i (M' := mX11_its) 14 rfl dX11_groupOf_11 ml_X11_153 kmX11_its im_X11_its se_X11_its rfl ⟨by decide, rfl⟩ (c_X11_its _ _ (k / 2) 0 hR (by omega) (by omega) (by omega) (by omega)) rfl rfl ⟨Nat.le_of_ble_eq_true rfl, Nat.le_of_ble_eq_true rfl⟩ (Nat.le_of_ble_eq_true rfl) ⟨Nat.le_of_ble_eq_true rfl, Nat.le_of_ble_eq_true rfl⟩ ?_
    refine R_goto 51 rfl dX11_groupOf_14 ?_
    refine R_ireturn dX11_groupOf_51 rfl ?_
    exact Qi_mk (by unfold grp; first | rw [if_pos (by omega)] | rw [if_neg (by omega), if_pos (by omega)] | (rw [if_neg (by omega), if_neg (by omega), if_pos (by omega)]; omega) | rw [if_neg (by omega), if_neg (by omega), if_neg (by omega)])
theorem grp_rg2 {np : Int} {k : Nat} {g : Int} (hO : BkOk np B) (hk : k < 2 * B.1) : 0 ≤ grp B k g ∧ (grp B k g < np ∨ grp B k g ≤ 7) := by
  have h1 := hO.2.1 (k / 2) (by omega)
  have h2 := hO.2.2 k hk
  unfold grp
  split
  · omega
  · split
    · omega
    · split <;> omega
theorem tyP_iff {c k : Nat} {gr g : Int} : tyP B ch c gr g k = true ↔ (inC B ch c k = true ∧ (gr = -4 ∨ grp B k gr = g)) := by simp [tyP]
theorem tyQ_iff {c k : Nat} {gr g : Int} : tyQ L B ch c gr g k = true ↔ (tyP B ch c gr g k = true ∧ abl L B k = true) := by simp [tyQ]
theorem c_X11_tally (cz gr g : Int) (c : Nat) (hZ : RZ L B ch m) (hc : cz = (c : Int)) (hc2 : c < 2) (hg : gr = -4 ∨ 0 ≤ gr ∧ gr ≤ 3) (hg2 : rg g) : C Γ mX11_tally 2 80 0 0 [vr 96, vi cz, vi gr, vi g] SH m (QV SH (fun m' => Fm m m' ∧ RZ L B ch m' ∧ m'.1 96 22 = (cnt (tyP B ch c gr g) (2 * B.1) : Int) ∧ m'.1 96 23 = (cnt (tyQ L B ch c gr g) (2 * B.1) : Int))) := by
  refine C_of_R rfl (Nat.le_of_ble_eq_true rfl) ?_
  have h3 := hZ.1.2.2.2.2.1.1
  have hl := hZ.1.2.2.1.1
  have Lp : ∀ j : Nat, j ≤ 2 * B.1 → ∀ jz m1, jz = (j : Int) → Fm m m1 → RZ L B ch m1 → m1.1 96 22 = (cnt (tyP B ch c gr g) j : Int) → m1.1 96 23 = (cnt (tyQ L B ch c gr g) j : Int) → R Γ mX11_tally { frames := 2, cells := 0, slots := 0, locals := 80 } 0 0 (QV SH (fun m' => Fm m m' ∧ RZ L B ch m' ∧ m'.1 96 22 = (cnt (tyP B ch c gr g) (2 * B.1) : Int) ∧ m'.1 96 23 = (cnt (tyQ L B ch c gr g) (2 * B.1) : Int))) 0 0 13 [some (vr 96), some (vi cz), some (vi gr), some (vi g), some (vi jz)] [] SH m1 := by
    refine up_ind (2 * B.1) (fun j hj ih jz m1 hjz hf hZ1 h22 h23 => ?_)
    have hP := hZ1.1.1
    have hW := hZ1.w
    refine R_iload 15 rfl dX11_tally_13 rfl ?_
    refine R_iconst 16 rfl dX11_tally_15 ?_
    refine R_aload_n 17 rfl dX11_tally_16 rfl ?_
    refine R_callV_i (M' := mX11_size) 20 rfl dX11_tally_17 ml_X11_150 kmX11_size im_X11_size se_X11_size rfl ⟨by decide, rfl⟩ (c_X11_size hZ1.1) rfl rfl ⟨Nat.le_of_ble_eq_true rfl, Nat.le_of_ble_eq_true rfl⟩ (Nat.le_of_ble_eq_true rfl) ⟨Nat.le_of_ble_eq_true rfl, Nat.le_of_ble_eq_true rfl⟩ ?_
    refine R_imul 21 rfl dX11_tally_20 ?_
    refine R_icmp_ge 24 90 rfl rfl dX11_tally_21 (by first | assumption | exact ⟨by omega, by omega⟩) (by first | assumption | exact ⟨by omega, by omega⟩) (fun h21 => ?_) (fun h21 => ?_)
    · refine R_return dX11_tally_90 rfl ?_
      have ej : j = 2 * B.1 := by omega
      subst ej
      exact QV_mk ⟨hf, hZ1, h22, h23⟩
    · have gg := grp_rg2 (g := gr) hZ1.1.2.2.2.2.1 (k := j) (by omega)
      have e1 := tyP_iff (B := B) (ch := ch) (c := c) (k := j) (gr := gr) (g := g)
      have e2 := tyQ_iff (L := L) (B := B) (ch := ch) (c := c) (k := j) (gr := gr) (g := g)
      refine R_aload_n 25 rfl dX11_tally_24 rfl ?_
      refine R_iload_n 26 rfl dX11_tally_25 rfl ?_
      refine R_iload 28 rfl dX11_tally_26 rfl ?_
      refine R_callV_i (M' := mX11_isIn) 31 rfl dX11_tally_28 ml_X11_240 kmX11_isIn im_X11_isIn se_X11_isIn rfl ⟨by decide, rfl⟩ (c_X11_isIn _ _ c j hW (by omega) (by omega) (by omega) (by omega)) rfl rfl ⟨Nat.le_of_ble_eq_true rfl, Nat.le_of_ble_eq_true rfl⟩ (Nat.le_of_ble_eq_true rfl) ⟨Nat.le_of_ble_eq_true rfl, Nat.le_of_ble_eq_true rfl⟩ ?_
      refine R_ifp_eq 34 84 rfl rfl dX11_tally_31 (fun h31 => ?_) (fun h31 => ?_)
      · refine R_iinc [_, _, _, _, _] 87 rfl dX11_tally_84 rfl rfl (by decide) ?_
        refine R_goto 13 rfl dX11_tally_87 ?_
        first
          | (have p1 : tyP B ch c gr g j = true := e1.mpr ⟨h31, by omega⟩
             have c1 := cnt_y (p := tyP B ch c gr g) (n := j) p1
             first
               | (have q1 : tyQ L B ch c gr g j = true := e2.mpr ⟨p1, h72⟩
                  have c2 := cnt_y (p := tyQ L B ch c gr g) (n := j) q1
                  exact ih (by omega) _ _ (by omega) ((hf.f96 (by omega)).f96 (by omega)) ((hZ1.f96 (by omega)).f96 (by omega)) (by simp [setI]; omega) (by simp [setI]; omega))
               | (have q1 : ¬ tyQ L B ch c gr g j = true := fun q => h72 (e2.mp q).2
                  have c2 := cnt_n (p := tyQ L B ch c gr g) (n := j) q1
                  exact ih (by omega) _ _ (by omega) ((hf.f96 (by omega)).f96 (by omega)) ((hZ1.f96 (by omega)).f96 (by omega)) (by simp [setI]; omega) (by simp [setI]; omega)))
          | (have p1 : ¬ tyP B ch c gr g j = true := fun q => by have q2 := e1.mp q; first | exact h31 q2.1 | (have q3 := q2.2; omega)
             have c1 := cnt_n (p := tyP B ch c gr g) (n := j) p1
             have c2 := cnt_n (p := tyQ L B ch c gr g) (n := j) (fun q => p1 (e2.mp q).1)
             exact ih (by omega) _ _ (by omega) hf hZ1 (by omega) (by omega))
      · refine R_iload_n 35 rfl dX11_tally_34 rfl ?_
        refine R_bipush 37 rfl dX11_tally_35 (by decide) ?_
        refine R_icmp_eq 40 51 rfl rfl dX11_tally_37 (by first | assumption | exact ⟨by omega, by omega⟩) (by first | assumption | exact ⟨by omega, by omega⟩) (fun h37 => ?_) (fun h37 => ?_)
        · refine R_aload_n 52 rfl dX11_tally_51 rfl ?_
          refine R_dup 53 rfl dX11_tally_52 rfl ?_
          refine R_getI 22 56 rfl dX11_tally_53 rfl rfl fl_X11_234 ?_
          refine R_iconst 57 rfl dX11_tally_56 ?_
          refine R_iadd 58 rfl dX11_tally_57 ?_
          refine R_putI 22 61 rfl dX11_tally_58 rfl rfl fl_X11_234 ?_
          refine R_aload_n 62 rfl dX11_tally_61 rfl ?_
          refine R_dup 63 rfl dX11_tally_62 rfl ?_
          refine R_getI 23 66 rfl dX11_tally_63 rfl rfl fl_X11_237 ?_
          refine R_aload_n 67 rfl dX11_tally_66 rfl ?_
          refine R_iload 69 rfl dX11_tally_67 rfl ?_
          refine R_callV_i (M' := mX11_isAble) 72 rfl dX11_tally_69 ml_X11_246 kmX11_isAble im_X11_isAble se_X11_isAble rfl ⟨by decide, rfl⟩ (c_X11_isAble _ j (hZ1.f96 (by omega)) (by omega) (by omega)) rfl rfl ⟨Nat.le_of_ble_eq_true rfl, Nat.le_of_ble_eq_true rfl⟩ (Nat.le_of_ble_eq_true rfl) ⟨Nat.le_of_ble_eq_true rfl, Nat.le_of_ble_eq_true rfl⟩ ?_
          refine R_ifp_eq 75 79 rfl rfl dX11_tally_72 (fun h72 => ?_) (fun h72 => ?_)
          · refine R_iconst 80 rfl dX11_tally_79 ?_
            refine R_iadd 81 rfl dX11_tally_80 ?_
            refine R_putI 23 84 rfl dX11_tally_81 rfl rfl fl_X11_237 ?_
            refine R_iinc [_, _, _, _, _] 87 rfl dX11_tally_84 rfl rfl (by decide) ?_
            refine R_goto 13 rfl dX11_tally_87 ?_
            first
              | (have p1 : tyP B ch c gr g j = true := e1.mpr ⟨h31, by omega⟩
                 have c1 := cnt_y (p := tyP B ch c gr g) (n := j) p1
                 first
                   | (have q1 : tyQ L B ch c gr g j = true := e2.mpr ⟨p1, h72⟩
                      have c2 := cnt_y (p := tyQ L B ch c gr g) (n := j) q1
                      exact ih (by omega) _ _ (by omega) ((hf.f96 (by omega)).f96 (by omega)) ((hZ1.f96 (by omega)).f96 (by omega)) (by simp [setI]; omega) (by simp [setI]; omega))
                   | (have q1 : ¬ tyQ L B ch c gr g j = true := fun q => h72 (e2.mp q).2
                      have c2 := cnt_n (p := tyQ L B ch c gr g) (n := j) q1
                      exact ih (by omega) _ _ (by omega) ((hf.f96 (by omega)).f96 (by omega)) ((hZ1.f96 (by omega)).f96 (by omega)) (by simp [setI]; omega) (by simp [setI]; omega)))
              | (have p1 : ¬ tyP B ch c gr g j = true := fun q => by have q2 := e1.mp q; first | exact h31 q2.1 | (have q3 := q2.2; omega)
                 have c1 := cnt_n (p := tyP B ch c gr g) (n := j) p1
                 have c2 := cnt_n (p := tyQ L B ch c gr g) (n := j) (fun q => p1 (e2.mp q).1)
                 exact ih (by omega) _ _ (by omega) hf hZ1 (by omega) (by omega))
          · refine R_iconst 76 rfl dX11_tally_75 ?_
            refine R_goto 80 rfl dX11_tally_76 ?_
            refine R_iadd 81 rfl dX11_tally_80 ?_
            refine R_putI 23 84 rfl dX11_tally_81 rfl rfl fl_X11_237 ?_
            refine R_iinc [_, _, _, _, _] 87 rfl dX11_tally_84 rfl rfl (by decide) ?_
            refine R_goto 13 rfl dX11_tally_87 ?_
            first
              | (have p1 : tyP B ch c gr g j = true := e1.mpr ⟨h31, by omega⟩
                 have c1 := cnt_y (p := tyP B ch c gr g) (n := j) p1
                 first
                   | (have q1 : tyQ L B ch c gr g j = true := e2.mpr ⟨p1, h72⟩
                      have c2 := cnt_y (p := tyQ L B ch c gr g) (n := j) q1
                      exact ih (by omega) _ _ (by omega) ((hf.f96 (by omega)).f96 (by omega)) ((hZ1.f96 (by omega)).f96 (by omega)) (by simp [setI]; omega) (by simp [setI]; omega))
                   | (have q1 : ¬ tyQ L B ch c gr g j = true := fun q => h72 (e2.mp q).2
                      have c2 := cnt_n (p := tyQ L B ch c gr g) (n := j) q1
                      exact ih (by omega) _ _ (by omega) ((hf.f96 (by omega)).f96 (by omega)) ((hZ1.f96 (by omega)).f96 (by omega)) (by simp [setI]; omega) (by simp [setI]; omega)))
              | (have p1 : ¬ tyP B ch c gr g j = true := fun q => by have q2 := e1.mp q; first | exact h31 q2.1 | (have q3 := q2.2; omega)
                 have c1 := cnt_n (p := tyP B ch c gr g) (n := j) p1
                 have c2 := cnt_n (p := tyQ L B ch c gr g) (n := j) (fun q => p1 (e2.mp q).1)
                 exact ih (by omega) _ _ (by omega) hf hZ1 (by omega) (by omega))
        · refine R_aload_n 41 rfl dX11_tally_40 rfl ?_
          refine R_iload 43 rfl dX11_tally_41 rfl ?_
          refine R_iload_n 44 rfl dX11_tally_43 rfl ?_
          refine R_callV_i (M' := mX11_groupOf) 47 rfl dX11_tally_44 ml_X11_243 kmX11_groupOf im_X11_groupOf se_X11_groupOf rfl ⟨by decide, rfl⟩ (c_X11_groupOf _ _ j hZ1.1 (by omega) (by omega) (by omega)) rfl rfl ⟨Nat.le_of_ble_eq_true rfl, Nat.le_of_ble_eq_true rfl⟩ (Nat.le_of_ble_eq_true rfl) ⟨Nat.le_of_ble_eq_true rfl, Nat.le_of_ble_eq_true rfl⟩ ?_
          refine R_iload_n 48 rfl dX11_tally_47 rfl ?_
          refine R_icmp_ne 51 84 rfl rfl dX11_tally_48 (by first | assumption | exact ⟨by omega, by omega⟩) (by first | assumption | exact ⟨by omega, by omega⟩) (fun h48 => ?_) (fun h48 => ?_)
          · refine R_iinc [_, _, _, _, _] 87 rfl dX11_tally_84 rfl rfl (by decide) ?_
            refine R_goto 13 rfl dX11_tally_87 ?_
            first
              | (have p1 : tyP B ch c gr g j = true := e1.mpr ⟨h31, by omega⟩
                 have c1 := cnt_y (p := tyP B ch c gr g) (n := j) p1
                 first
                   | (have q1 : tyQ L B ch c gr g j = true := e2.mpr ⟨p1, h72⟩
                      have c2 := cnt_y (p := tyQ L B ch c gr g) (n := j) q1
                      exact ih (by omega) _ _ (by omega) ((hf.f96 (by omega)).f96 (by omega)) ((hZ1.f96 (by omega)).f96 (by omega)) (by simp [setI]; omega) (by simp [setI]; omega))
                   | (have q1 : ¬ tyQ L B ch c gr g j = true := fun q => h72 (e2.mp q).2
                      have c2 := cnt_n (p := tyQ L B ch c gr g) (n := j) q1
                      exact ih (by omega) _ _ (by omega) ((hf.f96 (by omega)).f96 (by omega)) ((hZ1.f96 (by omega)).f96 (by omega)) (by simp [setI]; omega) (by simp [setI]; omega)))
              | (have p1 : ¬ tyP B ch c gr g j = true := fun q => by have q2 := e1.mp q; first | exact h31 q2.1 | (have q3 := q2.2; omega)
                 have c1 := cnt_n (p := tyP B ch c gr g) (n := j) p1
                 have c2 := cnt_n (p := tyQ L B ch c gr g) (n := j) (fun q => p1 (e2.mp q).1)
                 exact ih (by omega) _ _ (by omega) hf hZ1 (by omega) (by omega))
          · refine R_aload_n 52 rfl dX11_tally_51 rfl ?_
            refine R_dup 53 rfl dX11_tally_52 rfl ?_
            refine R_getI 22 56 rfl dX11_tally_53 rfl rfl fl_X11_234 ?_
            refine R_iconst 57 rfl dX11_tally_56 ?_
            refine R_iadd 58 rfl dX11_tally_57 ?_
            refine R_putI 22 61 rfl dX11_tally_58 rfl rfl fl_X11_234 ?_
            refine R_aload_n 62 rfl dX11_tally_61 rfl ?_
            refine R_dup 63 rfl dX11_tally_62 rfl ?_
            refine R_getI 23 66 rfl dX11_tally_63 rfl rfl fl_X11_237 ?_
            refine R_aload_n 67 rfl dX11_tally_66 rfl ?_
            refine R_iload 69 rfl dX11_tally_67 rfl ?_
            refine R_callV_i (M' := mX11_isAble) 72 rfl dX11_tally_69 ml_X11_246 kmX11_isAble im_X11_isAble se_X11_isAble rfl ⟨by decide, rfl⟩ (c_X11_isAble _ j (hZ1.f96 (by omega)) (by omega) (by omega)) rfl rfl ⟨Nat.le_of_ble_eq_true rfl, Nat.le_of_ble_eq_true rfl⟩ (Nat.le_of_ble_eq_true rfl) ⟨Nat.le_of_ble_eq_true rfl, Nat.le_of_ble_eq_true rfl⟩ ?_
            refine R_ifp_eq 75 79 rfl rfl dX11_tally_72 (fun h72 => ?_) (fun h72 => ?_)
            · refine R_iconst 80 rfl dX11_tally_79 ?_
              refine R_iadd 81 rfl dX11_tally_80 ?_
              refine R_putI 23 84 rfl dX11_tally_81 rfl rfl fl_X11_237 ?_
              refine R_iinc [_, _, _, _, _] 87 rfl dX11_tally_84 rfl rfl (by decide) ?_
              refine R_goto 13 rfl dX11_tally_87 ?_
              first
                | (have p1 : tyP B ch c gr g j = true := e1.mpr ⟨h31, by omega⟩
                   have c1 := cnt_y (p := tyP B ch c gr g) (n := j) p1
                   first
                     | (have q1 : tyQ L B ch c gr g j = true := e2.mpr ⟨p1, h72⟩
                        have c2 := cnt_y (p := tyQ L B ch c gr g) (n := j) q1
                        exact ih (by omega) _ _ (by omega) ((hf.f96 (by omega)).f96 (by omega)) ((hZ1.f96 (by omega)).f96 (by omega)) (by simp [setI]; omega) (by simp [setI]; omega))
                     | (have q1 : ¬ tyQ L B ch c gr g j = true := fun q => h72 (e2.mp q).2
                        have c2 := cnt_n (p := tyQ L B ch c gr g) (n := j) q1
                        exact ih (by omega) _ _ (by omega) ((hf.f96 (by omega)).f96 (by omega)) ((hZ1.f96 (by omega)).f96 (by omega)) (by simp [setI]; omega) (by simp [setI]; omega)))
                | (have p1 : ¬ tyP B ch c gr g j = true := fun q => by have q2 := e1.mp q; first | exact h31 q2.1 | (have q3 := q2.2; omega)
                   have c1 := cnt_n (p := tyP B ch c gr g) (n := j) p1
                   have c2 := cnt_n (p := tyQ L B ch c gr g) (n := j) (fun q => p1 (e2.mp q).1)
                   exact ih (by omega) _ _ (by omega) hf hZ1 (by omega) (by omega))
            · refine R_iconst 76 rfl dX11_tally_75 ?_
              refine R_goto 80 rfl dX11_tally_76 ?_
              refine R_iadd 81 rfl dX11_tally_80 ?_
              refine R_putI 23 84 rfl dX11_tally_81 rfl rfl fl_X11_237 ?_
              refine R_iinc [_, _, _, _, _] 87 rfl dX11_tally_84 rfl rfl (by decide) ?_
              refine R_goto 13 rfl dX11_tally_87 ?_
              first
                | (have p1 : tyP B ch c gr g j = true := e1.mpr ⟨h31, by omega⟩
                   have c1 := cnt_y (p := tyP B ch c gr g) (n := j) p1
                   first
                     | (have q1 : tyQ L B ch c gr g j = true := e2.mpr ⟨p1, h72⟩
                        have c2 := cnt_y (p := tyQ L B ch c gr g) (n := j) q1
                        exact ih (by omega) _ _ (by omega) ((hf.f96 (by omega)).f96 (by omega)) ((hZ1.f96 (by omega)).f96 (by omega)) (by simp [setI]; omega) (by simp [setI]; omega))
                     | (have q1 : ¬ tyQ L B ch c gr g j = true := fun q => h72 (e2.mp q).2
                        have c2 := cnt_n (p := tyQ L B ch c gr g) (n := j) q1
                        exact ih (by omega) _ _ (by omega) ((hf.f96 (by omega)).f96 (by omega)) ((hZ1.f96 (by omega)).f96 (by omega)) (by simp [setI]; omega) (by simp [setI]; omega)))
                | (have p1 : ¬ tyP B ch c gr g j = true := fun q => by have q2 := e1.mp q; first | exact h31 q2.1 | (have q3 := q2.2; omega)
                   have c1 := cnt_n (p := tyP B ch c gr g) (n := j) p1
                   have c2 := cnt_n (p := tyQ L B ch c gr g) (n := j) (fun q => p1 (e2.mp q).1)
                   exact ih (by omega) _ _ (by omega) hf hZ1 (by omega) (by omega))
  refine R_aload_n 1 rfl dX11_tally_0 rfl ?_
  refine R_iconst 2 rfl dX11_tally_1 ?_
  refine R_putI 22 5 rfl dX11_tally_2 rfl rfl fl_X11_234 ?_
  refine R_aload_n 6 rfl dX11_tally_5 rfl ?_
  refine R_iconst 7 rfl dX11_tally_6 ?_
  refine R_putI 23 10 rfl dX11_tally_7 rfl rfl fl_X11_237 ?_
  refine R_iconst 11 rfl dX11_tally_10 ?_
  refine R_istore [_, _, _, _, _] 13 rfl dX11_tally_11 rfl (by decide) ?_
  exact Lp 0 (by omega) _ _ rfl ((Fm.rf.f96 (by omega)).f96 (by omega)) ((hZ.f96 (by omega)).f96 (by omega)) (by simp [setI, cnt]) (by simp [setI, cnt])
end
