def QM (L : Ld) (B : Bk) (ch : Cs) (m : Mem) (z : Int) : Option AV → Shp → Mem → Prop := QI SH (fun z' m' => z' = z ∧ Fm m m' ∧ RS L B ch m')
def QN (L : Ld) (B : Bk) (ch : Cs) (m : Mem) (z : Int) : Option AV → Shp → Mem → Prop := QL SH (fun z' m' => z' = z ∧ Fm m m' ∧ RS L B ch m')
section
variable {Γ : GX} {m m' : Mem} {B B' : Bk} {L : Ld} {ch ch' : Cs}
theorem c_X11_told (w : Int) (hR : RS L B ch m) (hw : rg w) : C Γ mX11_told 1 40 0 0 [vr 96, vi w] SH m (QM L B ch m (a_told L w)) := by
  refine C_of_R rfl (Nat.le_of_ble_eq_true rfl) ?_
  have hP := hR.1
  refine R_iload_n 1 rfl dX11_told_0 rfl ?_
  refine R_i2l 2 rfl dX11_told_1 (by first | assumption | exact ⟨by omega, by omega⟩) ?_
  refine R_lconst 3 rfl dX11_told_2 ?_
  refine R_topL (b := 0) rfl ?_
  refine R_ldc2 (10) 6 rfl dX11_told_3 kl_X11_142 (by decide) ?_
  refine R_callS_i (M' := mX11_in) 9 rfl dX11_told_6 ml_X11_63 kmX11_in st_X11_in (c_X11_in _ _ _ (by first | assumption | exact ⟨by omega, by omega⟩ | exact rg_L (by assumption)) (by first | assumption | exact ⟨by omega, by omega⟩ | exact rg_L (by assumption)) (by first | assumption | exact ⟨by omega, by omega⟩ | exact rg_L (by assumption))) rfl rfl ⟨Nat.le_of_ble_eq_true rfl, Nat.le_of_ble_eq_true rfl⟩ (Nat.le_of_ble_eq_true rfl) ⟨Nat.le_of_ble_eq_true rfl, Nat.le_of_ble_eq_true rfl⟩ ?_
  refine R_ifp_eq 12 21 rfl rfl dX11_told_9 (fun h9 => ?_) (fun h9 => ?_)
  · refine R_iconst 22 rfl dX11_told_21 ?_
    refine R_ireturn dX11_told_22 rfl ?_
    first | exact QI_mk ⟨by unfold a_told; rw [if_pos (by omega)]; exact hR.2.1.1 w.toNat (by omega), Fm.rf, hR⟩ | exact QI_mk ⟨by unfold a_told; rw [if_neg (by omega)], Fm.rf, hR⟩
  · refine R_aload_n 13 rfl dX11_told_12 rfl ?_
    refine R_getP 12 16 rfl dX11_told_13 rfl rfl fl_X11_22 (hP _ _ _ rfl) ?_
    refine R_iload_n 17 rfl dX11_told_16 rfl ?_
    refine R_iald w.toNat 18 rfl dX11_told_17 rfl (by first | rfl | omega) (by omega) (by decide) ?_
    refine R_goto 22 rfl dX11_told_18 ?_
    refine R_ireturn dX11_told_22 rfl ?_
    first | exact QI_mk ⟨by unfold a_told; rw [if_pos (by omega)]; exact hR.2.1.1 w.toNat (by omega), Fm.rf, hR⟩ | exact QI_mk ⟨by unfold a_told; rw [if_neg (by omega)], Fm.rf, hR⟩
theorem c_X11_isMark (z s : Int) (hR : RS L B ch m) (hz : rg z) (hs : rg s) : C Γ mX11_isMark 1 40 0 0 [vr 96, vi z, vi s] SH m (Qi SH m (pI ((0 ≤ z ∧ z < B.1) ∧ 0 ≤ s ∧ s ≤ 1))) := by
  refine C_of_R rfl (Nat.le_of_ble_eq_true rfl) ?_
  have h3 := hR.2.2.2.2.1.1
  refine R_iload_n 1 rfl dX11_isMark_0 rfl ?_
  refine R_i2l 2 rfl dX11_isMark_1 (by first | assumption | exact ⟨by omega, by omega⟩) ?_
  refine R_lconst 3 rfl dX11_isMark_2 ?_
  refine R_topL (b := 0) rfl ?_
  refine R_aload_n 4 rfl dX11_isMark_3 rfl ?_
  refine R_callV_i (M' := mX11_size) 7 rfl dX11_isMark_4 ml_X11_150 kmX11_size im_X11_size se_X11_size rfl ⟨by decide, rfl⟩ (c_X11_size hR) rfl rfl ⟨Nat.le_of_ble_eq_true rfl, Nat.le_of_ble_eq_true rfl⟩ (Nat.le_of_ble_eq_true rfl) ⟨Nat.le_of_ble_eq_true rfl, Nat.le_of_ble_eq_true rfl⟩ ?_
  refine R_iconst 8 rfl dX11_isMark_7 ?_
  refine R_isub 9 rfl dX11_isMark_8 ?_
  refine R_i2l 10 rfl dX11_isMark_9 (by first | assumption | exact ⟨by omega, by omega⟩) ?_
  refine R_callS_i (M' := mX11_in) 13 rfl dX11_isMark_10 ml_X11_63 kmX11_in st_X11_in (c_X11_in _ _ _ (by first | assumption | exact ⟨by omega, by omega⟩ | exact rg_L (by assumption)) (by first | assumption | exact ⟨by omega, by omega⟩ | exact rg_L (by assumption)) (by first | assumption | exact ⟨by omega, by omega⟩ | exact rg_L (by assumption))) rfl rfl ⟨Nat.le_of_ble_eq_true rfl, Nat.le_of_ble_eq_true rfl⟩ (Nat.le_of_ble_eq_true rfl) ⟨Nat.le_of_ble_eq_true rfl, Nat.le_of_ble_eq_true rfl⟩ ?_
  refine R_ifp_eq 16 30 rfl rfl dX11_isMark_13 (fun h13 => ?_) (fun h13 => ?_)
  · refine R_iconst 31 rfl dX11_isMark_30 ?_
    refine R_zreturn dX11_isMark_31 rfl (by first | decide | exact pI_01 _) ?_
    exact Qi_mk (by first | rfl | exact pI_1 (by omega) | exact pI_0 (by omega) | omega)
  · refine R_iload_n 17 rfl dX11_isMark_16 rfl ?_
    refine R_i2l 18 rfl dX11_isMark_17 (by first | assumption | exact ⟨by omega, by omega⟩) ?_
    refine R_lconst 19 rfl dX11_isMark_18 ?_
    refine R_topL (b := 0) rfl ?_
    refine R_lconst 20 rfl dX11_isMark_19 ?_
    refine R_topL (b := 1) rfl ?_
    refine R_callS_i (M' := mX11_in) 23 rfl dX11_isMark_20 ml_X11_63 kmX11_in st_X11_in (c_X11_in _ _ _ (by first | assumption | exact ⟨by omega, by omega⟩ | exact rg_L (by assumption)) (by first | assumption | exact ⟨by omega, by omega⟩ | exact rg_L (by assumption)) (by first | assumption | exact ⟨by omega, by omega⟩ | exact rg_L (by assumption))) rfl rfl ⟨Nat.le_of_ble_eq_true rfl, Nat.le_of_ble_eq_true rfl⟩ (Nat.le_of_ble_eq_true rfl) ⟨Nat.le_of_ble_eq_true rfl, Nat.le_of_ble_eq_true rfl⟩ ?_
    refine R_ifp_eq 26 30 rfl rfl dX11_isMark_23 (fun h23 => ?_) (fun h23 => ?_)
    · refine R_iconst 31 rfl dX11_isMark_30 ?_
      refine R_zreturn dX11_isMark_31 rfl (by first | decide | exact pI_01 _) ?_
      exact Qi_mk (by first | rfl | exact pI_1 (by omega) | exact pI_0 (by omega) | omega)
    · refine R_iconst 27 rfl dX11_isMark_26 ?_
      refine R_goto 31 rfl dX11_isMark_27 ?_
      refine R_zreturn dX11_isMark_31 rfl (by first | decide | exact pI_01 _) ?_
      exact Qi_mk (by first | rfl | exact pI_1 (by omega) | exact pI_0 (by omega) | omega)
theorem c_X11_isChoice {S : Shp} (v : Int) (hv : rg v) : C Γ mX11_isChoice 1 40 0 0 [vi v] S m (Qi S m (pI (0 ≤ v ∧ v ≤ 1))) := by
  refine C_of_R rfl (Nat.le_of_ble_eq_true rfl) ?_
  refine R_iload_n 1 rfl dX11_isChoice_0 rfl ?_
  refine R_i2l 2 rfl dX11_isChoice_1 (by first | assumption | exact ⟨by omega, by omega⟩) ?_
  refine R_lconst 3 rfl dX11_isChoice_2 ?_
  refine R_topL (b := 0) rfl ?_
  refine R_lconst 4 rfl dX11_isChoice_3 ?_
  refine R_topL (b := 1) rfl ?_
  refine R_callS_i (M' := mX11_in) 7 rfl dX11_isChoice_4 ml_X11_63 kmX11_in st_X11_in (c_X11_in _ _ _ (by first | assumption | exact ⟨by omega, by omega⟩ | exact rg_L (by assumption)) (by first | assumption | exact ⟨by omega, by omega⟩ | exact rg_L (by assumption)) (by first | assumption | exact ⟨by omega, by omega⟩ | exact rg_L (by assumption))) rfl rfl ⟨Nat.le_of_ble_eq_true rfl, Nat.le_of_ble_eq_true rfl⟩ (Nat.le_of_ble_eq_true rfl) ⟨Nat.le_of_ble_eq_true rfl, Nat.le_of_ble_eq_true rfl⟩ ?_
  refine R_zreturn dX11_isChoice_7 rfl (by first | decide | exact pI_01 _) ?_
  exact Qi_mk rfl
theorem c_X11_isSpan {S : Shp} (a b : Int) (ha : rg a) (hb : rg b) : C Γ mX11_isSpan 1 40 0 0 [vi a, vi b] S m (Qi S m (pI ((-60 ≤ a ∧ a ≤ 89) ∧ a ≤ b ∧ b ≤ 89))) := by
  refine C_of_R rfl (Nat.le_of_ble_eq_true rfl) ?_
  refine R_iload_n 1 rfl dX11_isSpan_0 rfl ?_
  refine R_i2l 2 rfl dX11_isSpan_1 (by first | assumption | exact ⟨by omega, by omega⟩) ?_
  refine R_ldc2 (-60) 5 rfl dX11_isSpan_2 kl_X11_279 (by decide) ?_
  refine R_ldc2 (89) 8 rfl dX11_isSpan_5 kl_X11_171 (by decide) ?_
  refine R_callS_i (M' := mX11_in) 11 rfl dX11_isSpan_8 ml_X11_63 kmX11_in st_X11_in (c_X11_in _ _ _ (by first | assumption | exact ⟨by omega, by omega⟩ | exact rg_L (by assumption)) (by first | assumption | exact ⟨by omega, by omega⟩ | exact rg_L (by assumption)) (by first | assumption | exact ⟨by omega, by omega⟩ | exact rg_L (by assumption))) rfl rfl ⟨Nat.le_of_ble_eq_true rfl, Nat.le_of_ble_eq_true rfl⟩ (Nat.le_of_ble_eq_true rfl) ⟨Nat.le_of_ble_eq_true rfl, Nat.le_of_ble_eq_true rfl⟩ ?_
  refine R_ifp_eq 14 31 rfl rfl dX11_isSpan_11 (fun h11 => ?_) (fun h11 => ?_)
  · refine R_iconst 32 rfl dX11_isSpan_31 ?_
    refine R_zreturn dX11_isSpan_32 rfl (by first | decide | exact pI_01 _) ?_
    exact Qi_mk (by first | rfl | exact pI_1 (by omega) | exact pI_0 (by omega) | omega)
  · refine R_iload_n 15 rfl dX11_isSpan_14 rfl ?_
    refine R_i2l 16 rfl dX11_isSpan_15 (by first | assumption | exact ⟨by omega, by omega⟩) ?_
    refine R_iload_n 17 rfl dX11_isSpan_16 rfl ?_
    refine R_i2l 18 rfl dX11_isSpan_17 (by first | assumption | exact ⟨by omega, by omega⟩) ?_
    refine R_ldc2 (89) 21 rfl dX11_isSpan_18 kl_X11_171 (by decide) ?_
    refine R_callS_i (M' := mX11_in) 24 rfl dX11_isSpan_21 ml_X11_63 kmX11_in st_X11_in (c_X11_in _ _ _ (by first | assumption | exact ⟨by omega, by omega⟩ | exact rg_L (by assumption)) (by first | assumption | exact ⟨by omega, by omega⟩ | exact rg_L (by assumption)) (by first | assumption | exact ⟨by omega, by omega⟩ | exact rg_L (by assumption))) rfl rfl ⟨Nat.le_of_ble_eq_true rfl, Nat.le_of_ble_eq_true rfl⟩ (Nat.le_of_ble_eq_true rfl) ⟨Nat.le_of_ble_eq_true rfl, Nat.le_of_ble_eq_true rfl⟩ ?_
    refine R_ifp_eq 27 31 rfl rfl dX11_isSpan_24 (fun h24 => ?_) (fun h24 => ?_)
    · refine R_iconst 32 rfl dX11_isSpan_31 ?_
      refine R_zreturn dX11_isSpan_32 rfl (by first | decide | exact pI_01 _) ?_
      exact Qi_mk (by first | rfl | exact pI_1 (by omega) | exact pI_0 (by omega) | omega)
    · refine R_iconst 28 rfl dX11_isSpan_27 ?_
      refine R_goto 32 rfl dX11_isSpan_28 ?_
      refine R_zreturn dX11_isSpan_32 rfl (by first | decide | exact pI_01 _) ?_
      exact Qi_mk (by first | rfl | exact pI_1 (by omega) | exact pI_0 (by omega) | omega)
theorem c_X11_parish (p w : Int) (hR : RS L B ch m) (hp : rg p) (hw : rg w) : C Γ mX11_parish 2 80 0 0 [vr 96, vi p, vi w] SH m (QM L B ch m (a_parish L B p w)) := by
  refine C_of_R rfl (Nat.le_of_ble_eq_true rfl) ?_
  have hO := hR.2.2.2.2.1
  have h3 := hO.1
  have hl := hR.2.2.1.1
  have Lp : (0 ≤ p ∧ p < L.1 0) ∧ (0 ≤ w ∧ w ≤ 4) → ∀ k, k ≤ B.1 → ∀ a z, a = (cnt (fun k => decide (B.2.1 0 k = p)) k : Int) → z = (k : Int) → R Γ mX11_parish { frames := 2, cells := 0, slots := 0, locals := 80 } 0 0 (QM L B ch m (a_parish L B p w)) 0 0 27 [some (vr 96), some (vi p), some (vi w), some (vi a), some (vi z)] [] SH m := by
    intro ho
    refine up_ind B.1 (fun k hk ih a z ha hz => ?_)
    refine R_iload 29 rfl dX11_parish_27 rfl ?_
    refine R_aload_n 30 rfl dX11_parish_29 rfl ?_
    refine R_callV_i (M' := mX11_size) 33 rfl dX11_parish_30 ml_X11_150 kmX11_size im_X11_size se_X11_size rfl ⟨by decide, rfl⟩ (c_X11_size hR) rfl rfl ⟨Nat.le_of_ble_eq_true rfl, Nat.le_of_ble_eq_true rfl⟩ (Nat.le_of_ble_eq_true rfl) ⟨Nat.le_of_ble_eq_true rfl, Nat.le_of_ble_eq_true rfl⟩ ?_
    refine R_icmp_ge 36 61 rfl rfl dX11_parish_33 (by first | assumption | exact ⟨by omega, by omega⟩) (by first | assumption | exact ⟨by omega, by omega⟩) (fun h33 => ?_) (fun h33 => ?_)
    · refine R_iload_n 62 rfl dX11_parish_61 rfl ?_
      refine R_iconst 63 rfl dX11_parish_62 ?_
      refine R_icmp_ge 66 75 rfl rfl dX11_parish_63 (by first | assumption | exact ⟨by omega, by omega⟩) (by first | assumption | exact ⟨by omega, by omega⟩) (fun h63 => ?_) (fun h63 => ?_)
      · refine R_iload_n 76 rfl dX11_parish_75 rfl ?_
        refine R_ireturn dX11_parish_76 rfl ?_
        first | exact QI_mk ⟨by unfold a_parish; rw [if_pos ho, if_neg (by omega)], Fm.rf, hR⟩ | exact QI_mk ⟨by unfold a_parish; rw [if_pos ho, if_pos (by omega), ha, show k = B.1 by omega], Fm.rf, hR⟩
      · refine R_aload_n 67 rfl dX11_parish_66 rfl ?_
        refine R_iload_n 68 rfl dX11_parish_67 rfl ?_
        refine R_iload_n 69 rfl dX11_parish_68 rfl ?_
        refine R_callV_i (M' := mX11_parishOf) 72 rfl dX11_parish_69 ml_X11_156 kmX11_parishOf im_X11_parishOf se_X11_parishOf rfl ⟨by decide, rfl⟩ (c_X11_parishOf _ _ p.toNat w.toNat hR (by omega) (by omega) (by omega) (by omega)) rfl rfl ⟨Nat.le_of_ble_eq_true rfl, Nat.le_of_ble_eq_true rfl⟩ (Nat.le_of_ble_eq_true rfl) ⟨Nat.le_of_ble_eq_true rfl, Nat.le_of_ble_eq_true rfl⟩ ?_
        refine R_goto 76 rfl dX11_parish_72 ?_
        refine R_ireturn dX11_parish_76 rfl ?_
        first | exact QI_mk ⟨by unfold a_parish; rw [if_pos ho, if_neg (by omega)], Fm.rf, hR⟩ | exact QI_mk ⟨by unfold a_parish; rw [if_pos ho, if_pos (by omega), ha, show k = B.1 by omega], Fm.rf, hR⟩
    · have g4 := hO.2.1 k (by omega)
      refine R_iload_n 37 rfl dX11_parish_36 rfl ?_
      refine R_aload_n 38 rfl dX11_parish_37 rfl ?_
      refine R_iload 40 rfl dX11_parish_38 rfl ?_
      refine R_iconst 41 rfl dX11_parish_40 ?_
      refine R_callV_i (M' := mX11_its) 44 rfl dX11_parish_41 ml_X11_153 kmX11_its im_X11_its se_X11_its rfl ⟨by decide, rfl⟩ (c_X11_its _ _ k 0 hR (by omega) (by omega) (by omega) (by omega)) rfl rfl ⟨Nat.le_of_ble_eq_true rfl, Nat.le_of_ble_eq_true rfl⟩ (Nat.le_of_ble_eq_true rfl) ⟨Nat.le_of_ble_eq_true rfl, Nat.le_of_ble_eq_true rfl⟩ ?_
      refine R_iload_n 45 rfl dX11_parish_44 rfl ?_
      refine R_icmp_ne 48 52 rfl rfl dX11_parish_45 (by first | assumption | exact ⟨by omega, by omega⟩) (by first | assumption | exact ⟨by omega, by omega⟩) (fun h45 => ?_) (fun h45 => ?_)
      · refine R_iconst 53 rfl dX11_parish_52 ?_
        refine R_iadd 54 rfl dX11_parish_53 ?_
        refine R_istore_n [_, _, _, _, _] 55 rfl dX11_parish_54 rfl (by decide) ?_
        refine R_iinc [_, _, _, _, _] 58 rfl dX11_parish_55 rfl rfl (by decide) ?_
        refine R_goto 27 rfl dX11_parish_58 ?_
        first | exact ih (by omega) _ _ (by rw [cnt_y (by simp; omega)]; omega) (by omega) | exact ih (by omega) _ _ (by rw [cnt_n (by simp; omega)]; omega) (by omega)
      · refine R_iconst 49 rfl dX11_parish_48 ?_
        refine R_goto 53 rfl dX11_parish_49 ?_
        refine R_iadd 54 rfl dX11_parish_53 ?_
        refine R_istore_n [_, _, _, _, _] 55 rfl dX11_parish_54 rfl (by decide) ?_
        refine R_iinc [_, _, _, _, _] 58 rfl dX11_parish_55 rfl rfl (by decide) ?_
        refine R_goto 27 rfl dX11_parish_58 ?_
        first | exact ih (by omega) _ _ (by rw [cnt_y (by simp; omega)]; omega) (by omega) | exact ih (by omega) _ _ (by rw [cnt_n (by simp; omega)]; omega) (by omega)
  refine R_aload_n 1 rfl dX11_parish_0 rfl ?_
  refine R_iload_n 2 rfl dX11_parish_1 rfl ?_
  refine R_callV_i (M' := mX11_isParish) 5 rfl dX11_parish_2 ml_X11_144 kmX11_isParish im_X11_isParish se_X11_isParish rfl ⟨by decide, rfl⟩ (c_X11_isParish _ hR (by first | assumption | exact ⟨by omega, by omega⟩)) rfl rfl ⟨Nat.le_of_ble_eq_true rfl, Nat.le_of_ble_eq_true rfl⟩ (Nat.le_of_ble_eq_true rfl) ⟨Nat.le_of_ble_eq_true rfl, Nat.le_of_ble_eq_true rfl⟩ ?_
  refine R_ifp_eq 8 20 rfl rfl dX11_parish_5 (fun h5 => ?_) (fun h5 => ?_)
  · refine R_iconst 21 rfl dX11_parish_20 ?_
    refine R_ireturn dX11_parish_21 rfl ?_
    exact QI_mk ⟨by unfold a_parish; rw [if_neg (by omega)], Fm.rf, hR⟩
  · refine R_iload_n 9 rfl dX11_parish_8 rfl ?_
    refine R_i2l 10 rfl dX11_parish_9 (by first | assumption | exact ⟨by omega, by omega⟩) ?_
    refine R_lconst 11 rfl dX11_parish_10 ?_
    refine R_topL (b := 0) rfl ?_
    refine R_ldc2 (4) 14 rfl dX11_parish_11 kl_X11_148 (by decide) ?_
    refine R_callS_i (M' := mX11_in) 17 rfl dX11_parish_14 ml_X11_63 kmX11_in st_X11_in (c_X11_in _ _ _ (by first | assumption | exact ⟨by omega, by omega⟩ | exact rg_L (by assumption)) (by first | assumption | exact ⟨by omega, by omega⟩ | exact rg_L (by assumption)) (by first | assumption | exact ⟨by omega, by omega⟩ | exact rg_L (by assumption))) rfl rfl ⟨Nat.le_of_ble_eq_true rfl, Nat.le_of_ble_eq_true rfl⟩ (Nat.le_of_ble_eq_true rfl) ⟨Nat.le_of_ble_eq_true rfl, Nat.le_of_ble_eq_true rfl⟩ ?_
    refine R_ifp_ne 20 22 rfl rfl dX11_parish_17 (fun h17 => ?_) (fun h17 => ?_)
    · refine R_iconst 23 rfl dX11_parish_22 ?_
      refine R_istore_n [_, _, _, _, _] 24 rfl dX11_parish_23 rfl (by decide) ?_
      refine R_iconst 25 rfl dX11_parish_24 ?_
      refine R_istore [_, _, _, _, _] 27 rfl dX11_parish_25 rfl (by decide) ?_
      exact Lp (by omega) 0 (by omega) _ _ rfl rfl
    · refine R_iconst 21 rfl dX11_parish_20 ?_
      refine R_ireturn dX11_parish_21 rfl ?_
      exact QI_mk ⟨by unfold a_parish; rw [if_neg (by omega)], Fm.rf, hR⟩
theorem c_X11_clerk (p w : Int) (hR : RS L B ch m) (hp : rg p) (hw : rg w) : C Γ mX11_clerk 2 80 0 0 [vr 96, vi p, vi w] SH m (QM L B ch m (a_clerk L B p w)) := by
  refine C_of_R rfl (Nat.le_of_ble_eq_true rfl) ?_
  have hP := hR.1
  have hO := hR.2.2.2.2.1
  have h3 := hO.1
  have hl := hR.2.2.1.1
  have Lp : (0 ≤ p ∧ p < L.1 1) ∧ (0 ≤ w ∧ w ≤ 5) → ∀ k, k ≤ 2 * B.1 → ∀ a z, a = (cnt (fun j => decide (wr L B j = p)) k : Int) → z = (k : Int) → R Γ mX11_clerk { frames := 2, cells := 0, slots := 0, locals := 80 } 0 0 (QM L B ch m (a_clerk L B p w)) 0 0 27 [some (vr 96), some (vi p), some (vi w), some (vi a), some (vi z)] [] SH m := by
    intro ho
    refine up_ind (2 * B.1) (fun k hk ih a z ha hz => ?_)
    refine R_iload 29 rfl dX11_clerk_27 rfl ?_
    refine R_iconst 30 rfl dX11_clerk_29 ?_
    refine R_aload_n 31 rfl dX11_clerk_30 rfl ?_
    refine R_callV_i (M' := mX11_size) 34 rfl dX11_clerk_31 ml_X11_150 kmX11_size im_X11_size se_X11_size rfl ⟨by decide, rfl⟩ (c_X11_size hR) rfl rfl ⟨Nat.le_of_ble_eq_true rfl, Nat.le_of_ble_eq_true rfl⟩ (Nat.le_of_ble_eq_true rfl) ⟨Nat.le_of_ble_eq_true rfl, Nat.le_of_ble_eq_true rfl⟩ ?_
    refine R_imul 35 rfl dX11_clerk_34 ?_
    refine R_icmp_ge 38 68 rfl rfl dX11_clerk_35 (by first | assumption | exact ⟨by omega, by omega⟩) (by first | assumption | exact ⟨by omega, by omega⟩) (fun h35 => ?_) (fun h35 => ?_)
    · refine R_iload_n 69 rfl dX11_clerk_68 rfl ?_
      refine R_iconst 70 rfl dX11_clerk_69 ?_
      refine R_icmp_ge 73 86 rfl rfl dX11_clerk_70 (by first | assumption | exact ⟨by omega, by omega⟩) (by first | assumption | exact ⟨by omega, by omega⟩) (fun h70 => ?_) (fun h70 => ?_)
      · refine R_iload_n 87 rfl dX11_clerk_86 rfl ?_
        refine R_ireturn dX11_clerk_87 rfl ?_
        first | exact QI_mk ⟨by unfold a_clerk; rw [if_pos ho, if_pos (by omega)]; exact hR.2.1.2.2 p.toNat (by omega) w.toNat (by omega), Fm.rf, hR⟩ | exact QI_mk ⟨by unfold a_clerk; rw [if_pos ho, if_neg (by omega), ha, show k = 2 * B.1 by omega], Fm.rf, hR⟩
      · refine R_aload_n 74 rfl dX11_clerk_73 rfl ?_
        refine R_getP 14 77 rfl dX11_clerk_74 rfl rfl fl_X11_28 (hP _ _ _ rfl) ?_
        refine R_iconst 78 rfl dX11_clerk_77 ?_
        refine R_iload_n 79 rfl dX11_clerk_78 rfl ?_
        refine R_imul 80 rfl dX11_clerk_79 ?_
        refine R_iload_n 81 rfl dX11_clerk_80 rfl ?_
        refine R_iadd 82 rfl dX11_clerk_81 ?_
        refine R_iald (5 * p.toNat + w.toNat) 83 rfl dX11_clerk_82 rfl (by first | rfl | omega) (by omega) (by decide) ?_
        refine R_goto 87 rfl dX11_clerk_83 ?_
        refine R_ireturn dX11_clerk_87 rfl ?_
        first | exact QI_mk ⟨by unfold a_clerk; rw [if_pos ho, if_pos (by omega)]; exact hR.2.1.2.2 p.toNat (by omega) w.toNat (by omega), Fm.rf, hR⟩ | exact QI_mk ⟨by unfold a_clerk; rw [if_pos ho, if_neg (by omega), ha, show k = 2 * B.1 by omega], Fm.rf, hR⟩
    · have g4 := wr_rg (L := L) (B := B) k
      refine R_iload_n 39 rfl dX11_clerk_38 rfl ?_
      refine R_aload_n 40 rfl dX11_clerk_39 rfl ?_
      refine R_iload 42 rfl dX11_clerk_40 rfl ?_
      refine R_iconst 43 rfl dX11_clerk_42 ?_
      refine R_idiv_p 44 rfl dX11_clerk_43 (by first | assumption | exact ⟨by omega, by omega⟩) (by first | assumption | exact ⟨by omega, by omega⟩) (by omega) (by omega) ?_
      refine R_iload 46 rfl dX11_clerk_44 rfl ?_
      refine R_iconst 47 rfl dX11_clerk_46 ?_
      refine R_irem_p 48 rfl dX11_clerk_47 (by first | assumption | exact ⟨by omega, by omega⟩) (by first | assumption | exact ⟨by omega, by omega⟩) (by omega) (by omega) ?_
      refine R_callV_i (M' := mX11_writerOf) 51 rfl dX11_clerk_48 ml_X11_164 kmX11_writerOf im_X11_writerOf se_X11_writerOf rfl ⟨by decide, rfl⟩ (c_X11_writerOf _ _ k hR (by omega) (by omega) (by omega)) rfl rfl ⟨Nat.le_of_ble_eq_true rfl, Nat.le_of_ble_eq_true rfl⟩ (Nat.le_of_ble_eq_true rfl) ⟨Nat.le_of_ble_eq_true rfl, Nat.le_of_ble_eq_true rfl⟩ ?_
      refine R_iload_n 52 rfl dX11_clerk_51 rfl ?_
      refine R_icmp_ne 55 59 rfl rfl dX11_clerk_52 (by first | assumption | exact ⟨by omega, by omega⟩) (by first | assumption | exact ⟨by omega, by omega⟩) (fun h52 => ?_) (fun h52 => ?_)
      · refine R_iconst 60 rfl dX11_clerk_59 ?_
        refine R_iadd 61 rfl dX11_clerk_60 ?_
        refine R_istore_n [_, _, _, _, _] 62 rfl dX11_clerk_61 rfl (by decide) ?_
        refine R_iinc [_, _, _, _, _] 65 rfl dX11_clerk_62 rfl rfl (by decide) ?_
        refine R_goto 27 rfl dX11_clerk_65 ?_
        first | exact ih (by omega) _ _ (by rw [cnt_y (by simp; omega)]; omega) (by omega) | exact ih (by omega) _ _ (by rw [cnt_n (by simp; omega)]; omega) (by omega)
      · refine R_iconst 56 rfl dX11_clerk_55 ?_
        refine R_goto 60 rfl dX11_clerk_56 ?_
        refine R_iadd 61 rfl dX11_clerk_60 ?_
        refine R_istore_n [_, _, _, _, _] 62 rfl dX11_clerk_61 rfl (by decide) ?_
        refine R_iinc [_, _, _, _, _] 65 rfl dX11_clerk_62 rfl rfl (by decide) ?_
        refine R_goto 27 rfl dX11_clerk_65 ?_
        first | exact ih (by omega) _ _ (by rw [cnt_y (by simp; omega)]; omega) (by omega) | exact ih (by omega) _ _ (by rw [cnt_n (by simp; omega)]; omega) (by omega)
  refine R_aload_n 1 rfl dX11_clerk_0 rfl ?_
  refine R_iload_n 2 rfl dX11_clerk_1 rfl ?_
  refine R_callV_i (M' := mX11_isClerk) 5 rfl dX11_clerk_2 ml_X11_159 kmX11_isClerk im_X11_isClerk se_X11_isClerk rfl ⟨by decide, rfl⟩ (c_X11_isClerk _ hR (by first | assumption | exact ⟨by omega, by omega⟩)) rfl rfl ⟨Nat.le_of_ble_eq_true rfl, Nat.le_of_ble_eq_true rfl⟩ (Nat.le_of_ble_eq_true rfl) ⟨Nat.le_of_ble_eq_true rfl, Nat.le_of_ble_eq_true rfl⟩ ?_
  refine R_ifp_eq 8 20 rfl rfl dX11_clerk_5 (fun h5 => ?_) (fun h5 => ?_)
  · refine R_iconst 21 rfl dX11_clerk_20 ?_
    refine R_ireturn dX11_clerk_21 rfl ?_
    exact QI_mk ⟨by unfold a_clerk; rw [if_neg (by omega)], Fm.rf, hR⟩
  · refine R_iload_n 9 rfl dX11_clerk_8 rfl ?_
    refine R_i2l 10 rfl dX11_clerk_9 (by first | assumption | exact ⟨by omega, by omega⟩) ?_
    refine R_lconst 11 rfl dX11_clerk_10 ?_
    refine R_topL (b := 0) rfl ?_
    refine R_ldc2 (5) 14 rfl dX11_clerk_11 kl_X11_162 (by decide) ?_
    refine R_callS_i (M' := mX11_in) 17 rfl dX11_clerk_14 ml_X11_63 kmX11_in st_X11_in (c_X11_in _ _ _ (by first | assumption | exact ⟨by omega, by omega⟩ | exact rg_L (by assumption)) (by first | assumption | exact ⟨by omega, by omega⟩ | exact rg_L (by assumption)) (by first | assumption | exact ⟨by omega, by omega⟩ | exact rg_L (by assumption))) rfl rfl ⟨Nat.le_of_ble_eq_true rfl, Nat.le_of_ble_eq_true rfl⟩ (Nat.le_of_ble_eq_true rfl) ⟨Nat.le_of_ble_eq_true rfl, Nat.le_of_ble_eq_true rfl⟩ ?_
    refine R_ifp_ne 20 22 rfl rfl dX11_clerk_17 (fun h17 => ?_) (fun h17 => ?_)
    · refine R_iconst 23 rfl dX11_clerk_22 ?_
      refine R_istore_n [_, _, _, _, _] 24 rfl dX11_clerk_23 rfl (by decide) ?_
      refine R_iconst 25 rfl dX11_clerk_24 ?_
      refine R_istore [_, _, _, _, _] 27 rfl dX11_clerk_25 rfl (by decide) ?_
      exact Lp (by omega) 0 (by omega) _ _ rfl rfl
    · refine R_iconst 21 rfl dX11_clerk_20 ?_
      refine R_ireturn dX11_clerk_21 rfl ?_
      exact QI_mk ⟨by unfold a_clerk; rw [if_neg (by omega)], Fm.rf, hR⟩
theorem c_X11_of (k w : Int) (hR : RS L B ch m) (hk : rg k) (hw : rg w) : C Γ mX11_of 1 40 0 0 [vr 96, vi k, vi w] SH m (QM L B ch m (a_of B k w)) := by
  refine C_of_R rfl (Nat.le_of_ble_eq_true rfl) ?_
  have h3 := hR.2.2.2.2.1.1
  refine R_iload_n 1 rfl dX11_of_0 rfl ?_
  refine R_i2l 2 rfl dX11_of_1 (by first | assumption | exact ⟨by omega, by omega⟩) ?_
  refine R_lconst 3 rfl dX11_of_2 ?_
  refine R_topL (b := 0) rfl ?_
  refine R_aload_n 4 rfl dX11_of_3 rfl ?_
  refine R_callV_i (M' := mX11_size) 7 rfl dX11_of_4 ml_X11_150 kmX11_size im_X11_size se_X11_size rfl ⟨by decide, rfl⟩ (c_X11_size hR) rfl rfl ⟨Nat.le_of_ble_eq_true rfl, Nat.le_of_ble_eq_true rfl⟩ (Nat.le_of_ble_eq_true rfl) ⟨Nat.le_of_ble_eq_true rfl, Nat.le_of_ble_eq_true rfl⟩ ?_
  refine R_iconst 8 rfl dX11_of_7 ?_
  refine R_isub 9 rfl dX11_of_8 ?_
  refine R_i2l 10 rfl dX11_of_9 (by first | assumption | exact ⟨by omega, by omega⟩) ?_
  refine R_callS_i (M' := mX11_in) 13 rfl dX11_of_10 ml_X11_63 kmX11_in st_X11_in (c_X11_in _ _ _ (by first | assumption | exact ⟨by omega, by omega⟩ | exact rg_L (by assumption)) (by first | assumption | exact ⟨by omega, by omega⟩ | exact rg_L (by assumption)) (by first | assumption | exact ⟨by omega, by omega⟩ | exact rg_L (by assumption))) rfl rfl ⟨Nat.le_of_ble_eq_true rfl, Nat.le_of_ble_eq_true rfl⟩ (Nat.le_of_ble_eq_true rfl) ⟨Nat.le_of_ble_eq_true rfl, Nat.le_of_ble_eq_true rfl⟩ ?_
  refine R_ifp_eq 16 37 rfl rfl dX11_of_13 (fun h13 => ?_) (fun h13 => ?_)
  · refine R_iconst 38 rfl dX11_of_37 ?_
    refine R_ireturn dX11_of_38 rfl ?_
    first | exact QI_mk ⟨by unfold a_of; rw [if_pos (by omega)], Fm.rf, hR⟩ | exact QI_mk ⟨by unfold a_of; rw [if_neg (by omega)], Fm.rf, hR⟩
  · refine R_iload_n 17 rfl dX11_of_16 rfl ?_
    refine R_i2l 18 rfl dX11_of_17 (by first | assumption | exact ⟨by omega, by omega⟩) ?_
    refine R_lconst 19 rfl dX11_of_18 ?_
    refine R_topL (b := 0) rfl ?_
    refine R_ldc2 (2) 22 rfl dX11_of_19 kl_X11_202 (by decide) ?_
    refine R_callS_i (M' := mX11_in) 25 rfl dX11_of_22 ml_X11_63 kmX11_in st_X11_in (c_X11_in _ _ _ (by first | assumption | exact ⟨by omega, by omega⟩ | exact rg_L (by assumption)) (by first | assumption | exact ⟨by omega, by omega⟩ | exact rg_L (by assumption)) (by first | assumption | exact ⟨by omega, by omega⟩ | exact rg_L (by assumption))) rfl rfl ⟨Nat.le_of_ble_eq_true rfl, Nat.le_of_ble_eq_true rfl⟩ (Nat.le_of_ble_eq_true rfl) ⟨Nat.le_of_ble_eq_true rfl, Nat.le_of_ble_eq_true rfl⟩ ?_
    refine R_ifp_eq 28 37 rfl rfl dX11_of_25 (fun h25 => ?_) (fun h25 => ?_)
    · refine R_iconst 38 rfl dX11_of_37 ?_
      refine R_ireturn dX11_of_38 rfl ?_
      first | exact QI_mk ⟨by unfold a_of; rw [if_pos (by omega)], Fm.rf, hR⟩ | exact QI_mk ⟨by unfold a_of; rw [if_neg (by omega)], Fm.rf, hR⟩
    · refine R_aload_n 29 rfl dX11_of_28 rfl ?_
      refine R_iload_n 30 rfl dX11_of_29 rfl ?_
      refine R_iload_n 31 rfl dX11_of_30 rfl ?_
      refine R_callV_i (M' := mX11_its) 34 rfl dX11_of_31 ml_X11_153 kmX11_its im_X11_its se_X11_its rfl ⟨by decide, rfl⟩ (c_X11_its _ _ k.toNat w.toNat hR (by omega) (by omega) (by omega) (by omega)) rfl rfl ⟨Nat.le_of_ble_eq_true rfl, Nat.le_of_ble_eq_true rfl⟩ (Nat.le_of_ble_eq_true rfl) ⟨Nat.le_of_ble_eq_true rfl, Nat.le_of_ble_eq_true rfl⟩ ?_
      refine R_goto 38 rfl dX11_of_34 ?_
      refine R_ireturn dX11_of_38 rfl ?_
      first | exact QI_mk ⟨by unfold a_of; rw [if_pos (by omega)], Fm.rf, hR⟩ | exact QI_mk ⟨by unfold a_of; rw [if_neg (by omega)], Fm.rf, hR⟩
theorem c_X11_has (k s w : Int) (hR : RS L B ch m) (hk : rg k) (hs : rg s) (hw : rg w) : C Γ mX11_has 2 80 0 0 [vr 96, vi k, vi s, vi w] SH m (QM L B ch m (a_has B k s w)) := by
  refine C_of_R rfl (Nat.le_of_ble_eq_true rfl) ?_
  have h3 := hR.2.2.2.2.1.1
  refine R_aload_n 1 rfl dX11_has_0 rfl ?_
  refine R_iload_n 2 rfl dX11_has_1 rfl ?_
  refine R_iload_n 3 rfl dX11_has_2 rfl ?_
  refine R_callV_i (M' := mX11_isMark) 6 rfl dX11_has_3 ml_X11_191 kmX11_isMark im_X11_isMark se_X11_isMark rfl ⟨by decide, rfl⟩ (c_X11_isMark _ _ hR (by first | assumption | exact ⟨by omega, by omega⟩) (by first | assumption | exact ⟨by omega, by omega⟩)) rfl rfl ⟨Nat.le_of_ble_eq_true rfl, Nat.le_of_ble_eq_true rfl⟩ (Nat.le_of_ble_eq_true rfl) ⟨Nat.le_of_ble_eq_true rfl, Nat.le_of_ble_eq_true rfl⟩ ?_
  refine R_ifp_eq 9 31 rfl rfl dX11_has_6 (fun h6 => ?_) (fun h6 => ?_)
  · refine R_iconst 32 rfl dX11_has_31 ?_
    refine R_ireturn dX11_has_32 rfl ?_
    first | exact QI_mk ⟨by unfold a_has; rw [if_pos (by omega)], Fm.rf, hR⟩ | exact QI_mk ⟨by unfold a_has; rw [if_neg (by omega)], Fm.rf, hR⟩
  · refine R_iload_n 10 rfl dX11_has_9 rfl ?_
    refine R_i2l 11 rfl dX11_has_10 (by first | assumption | exact ⟨by omega, by omega⟩) ?_
    refine R_lconst 12 rfl dX11_has_11 ?_
    refine R_topL (b := 0) rfl ?_
    refine R_ldc2 (4) 15 rfl dX11_has_12 kl_X11_148 (by decide) ?_
    refine R_callS_i (M' := mX11_in) 18 rfl dX11_has_15 ml_X11_63 kmX11_in st_X11_in (c_X11_in _ _ _ (by first | assumption | exact ⟨by omega, by omega⟩ | exact rg_L (by assumption)) (by first | assumption | exact ⟨by omega, by omega⟩ | exact rg_L (by assumption)) (by first | assumption | exact ⟨by omega, by omega⟩ | exact rg_L (by assumption))) rfl rfl ⟨Nat.le_of_ble_eq_true rfl, Nat.le_of_ble_eq_true rfl⟩ (Nat.le_of_ble_eq_true rfl) ⟨Nat.le_of_ble_eq_true rfl, Nat.le_of_ble_eq_true rfl⟩ ?_
    refine R_ifp_eq 21 31 rfl rfl dX11_has_18 (fun h18 => ?_) (fun h18 => ?_)
    · refine R_iconst 32 rfl dX11_has_31 ?_
      refine R_ireturn dX11_has_32 rfl ?_
      first | exact QI_mk ⟨by unfold a_has; rw [if_pos (by omega)], Fm.rf, hR⟩ | exact QI_mk ⟨by unfold a_has; rw [if_neg (by omega)], Fm.rf, hR⟩
    · refine R_aload_n 22 rfl dX11_has_21 rfl ?_
      refine R_iload_n 23 rfl dX11_has_22 rfl ?_
      refine R_iload_n 24 rfl dX11_has_23 rfl ?_
      refine R_iload_n 25 rfl dX11_has_24 rfl ?_
      refine R_callV_i (M' := mX11_of5) 28 rfl dX11_has_25 ml_X11_198 kmX11_of5 im_X11_of5 se_X11_of5 rfl ⟨by decide, rfl⟩ (c_X11_of5 _ _ _ (2 * k + s).toNat w.toNat hR (by omega) (by omega) (by omega) (by omega) (by omega)) rfl rfl ⟨Nat.le_of_ble_eq_true rfl, Nat.le_of_ble_eq_true rfl⟩ (Nat.le_of_ble_eq_true rfl) ⟨Nat.le_of_ble_eq_true rfl, Nat.le_of_ble_eq_true rfl⟩ ?_
      refine R_goto 32 rfl dX11_has_28 ?_
      refine R_ireturn dX11_has_32 rfl ?_
      first | exact QI_mk ⟨by unfold a_has; rw [if_pos (by omega)], Fm.rf, hR⟩ | exact QI_mk ⟨by unfold a_has; rw [if_neg (by omega)], Fm.rf, hR⟩
theorem c_X11_kind (k s : Int) (hR : RS L B ch m) (hk : rg k) (hs : rg s) : C Γ mX11_kind 6 240 0 0 [vr 96, vi k, vi s] SH m (QM L B ch m (a_kind L B k s)) := by
  refine C_of_R rfl (Nat.le_of_ble_eq_true rfl) ?_
  have h3 := hR.2.2.2.2.1.1
  refine R_aload_n 1 rfl dX11_kind_0 rfl ?_
  refine R_iload_n 2 rfl dX11_kind_1 rfl ?_
  refine R_iload_n 3 rfl dX11_kind_2 rfl ?_
  refine R_callV_i (M' := mX11_isMark) 6 rfl dX11_kind_3 ml_X11_191 kmX11_isMark im_X11_isMark se_X11_isMark rfl ⟨by decide, rfl⟩ (c_X11_isMark _ _ hR (by first | assumption | exact ⟨by omega, by omega⟩) (by first | assumption | exact ⟨by omega, by omega⟩)) rfl rfl ⟨Nat.le_of_ble_eq_true rfl, Nat.le_of_ble_eq_true rfl⟩ (Nat.le_of_ble_eq_true rfl) ⟨Nat.le_of_ble_eq_true rfl, Nat.le_of_ble_eq_true rfl⟩ ?_
  refine R_ifp_eq 9 18 rfl rfl dX11_kind_6 (fun h6 => ?_) (fun h6 => ?_)
  · refine R_iconst 19 rfl dX11_kind_18 ?_
    refine R_ireturn dX11_kind_19 rfl ?_
    first | exact QI_mk ⟨by unfold a_kind; rw [if_pos (by omega)], Fm.rf, hR⟩ | exact QI_mk ⟨by unfold a_kind; rw [if_neg (by omega)], Fm.rf, hR⟩
  · refine R_aload_n 10 rfl dX11_kind_9 rfl ?_
    refine R_iload_n 11 rfl dX11_kind_10 rfl ?_
    refine R_iload_n 12 rfl dX11_kind_11 rfl ?_
    refine R_callV_i (M' := mX11_kindOf) 15 rfl dX11_kind_12 ml_X11_216 kmX11_kindOf im_X11_kindOf se_X11_kindOf rfl ⟨by decide, rfl⟩ (c_X11_kindOf _ _ (2 * k + s).toNat hR (by omega) (by omega) (by omega)) rfl rfl ⟨Nat.le_of_ble_eq_true rfl, Nat.le_of_ble_eq_true rfl⟩ (Nat.le_of_ble_eq_true rfl) ⟨Nat.le_of_ble_eq_true rfl, Nat.le_of_ble_eq_true rfl⟩ ?_
    refine R_goto 19 rfl dX11_kind_15 ?_
    refine R_ireturn dX11_kind_19 rfl ?_
    first | exact QI_mk ⟨by unfold a_kind; rw [if_pos (by omega)], Fm.rf, hR⟩ | exact QI_mk ⟨by unfold a_kind; rw [if_neg (by omega)], Fm.rf, hR⟩
theorem c_X11_writer (k s : Int) (hR : RS L B ch m) (hk : rg k) (hs : rg s) : C Γ mX11_writer 6 240 0 0 [vr 96, vi k, vi s] SH m (QM L B ch m (a_writer L B k s)) := by
  refine C_of_R rfl (Nat.le_of_ble_eq_true rfl) ?_
  have h3 := hR.2.2.2.2.1.1
  refine R_aload_n 1 rfl dX11_writer_0 rfl ?_
  refine R_iload_n 2 rfl dX11_writer_1 rfl ?_
  refine R_iload_n 3 rfl dX11_writer_2 rfl ?_
  refine R_callV_i (M' := mX11_isMark) 6 rfl dX11_writer_3 ml_X11_191 kmX11_isMark im_X11_isMark se_X11_isMark rfl ⟨by decide, rfl⟩ (c_X11_isMark _ _ hR (by first | assumption | exact ⟨by omega, by omega⟩) (by first | assumption | exact ⟨by omega, by omega⟩)) rfl rfl ⟨Nat.le_of_ble_eq_true rfl, Nat.le_of_ble_eq_true rfl⟩ (Nat.le_of_ble_eq_true rfl) ⟨Nat.le_of_ble_eq_true rfl, Nat.le_of_ble_eq_true rfl⟩ ?_
  refine R_ifp_eq 9 18 rfl rfl dX11_writer_6 (fun h6 => ?_) (fun h6 => ?_)
  · refine R_iconst 19 rfl dX11_writer_18 ?_
    refine R_ireturn dX11_writer_19 rfl ?_
    first | exact QI_mk ⟨by unfold a_writer; rw [if_pos (by omega)], Fm.rf, hR⟩ | exact QI_mk ⟨by unfold a_writer; rw [if_neg (by omega)], Fm.rf, hR⟩
  · refine R_aload_n 10 rfl dX11_writer_9 rfl ?_
    refine R_iload_n 11 rfl dX11_writer_10 rfl ?_
    refine R_iload_n 12 rfl dX11_writer_11 rfl ?_
    refine R_callV_i (M' := mX11_writerOf) 15 rfl dX11_writer_12 ml_X11_164 kmX11_writerOf im_X11_writerOf se_X11_writerOf rfl ⟨by decide, rfl⟩ (c_X11_writerOf _ _ (2 * k + s).toNat hR (by omega) (by omega) (by omega)) rfl rfl ⟨Nat.le_of_ble_eq_true rfl, Nat.le_of_ble_eq_true rfl⟩ (Nat.le_of_ble_eq_true rfl) ⟨Nat.le_of_ble_eq_true rfl, Nat.le_of_ble_eq_true rfl⟩ ?_
    refine R_goto 19 rfl dX11_writer_15 ?_
    refine R_ireturn dX11_writer_19 rfl ?_
    first | exact QI_mk ⟨by unfold a_writer; rw [if_pos (by omega)], Fm.rf, hR⟩ | exact QI_mk ⟨by unfold a_writer; rw [if_neg (by omega)], Fm.rf, hR⟩
theorem c_X11_apart (a b : Int) (hR : RS L B ch m) (ha : rg a) (hb : rg b) : C Γ mX11_apart 1 40 0 0 [vr 96, vi a, vi b] SH m (QM L B ch m (a_apart a b)) := by
  refine C_of_R rfl (Nat.le_of_ble_eq_true rfl) ?_
  rcases Classical.em ((0 ≤ a ∧ a ≤ 255) ∧ (0 ≤ b ∧ b ≤ 255)) with ho | ho
  · obtain ⟨x, rfl⟩ : ∃ x : Nat, a = (x : Int) := ⟨a.toNat, by omega⟩
    obtain ⟨y, rfl⟩ : ∃ y : Nat, b = (y : Int) := ⟨b.toNat, by omega⟩
    have hxy : x ^^^ y < 2 ^ 8 := Nat.xor_lt_two_pow (by omega) (by omega)
    refine R_iload_n 1 rfl dX11_apart_0 rfl ?_
    refine R_i2l 2 rfl dX11_apart_1 (by first | assumption | exact ⟨by omega, by omega⟩) ?_
    refine R_lconst 3 rfl dX11_apart_2 ?_
    refine R_topL (b := 0) rfl ?_
    refine R_ldc2 (255) 6 rfl dX11_apart_3 kl_X11_187 (by decide) ?_
    refine R_callS_i (M' := mX11_in) 9 rfl dX11_apart_6 ml_X11_63 kmX11_in st_X11_in (c_X11_in _ _ _ (by first | assumption | exact ⟨by omega, by omega⟩ | exact rg_L (by assumption)) (by first | assumption | exact ⟨by omega, by omega⟩ | exact rg_L (by assumption)) (by first | assumption | exact ⟨by omega, by omega⟩ | exact rg_L (by assumption))) rfl rfl ⟨Nat.le_of_ble_eq_true rfl, Nat.le_of_ble_eq_true rfl⟩ (Nat.le_of_ble_eq_true rfl) ⟨Nat.le_of_ble_eq_true rfl, Nat.le_of_ble_eq_true rfl⟩ ?_
    refine R_ifp_eq 12 33 rfl rfl dX11_apart_9 (fun h9 => ?_) (fun h9 => ?_)
    · exfalso; omega
    · refine R_iload_n 13 rfl dX11_apart_12 rfl ?_
      refine R_i2l 14 rfl dX11_apart_13 (by first | assumption | exact ⟨by omega, by omega⟩) ?_
      refine R_lconst 15 rfl dX11_apart_14 ?_
      refine R_topL (b := 0) rfl ?_
      refine R_ldc2 (255) 18 rfl dX11_apart_15 kl_X11_187 (by decide) ?_
      refine R_callS_i (M' := mX11_in) 21 rfl dX11_apart_18 ml_X11_63 kmX11_in st_X11_in (c_X11_in _ _ _ (by first | assumption | exact ⟨by omega, by omega⟩ | exact rg_L (by assumption)) (by first | assumption | exact ⟨by omega, by omega⟩ | exact rg_L (by assumption)) (by first | assumption | exact ⟨by omega, by omega⟩ | exact rg_L (by assumption))) rfl rfl ⟨Nat.le_of_ble_eq_true rfl, Nat.le_of_ble_eq_true rfl⟩ (Nat.le_of_ble_eq_true rfl) ⟨Nat.le_of_ble_eq_true rfl, Nat.le_of_ble_eq_true rfl⟩ ?_
      refine R_ifp_eq 24 33 rfl rfl dX11_apart_21 (fun h21 => ?_) (fun h21 => ?_)
      · exfalso; omega
      · refine R_iload_n 25 rfl dX11_apart_24 rfl ?_
        refine R_iload_n 26 rfl dX11_apart_25 rfl ?_
        refine R_ixor 27 rfl dX11_apart_26 ?_
        refine R_callS_i (M' := mX11_bitsOf) 30 rfl dX11_apart_27 ml_X11_204 kmX11_bitsOf st_X11_bitsOf (c_X11_bitsOf _ (by omega)) rfl rfl ⟨Nat.le_of_ble_eq_true rfl, Nat.le_of_ble_eq_true rfl⟩ (Nat.le_of_ble_eq_true rfl) ⟨Nat.le_of_ble_eq_true rfl, Nat.le_of_ble_eq_true rfl⟩ ?_
        refine R_goto 34 rfl dX11_apart_30 ?_
        refine R_ireturn dX11_apart_34 rfl ?_
        exact QI_mk ⟨by unfold a_apart ap; rw [if_pos (by omega)]; simp, Fm.rf, hR⟩
  · skip
    refine R_iload_n 1 rfl dX11_apart_0 rfl ?_
    refine R_i2l 2 rfl dX11_apart_1 (by first | assumption | exact ⟨by omega, by omega⟩) ?_
    refine R_lconst 3 rfl dX11_apart_2 ?_
    refine R_topL (b := 0) rfl ?_
    refine R_ldc2 (255) 6 rfl dX11_apart_3 kl_X11_187 (by decide) ?_
    refine R_callS_i (M' := mX11_in) 9 rfl dX11_apart_6 ml_X11_63 kmX11_in st_X11_in (c_X11_in _ _ _ (by first | assumption | exact ⟨by omega, by omega⟩ | exact rg_L (by assumption)) (by first | assumption | exact ⟨by omega, by omega⟩ | exact rg_L (by assumption)) (by first | assumption | exact ⟨by omega, by omega⟩ | exact rg_L (by assumption))) rfl rfl ⟨Nat.le_of_ble_eq_true rfl, Nat.le_of_ble_eq_true rfl⟩ (Nat.le_of_ble_eq_true rfl) ⟨Nat.le_of_ble_eq_true rfl, Nat.le_of_ble_eq_true rfl⟩ ?_
    refine R_ifp_eq 12 33 rfl rfl dX11_apart_9 (fun h9 => ?_) (fun h9 => ?_)
    · refine R_iconst 34 rfl dX11_apart_33 ?_
      refine R_ireturn dX11_apart_34 rfl ?_
      exact QI_mk ⟨by unfold a_apart; rw [if_neg ho], Fm.rf, hR⟩
    · refine R_iload_n 13 rfl dX11_apart_12 rfl ?_
      refine R_i2l 14 rfl dX11_apart_13 (by first | assumption | exact ⟨by omega, by omega⟩) ?_
      refine R_lconst 15 rfl dX11_apart_14 ?_
      refine R_topL (b := 0) rfl ?_
      refine R_ldc2 (255) 18 rfl dX11_apart_15 kl_X11_187 (by decide) ?_
      refine R_callS_i (M' := mX11_in) 21 rfl dX11_apart_18 ml_X11_63 kmX11_in st_X11_in (c_X11_in _ _ _ (by first | assumption | exact ⟨by omega, by omega⟩ | exact rg_L (by assumption)) (by first | assumption | exact ⟨by omega, by omega⟩ | exact rg_L (by assumption)) (by first | assumption | exact ⟨by omega, by omega⟩ | exact rg_L (by assumption))) rfl rfl ⟨Nat.le_of_ble_eq_true rfl, Nat.le_of_ble_eq_true rfl⟩ (Nat.le_of_ble_eq_true rfl) ⟨Nat.le_of_ble_eq_true rfl, Nat.le_of_ble_eq_true rfl⟩ ?_
      refine R_ifp_eq 24 33 rfl rfl dX11_apart_21 (fun h21 => ?_) (fun h21 => ?_)
      · refine R_iconst 34 rfl dX11_apart_33 ?_
        refine R_ireturn dX11_apart_34 rfl ?_
        exact QI_mk ⟨by unfold a_apart; rw [if_neg ho], Fm.rf, hR⟩
      · exfalso; omega
theorem c_X11_lowest {S : Shp} (u d w : Int) (hu : 0 ≤ u ∧ u < 9223372036854775808) (hd : 0 < d ∧ d < 9223372036854775808) (hw : 0 ≤ w ∧ w ≤ 5) : C Γ mX11_lowest 1 40 0 0 [vl u, vl d, vi w] S m (Ql S m (if w % 2 = 0 then rT u d else rB u d)) := by
  refine C_of_R rfl (Nat.le_of_ble_eq_true rfl) ?_
  have h1 : 0 < gcI u d := gcI_pos (by omega)
  have h2 : gcI u d ≤ d := Int.le_of_dvd (by omega) (gcI_r u d)
  refine R_iload 2 rfl dX11_lowest_0 rfl ?_
  refine R_iconst 3 rfl dX11_lowest_2 ?_
  refine R_irem_p 4 rfl dX11_lowest_3 (by first | assumption | exact ⟨by omega, by omega⟩) (by first | assumption | exact ⟨by omega, by omega⟩) (by omega) (by omega) ?_
  refine R_if_ne 7 11 rfl rfl dX11_lowest_4 (by first | assumption | exact ⟨by omega, by omega⟩) (fun h4 => ?_) (fun h4 => ?_)
  · refine R_lload_n 12 rfl dX11_lowest_11 rfl ?_
    refine R_lload_n 13 rfl dX11_lowest_12 rfl ?_
    refine R_lload_n 14 rfl dX11_lowest_13 rfl ?_
    refine R_callS_l (M' := mX11_common) 17 rfl dX11_lowest_14 ml_X11_253 kmX11_common st_X11_common (c_X11_common _ _ (by omega) (by omega)) rfl rfl ⟨Nat.le_of_ble_eq_true rfl, Nat.le_of_ble_eq_true rfl⟩ (Nat.le_of_ble_eq_true rfl) ⟨Nat.le_of_ble_eq_true rfl, Nat.le_of_ble_eq_true rfl⟩ ?_
    refine R_ldiv_p 18 rfl dX11_lowest_17 (by first | assumption | exact ⟨by omega, by omega⟩ | exact rg_L (by assumption)) (by first | assumption | exact ⟨by omega, by omega⟩ | exact rg_L (by assumption)) (by omega) (by omega) ?_
    refine R_lreturn dX11_lowest_18 rfl ?_
    first | exact Ql_mk (by rw [if_pos (by omega)]; rfl) | exact Ql_mk (by rw [if_neg (by omega)]; rfl)
  · refine R_lload_n 8 rfl dX11_lowest_7 rfl ?_
    refine R_goto 12 rfl dX11_lowest_8 ?_
    refine R_lload_n 13 rfl dX11_lowest_12 rfl ?_
    refine R_lload_n 14 rfl dX11_lowest_13 rfl ?_
    refine R_callS_l (M' := mX11_common) 17 rfl dX11_lowest_14 ml_X11_253 kmX11_common st_X11_common (c_X11_common _ _ (by omega) (by omega)) rfl rfl ⟨Nat.le_of_ble_eq_true rfl, Nat.le_of_ble_eq_true rfl⟩ (Nat.le_of_ble_eq_true rfl) ⟨Nat.le_of_ble_eq_true rfl, Nat.le_of_ble_eq_true rfl⟩ ?_
    refine R_ldiv_p 18 rfl dX11_lowest_17 (by first | assumption | exact ⟨by omega, by omega⟩ | exact rg_L (by assumption)) (by first | assumption | exact ⟨by omega, by omega⟩ | exact rg_L (by assumption)) (by omega) (by omega) ?_
    refine R_lreturn dX11_lowest_18 rfl ?_
    first | exact Ql_mk (by rw [if_pos (by omega)]; rfl) | exact Ql_mk (by rw [if_neg (by omega)]; rfl)
end
