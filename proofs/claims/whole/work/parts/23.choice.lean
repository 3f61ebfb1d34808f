def chM (m : Mem) (o : Nat) (p f t s r : Int) : Mem := setI (setI (setI (setI (setI m o 0 p) o 1 f) o 2 t) o 3 s) o 4 r
theorem PO_ch {o d : Nat} {m : Mem} (h : PO o d m) {c : Nat} (hc : c < 2) : m.2 44 c = some (45 + c) := by
  rcases (show c = 0 ∨ c = 1 by omega) with rfl | rfl
  · exact h.2 _ _ _ rfl
  · exact h.2 _ _ _ rfl
theorem sh_ch {c : Nat} (hc : c < 2) : shp SH (45 + c) = some (1, 5) := by
  rcases (show c = 0 ∨ c = 1 by omega) with rfl | rfl <;> rfl
theorem inC_iff {B : Bk} {ch : Cs} {c k : Nat} : inC B ch c k = true ↔ (ch c 0 / 2 ^ (B.2.1 0 (k / 2)).toNat % 2 = 1) ∧ (ch c 1 ≤ B.2.1 1 (k / 2) ∧ B.2.1 1 (k / 2) ≤ ch c 2) ∧ (ch c 3 / 2 ^ (k % 2) % 2 = 1) ∧ (ch c 4 / 2 ^ (B.2.1 2 (k / 2)).toNat % 2 = 1) := by
  simp only [inC, tb, Bool.and_eq_true, decide_eq_true_eq, Int.toNat_natCast]
  constructor
  · rintro ⟨⟨⟨a, b⟩, c⟩, d⟩; exact ⟨a, b, c, d⟩
  · rintro ⟨a, b, c, d⟩; exact ⟨⟨⟨a, b⟩, c⟩, d⟩
section
variable {Γ : GX} {m : Mem} {B : Bk} {L : Ld} {ch : Cs} {np : Int} {o d : Nat}
theorem c_X1_become (x : Nat) (p f t s r : Int) (hs : shp SH x = some (1, 5)) : C Γ mX1_become 0 0 0 0 [vr x, vi p, vi f, vi t, vi s, vi r] SH m (Qv SH (chM m x p f t s r)) := by
  refine C_of_R rfl (Nat.le_of_ble_eq_true rfl) ?_
  refine R_aload_n 1 rfl dX1_become_0 rfl ?_
  refine R_iload_n 2 rfl dX1_become_1 rfl ?_
  refine R_putI 0 5 rfl dX1_become_2 hs rfl fl_X1_19 ?_
  refine R_aload_n 6 rfl dX1_become_5 rfl ?_
  refine R_iload_n 7 rfl dX1_become_6 rfl ?_
  refine R_putI 1 10 rfl dX1_become_7 hs rfl fl_X1_23 ?_
  refine R_aload_n 11 rfl dX1_become_10 rfl ?_
  refine R_iload_n 12 rfl dX1_become_11 rfl ?_
  refine R_putI 2 15 rfl dX1_become_12 hs rfl fl_X1_26 ?_
  refine R_aload_n 16 rfl dX1_become_15 rfl ?_
  refine R_iload 18 rfl dX1_become_16 rfl ?_
  refine R_putI 3 21 rfl dX1_become_18 hs rfl fl_X1_29 ?_
  refine R_aload_n 22 rfl dX1_become_21 rfl ?_
  refine R_iload 24 rfl dX1_become_22 rfl ?_
  refine R_putI 4 27 rfl dX1_become_24 hs rfl fl_X1_32 ?_
  refine R_return dX1_become_27 rfl ?_
  exact Qv_mk rfl
theorem c_X1_becomeAll (x : Nat) (p : Int) (hs : shp SH x = some (1, 5)) : C Γ mX1_becomeAll 1 40 0 0 [vr x, vi p] SH m (Qv SH (chM m x p 0 89 3 255)) := by
  refine C_of_R rfl (Nat.le_of_ble_eq_true rfl) ?_
  refine R_aload_n 1 rfl dX1_becomeAll_0 rfl ?_
  refine R_iload_n 2 rfl dX1_becomeAll_1 rfl ?_
  refine R_iconst 3 rfl dX1_becomeAll_2 ?_
  refine R_bipush 5 rfl dX1_becomeAll_3 (by decide) ?_
  refine R_iconst 6 rfl dX1_becomeAll_5 ?_
  refine R_sipush 9 rfl dX1_becomeAll_6 (by decide) ?_
  refine R_callV_v (M' := mX1_become) 12 rfl dX1_becomeAll_9 ml_X1_15 kmX1_become im_X1_become se_X1_become hs ⟨by decide, rfl⟩ (c_X1_become _ _ _ _ _ _ hs) rfl rfl ⟨Nat.le_of_ble_eq_true rfl, Nat.le_of_ble_eq_true rfl⟩ (Nat.le_of_ble_eq_true rfl) ⟨Nat.le_of_ble_eq_true rfl, Nat.le_of_ble_eq_true rfl⟩ ?_
  refine R_return dX1_becomeAll_12 rfl ?_
  exact Qv_mk rfl
theorem c_X1_copy (x y : Nat) (hs : shp SH x = some (1, 5)) (hs2 : shp SH y = some (1, 5)) : C Γ mX1_copy 1 40 0 0 [vr x, vr y] SH m (Qv SH (chM m x (m.1 y 0) (m.1 y 1) (m.1 y 2) (m.1 y 3) (m.1 y 4))) := by
  refine C_of_R rfl (Nat.le_of_ble_eq_true rfl) ?_
  refine R_aload_n 1 rfl dX1_copy_0 rfl ?_
  refine R_aload_n 2 rfl dX1_copy_1 rfl ?_
  refine R_getI 0 5 rfl dX1_copy_2 hs2 rfl fl_X1_19 ?_
  refine R_aload_n 6 rfl dX1_copy_5 rfl ?_
  refine R_getI 1 9 rfl dX1_copy_6 hs2 rfl fl_X1_23 ?_
  refine R_aload_n 10 rfl dX1_copy_9 rfl ?_
  refine R_getI 2 13 rfl dX1_copy_10 hs2 rfl fl_X1_26 ?_
  refine R_aload_n 14 rfl dX1_copy_13 rfl ?_
  refine R_getI 3 17 rfl dX1_copy_14 hs2 rfl fl_X1_29 ?_
  refine R_aload_n 18 rfl dX1_copy_17 rfl ?_
  refine R_getI 4 21 rfl dX1_copy_18 hs2 rfl fl_X1_32 ?_
  refine R_callV_v (M' := mX1_become) 24 rfl dX1_copy_21 ml_X1_15 kmX1_become im_X1_become se_X1_become hs ⟨by decide, rfl⟩ (c_X1_become _ _ _ _ _ _ hs) rfl rfl ⟨Nat.le_of_ble_eq_true rfl, Nat.le_of_ble_eq_true rfl⟩ (Nat.le_of_ble_eq_true rfl) ⟨Nat.le_of_ble_eq_true rfl, Nat.le_of_ble_eq_true rfl⟩ ?_
  refine R_return dX1_copy_24 rfl ?_
  exact Qv_mk rfl
theorem c_X1_takes (z : Int) (c k : Nat) (hPO : PO o d m) (hB : Bk0 m B) (hO : BkOk np B) (hnp : np ≤ 12) (hC : ChC m ch) (hCO : ChOk ch) (hc : c < 2) (hz : z = (k : Int)) (hk : k < 2 * B.1) : C Γ mX1_takes 1 40 0 0 [vr (45 + c), vr 30, vi z] SH m (Qi SH m (pI (inC B ch c k = true))) := by
  refine C_of_R rfl (Nat.le_of_ble_eq_true rfl) ?_
  subst hz
  have hP := hPO.2
  have h1 := hO.1
  have h2 := hO.2.1 (k / 2) (by omega)
  obtain ⟨p0, p1, p2⟩ := hB.2.1 (k / 2) (by omega)
  have h4 := hCO c hc
  rcases (show c = 0 ∨ c = 1 by omega) with rfl | rfl
  · obtain ⟨c0, c1, c2, c3, c4⟩ := hC.1
    refine R_iload_n 1 rfl dX1_takes_0 rfl ?_
    refine R_iconst 2 rfl dX1_takes_1 ?_
    refine R_idiv_p 3 rfl dX1_takes_2 (by first | assumption | exact ⟨by omega, by omega⟩) (by first | assumption | exact ⟨by omega, by omega⟩) (by omega) (by omega) ?_
    refine R_istore_n [_, _, _, _] 4 rfl dX1_takes_3 rfl (by decide) ?_
    refine R_aload_n 5 rfl dX1_takes_4 rfl ?_
    refine R_getI 0 8 rfl dX1_takes_5 rfl rfl fl_X1_19 ?_
    rw [c0]
    refine R_aload_n 9 rfl dX1_takes_8 rfl ?_
    refine R_getP 1 12 rfl dX1_takes_9 rfl rfl fl_X1_35 (hP _ _ _ rfl) ?_
    refine R_iconst 13 rfl dX1_takes_12 ?_
    refine R_aald 0 14 rfl dX1_takes_13 rfl rfl (by first | rfl | omega) (by decide) (by decide) (hP _ _ _ rfl) ?_
    refine R_iload_n 15 rfl dX1_takes_14 rfl ?_
    refine R_iald (k / 2) 16 rfl dX1_takes_15 rfl (by first | rfl | omega) (by omega) (by decide) ?_
    rw [p0]
    refine R_callN_i (M' := mX10_hasBit) 19 rfl dX1_takes_16 mn_X1_41 kmX10_hasBit st_X10_hasBit (c_X10_hasBit _ _ (B.2.1 0 (k / 2)).toNat ⟨by omega, by omega⟩ (by omega) (by omega)) rfl rfl ⟨Nat.le_of_ble_eq_true rfl, Nat.le_of_ble_eq_true rfl⟩ (Nat.le_of_ble_eq_true rfl) ⟨Nat.le_of_ble_eq_true rfl, Nat.le_of_ble_eq_true rfl⟩ ?_
    refine R_ifp_eq 22 79 rfl rfl dX1_takes_19 (fun h19 => ?_) (fun h19 => ?_)
    · refine R_iconst 80 rfl dX1_takes_79 ?_
      refine R_zreturn dX1_takes_80 rfl (by first | decide | exact pI_01 _) ?_
      first | exact Qi_mk (pI_1 (inC_iff.mpr (by omega))) | exact Qi_mk (pI_0 (fun q => by have := inC_iff.mp q; omega))
    · refine R_aload_n 23 rfl dX1_takes_22 rfl ?_
      refine R_getP 1 26 rfl dX1_takes_23 rfl rfl fl_X1_35 (hP _ _ _ rfl) ?_
      refine R_iconst 27 rfl dX1_takes_26 ?_
      refine R_aald 1 28 rfl dX1_takes_27 rfl rfl (by first | rfl | omega) (by decide) (by decide) (hP _ _ _ rfl) ?_
      refine R_iload_n 29 rfl dX1_takes_28 rfl ?_
      refine R_iald (k / 2) 30 rfl dX1_takes_29 rfl (by first | rfl | omega) (by omega) (by decide) ?_
      rw [p1]
      refine R_aload_n 31 rfl dX1_takes_30 rfl ?_
      refine R_getI 1 34 rfl dX1_takes_31 rfl rfl fl_X1_23 ?_
      rw [c1]
      refine R_aload_n 35 rfl dX1_takes_34 rfl ?_
      refine R_getI 2 38 rfl dX1_takes_35 rfl rfl fl_X1_26 ?_
      rw [c2]
      refine R_callN_i (M' := mX10_within) 41 rfl dX1_takes_38 mn_X1_45 kmX10_within st_X10_within (c_X10_within _ _ _ (by first | assumption | exact ⟨by omega, by omega⟩) (by first | assumption | exact ⟨by omega, by omega⟩) (by first | assumption | exact ⟨by omega, by omega⟩)) rfl rfl ⟨Nat.le_of_ble_eq_true rfl, Nat.le_of_ble_eq_true rfl⟩ (Nat.le_of_ble_eq_true rfl) ⟨Nat.le_of_ble_eq_true rfl, Nat.le_of_ble_eq_true rfl⟩ ?_
      refine R_ifp_eq 44 79 rfl rfl dX1_takes_41 (fun h41 => ?_) (fun h41 => ?_)
      · refine R_iconst 80 rfl dX1_takes_79 ?_
        refine R_zreturn dX1_takes_80 rfl (by first | decide | exact pI_01 _) ?_
        first | exact Qi_mk (pI_1 (inC_iff.mpr (by omega))) | exact Qi_mk (pI_0 (fun q => by have := inC_iff.mp q; omega))
      · refine R_aload_n 45 rfl dX1_takes_44 rfl ?_
        refine R_getI 3 48 rfl dX1_takes_45 rfl rfl fl_X1_29 ?_
        rw [c3]
        refine R_iload_n 49 rfl dX1_takes_48 rfl ?_
        refine R_iconst 50 rfl dX1_takes_49 ?_
        refine R_irem_p 51 rfl dX1_takes_50 (by first | assumption | exact ⟨by omega, by omega⟩) (by first | assumption | exact ⟨by omega, by omega⟩) (by omega) (by omega) ?_
        refine R_callN_i (M' := mX10_hasBit) 54 rfl dX1_takes_51 mn_X1_41 kmX10_hasBit st_X10_hasBit (c_X10_hasBit _ _ (k % 2) ⟨by omega, by omega⟩ (by omega) (by omega)) rfl rfl ⟨Nat.le_of_ble_eq_true rfl, Nat.le_of_ble_eq_true rfl⟩ (Nat.le_of_ble_eq_true rfl) ⟨Nat.le_of_ble_eq_true rfl, Nat.le_of_ble_eq_true rfl⟩ ?_
        refine R_ifp_eq 57 79 rfl rfl dX1_takes_54 (fun h54 => ?_) (fun h54 => ?_)
        · refine R_iconst 80 rfl dX1_takes_79 ?_
          refine R_zreturn dX1_takes_80 rfl (by first | decide | exact pI_01 _) ?_
          first | exact Qi_mk (pI_1 (inC_iff.mpr (by omega))) | exact Qi_mk (pI_0 (fun q => by have := inC_iff.mp q; omega))
        · refine R_aload_n 58 rfl dX1_takes_57 rfl ?_
          refine R_getI 4 61 rfl dX1_takes_58 rfl rfl fl_X1_32 ?_
          rw [c4]
          refine R_aload_n 62 rfl dX1_takes_61 rfl ?_
          refine R_getP 1 65 rfl dX1_takes_62 rfl rfl fl_X1_35 (hP _ _ _ rfl) ?_
          refine R_iconst 66 rfl dX1_takes_65 ?_
          refine R_aald 2 67 rfl dX1_takes_66 rfl rfl (by first | rfl | omega) (by decide) (by decide) (hP _ _ _ rfl) ?_
          refine R_iload_n 68 rfl dX1_takes_67 rfl ?_
          refine R_iald (k / 2) 69 rfl dX1_takes_68 rfl (by first | rfl | omega) (by omega) (by decide) ?_
          rw [p2]
          refine R_callN_i (M' := mX10_hasBit) 72 rfl dX1_takes_69 mn_X1_41 kmX10_hasBit st_X10_hasBit (c_X10_hasBit _ _ (B.2.1 2 (k / 2)).toNat ⟨by omega, by omega⟩ (by omega) (by omega)) rfl rfl ⟨Nat.le_of_ble_eq_true rfl, Nat.le_of_ble_eq_true rfl⟩ (Nat.le_of_ble_eq_true rfl) ⟨Nat.le_of_ble_eq_true rfl, Nat.le_of_ble_eq_true rfl⟩ ?_
          refine R_ifp_eq 75 79 rfl rfl dX1_takes_72 (fun h72 => ?_) (fun h72 => ?_)
          · refine R_iconst 80 rfl dX1_takes_79 ?_
            refine R_zreturn dX1_takes_80 rfl (by first | decide | exact pI_01 _) ?_
            first | exact Qi_mk (pI_1 (inC_iff.mpr (by omega))) | exact Qi_mk (pI_0 (fun q => by have := inC_iff.mp q; omega))
          · refine R_iconst 76 rfl dX1_takes_75 ?_
            refine R_goto 80 rfl dX1_takes_76 ?_
            refine R_zreturn dX1_takes_80 rfl (by first | decide | exact pI_01 _) ?_
            first | exact Qi_mk (pI_1 (inC_iff.mpr (by omega))) | exact Qi_mk (pI_0 (fun q => by have := inC_iff.mp q; omega))
  · obtain ⟨c0, c1, c2, c3, c4⟩ := hC.2
    refine R_iload_n 1 rfl dX1_takes_0 rfl ?_
    refine R_iconst 2 rfl dX1_takes_1 ?_
    refine R_idiv_p 3 rfl dX1_takes_2 (by first | assumption | exact ⟨by omega, by omega⟩) (by first | assumption | exact ⟨by omega, by omega⟩) (by omega) (by omega) ?_
    refine R_istore_n [_, _, _, _] 4 rfl dX1_takes_3 rfl (by decide) ?_
    refine R_aload_n 5 rfl dX1_takes_4 rfl ?_
    refine R_getI 0 8 rfl dX1_takes_5 rfl rfl fl_X1_19 ?_
    rw [c0]
    refine R_aload_n 9 rfl dX1_takes_8 rfl ?_
    refine R_getP 1 12 rfl dX1_takes_9 rfl rfl fl_X1_35 (hP _ _ _ rfl) ?_
    refine R_iconst 13 rfl dX1_takes_12 ?_
    refine R_aald 0 14 rfl dX1_takes_13 rfl rfl (by first | rfl | omega) (by decide) (by decide) (hP _ _ _ rfl) ?_
    refine R_iload_n 15 rfl dX1_takes_14 rfl ?_
    refine R_iald (k / 2) 16 rfl dX1_takes_15 rfl (by first | rfl | omega) (by omega) (by decide) ?_
    rw [p0]
    refine R_callN_i (M' := mX10_hasBit) 19 rfl dX1_takes_16 mn_X1_41 kmX10_hasBit st_X10_hasBit (c_X10_hasBit _ _ (B.2.1 0 (k / 2)).toNat ⟨by omega, by omega⟩ (by omega) (by omega)) rfl rfl ⟨Nat.le_of_ble_eq_true rfl, Nat.le_of_ble_eq_true rfl⟩ (Nat.le_of_ble_eq_true rfl) ⟨Nat.le_of_ble_eq_true rfl, Nat.le_of_ble_eq_true rfl⟩ ?_
    refine R_ifp_eq 22 79 rfl rfl dX1_takes_19 (fun h19 => ?_) (fun h19 => ?_)
    · refine R_iconst 80 rfl dX1_takes_79 ?_
      refine R_zreturn dX1_takes_80 rfl (by first | decide | exact pI_01 _) ?_
      first | exact Qi_mk (pI_1 (inC_iff.mpr (by omega))) | exact Qi_mk (pI_0 (fun q => by have := inC_iff.mp q; omega))
    · refine R_aload_n 23 rfl dX1_takes_22 rfl ?_
      refine R_getP 1 26 rfl dX1_takes_23 rfl rfl fl_X1_35 (hP _ _ _ rfl) ?_
      refine R_iconst 27 rfl dX1_takes_26 ?_
      refine R_aald 1 28 rfl dX1_takes_27 rfl rfl (by first | rfl | omega) (by decide) (by decide) (hP _ _ _ rfl) ?_
      refine R_iload_n 29 rfl dX1_takes_28 rfl ?_
      refine R_iald (k / 2) 30 rfl dX1_takes_29 rfl (by first | rfl | omega) (by omega) (by decide) ?_
      rw [p1]
      refine R_aload_n 31 rfl dX1_takes_30 rfl ?_
      refine R_getI 1 34 rfl dX1_takes_31 rfl rfl fl_X1_23 ?_
      rw [c1]
      refine R_aload_n 35 rfl dX1_takes_34 rfl ?_
      refine R_getI 2 38 rfl dX1_takes_35 rfl rfl fl_X1_26 ?_
      rw [c2]
      refine R_callN_i (M' := mX10_within) 41 rfl dX1_takes_38 mn_X1_45 kmX10_within st_X10_within (c_X10_within _ _ _ (by first | assumption | exact ⟨by omega, by omega⟩) (by first | assumption | exact ⟨by omega, by omega⟩) (by first | assumption | exact ⟨by omega, by omega⟩)) rfl rfl ⟨Nat.le_of_ble_eq_true rfl, Nat.le_of_ble_eq_true rfl⟩ (Nat.le_of_ble_eq_true rfl) ⟨Nat.le_of_ble_eq_true rfl, Nat.le_of_ble_eq_true rfl⟩ ?_
      refine R_ifp_eq 44 79 rfl rfl dX1_takes_41 (fun h41 => ?_) (fun h41 => ?_)
      · refine R_iconst 80 rfl dX1_takes_79 ?_
        refine R_zreturn dX1_takes_80 rfl (by first | decide | exact pI_01 _) ?_
        first | exact Qi_mk (pI_1 (inC_iff.mpr (by omega))) | exact Qi_mk (pI_0 (fun q => by have := inC_iff.mp q; omega))
      · refine R_aload_n 45 rfl dX1_takes_44 rfl ?_
        refine R_getI 3 48 rfl dX1_takes_45 rfl rfl fl_X1_29 ?_
        rw [c3]
        refine R_iload_n 49 rfl dX1_takes_48 rfl ?_
        refine R_iconst 50 rfl dX1_takes_49 ?_
        refine R_irem_p 51 rfl dX1_takes_50 (by first | assumption | exact ⟨by omega, by omega⟩) (by first | assumption | exact ⟨by omega, by omega⟩) (by omega) (by omega) ?_
        refine R_callN_i (M' := mX10_hasBit) 54 rfl dX1_takes_51 mn_X1_41 kmX10_hasBit st_X10_hasBit (c_X10_hasBit _ _ (k % 2) ⟨by omega, by omega⟩ (by omega) (by omega)) rfl rfl ⟨Nat.le_of_ble_eq_true rfl, Nat.le_of_ble_eq_true rfl⟩ (Nat.le_of_ble_eq_true rfl) ⟨Nat.le_of_ble_eq_true rfl, Nat.le_of_ble_eq_true rfl⟩ ?_
        refine R_ifp_eq 57 79 rfl rfl dX1_takes_54 (fun h54 => ?_) (fun h54 => ?_)
        · refine R_iconst 80 rfl dX1_takes_79 ?_
          refine R_zreturn dX1_takes_80 rfl (by first | decide | exact pI_01 _) ?_
          first | exact Qi_mk (pI_1 (inC_iff.mpr (by omega))) | exact Qi_mk (pI_0 (fun q => by have := inC_iff.mp q; omega))
        · refine R_aload_n 58 rfl dX1_takes_57 rfl ?_
          refine R_getI 4 61 rfl dX1_takes_58 rfl rfl fl_X1_32 ?_
          rw [c4]
          refine R_aload_n 62 rfl dX1_takes_61 rfl ?_
          refine R_getP 1 65 rfl dX1_takes_62 rfl rfl fl_X1_35 (hP _ _ _ rfl) ?_
          refine R_iconst 66 rfl dX1_takes_65 ?_
          refine R_aald 2 67 rfl dX1_takes_66 rfl rfl (by first | rfl | omega) (by decide) (by decide) (hP _ _ _ rfl) ?_
          refine R_iload_n 68 rfl dX1_takes_67 rfl ?_
          refine R_iald (k / 2) 69 rfl dX1_takes_68 rfl (by first | rfl | omega) (by omega) (by decide) ?_
          rw [p2]
          refine R_callN_i (M' := mX10_hasBit) 72 rfl dX1_takes_69 mn_X1_41 kmX10_hasBit st_X10_hasBit (c_X10_hasBit _ _ (B.2.1 2 (k / 2)).toNat ⟨by omega, by omega⟩ (by omega) (by omega)) rfl rfl ⟨Nat.le_of_ble_eq_true rfl, Nat.le_of_ble_eq_true rfl⟩ (Nat.le_of_ble_eq_true rfl) ⟨Nat.le_of_ble_eq_true rfl, Nat.le_of_ble_eq_true rfl⟩ ?_
          refine R_ifp_eq 75 79 rfl rfl dX1_takes_72 (fun h72 => ?_) (fun h72 => ?_)
          · refine R_iconst 80 rfl dX1_takes_79 ?_
            refine R_zreturn dX1_takes_80 rfl (by first | decide | exact pI_01 _) ?_
            first | exact Qi_mk (pI_1 (inC_iff.mpr (by omega))) | exact Qi_mk (pI_0 (fun q => by have := inC_iff.mp q; omega))
          · refine R_iconst 76 rfl dX1_takes_75 ?_
            refine R_goto 80 rfl dX1_takes_76 ?_
            refine R_zreturn dX1_takes_80 rfl (by first | decide | exact pI_01 _) ?_
            first | exact Qi_mk (pI_1 (inC_iff.mpr (by omega))) | exact Qi_mk (pI_0 (fun q => by have := inC_iff.mp q; omega))
end
