def a_told (L : Ld) (w : Int) : Int := if 0 ≤ w ∧ w ≤ 10 then L.1 w.toNat else -1
def a_parish (L : Ld) (B : Bk) (p w : Int) : Int := if (0 ≤ p ∧ p < L.1 0) ∧ (0 ≤ w ∧ w ≤ 4) then (if w = 4 then (cnt (fun k => decide (B.2.1 0 k = p)) B.1 : Int) else L.2.1 w.toNat p.toNat) else -1
def a_clerk (L : Ld) (B : Bk) (k w : Int) : Int := if (0 ≤ k ∧ k < L.1 1) ∧ (0 ≤ w ∧ w ≤ 5) then (if w < 5 then L.2.2 w.toNat k.toNat else (cnt (fun j => decide (wr L B j = k)) (2 * B.1) : Int)) else -1
def a_of (B : Bk) (m w : Int) : Int := if (0 ≤ m ∧ m < B.1) ∧ (0 ≤ w ∧ w ≤ 2) then B.2.1 w.toNat m.toNat else -1
def a_has (B : Bk) (m s w : Int) : Int := if ((0 ≤ m ∧ m < B.1) ∧ 0 ≤ s ∧ s ≤ 1) ∧ (0 ≤ w ∧ w ≤ 4) then B.2.2 w.toNat (2 * m + s).toNat else -1
def a_kind (L : Ld) (B : Bk) (m s : Int) : Int := if (0 ≤ m ∧ m < B.1) ∧ 0 ≤ s ∧ s ≤ 1 then kd L B (2 * m + s).toNat else -1
def a_writer (L : Ld) (B : Bk) (m s : Int) : Int := if (0 ≤ m ∧ m < B.1) ∧ 0 ≤ s ∧ s ≤ 1 then wr L B (2 * m + s).toNat else -1
def a_apart (a b : Int) : Int := if (0 ≤ a ∧ a ≤ 255) ∧ (0 ≤ b ∧ b ≤ 255) then ap a b else -1
section
variable {Γ : GX} {m : Mem} {B : Bk} {L : Ld} {ch : Cs} {o d : Nat}
theorem c_X10_told (w : Int) (hCS : CS o d L B ch m) (hw : rg w) : C Γ mX10_told 2 80 0 0 [vr 0, vi w] SH m (QA o d L B ch m (a_told L w)) := by
  refine C_of_R rfl (Nat.le_of_ble_eq_true rfl) ?_
  obtain ⟨hPO, hB, hO, hL, hLO, hC, hCO, hst, hkc⟩ := id hCS
  have hP := hPO.2
  have hw1 := hw.1
  have hw2 := hw.2
  rcases hL with ⟨rfl, hL⟩ | ⟨rfl, hL⟩
  all_goals
    have h1 := hL.1
    have h2 := hL.2.1
    refine R_iload_n 1 rfl dX10_told_0 rfl ?_
    rcases (show w < 0 ∨ 10 < w ∨ w = 0 ∨ w = 1 ∨ w = 2 ∨ w = 3 ∨ w = 4 ∨ w = 5 ∨ w = 6 ∨ w = 7 ∨ w = 8 ∨ w = 9 ∨ w = 10 by omega) with h1 | h1 | rfl | rfl | rfl | rfl | rfl | rfl | rfl | rfl | rfl | rfl | rfl
    · refine R_tsOut 129 dX10_told_1 (by first | assumption | exact ⟨by omega, by omega⟩) (by omega) rfl ?_
      refine R_iconst 130 rfl dX10_told_129 ?_
      refine R_ireturn dX10_told_130 rfl ?_
      exact QI_mk ⟨by unfold a_told; rw [if_neg (by omega)], Fs.rf, hCS⟩
    · refine R_tsOut 129 dX10_told_1 (by first | assumption | exact ⟨by omega, by omega⟩) (by omega) rfl ?_
      refine R_iconst 130 rfl dX10_told_129 ?_
      refine R_ireturn dX10_told_130 rfl ?_
      exact QI_mk ⟨by unfold a_told; rw [if_neg (by omega)], Fs.rf, hCS⟩
    · refine R_tsIn 60 dX10_told_1 ⟨by omega, by omega⟩ (by omega) (by omega) rfl rfl ?_
      refine R_aload_n 61 rfl dX10_told_60 rfl ?_
      refine R_getP 2 64 rfl dX10_told_61 rfl rfl fl_X10_26 (PO_o hPO) ?_
      refine R_getI 0 67 rfl dX10_told_64 rfl rfl fl_X10_125 ?_
      refine R_ireturn dX10_told_67 rfl ?_
      first | exact QI_mk ⟨by unfold a_told; rw [if_pos (by omega)]; first | exact h1.1 | exact h1.2.1 | exact h1.2.2.1 | exact h1.2.2.2.1 | exact h1.2.2.2.2.1 | exact h1.2.2.2.2.2.1 | exact h1.2.2.2.2.2.2 | exact h2.1 | exact h2.2.1 | exact h2.2.2.1 | exact h2.2.2.2, Fs.rf, hCS⟩
    · refine R_tsIn 68 dX10_told_1 ⟨by omega, by omega⟩ (by omega) (by omega) rfl rfl ?_
      refine R_aload_n 69 rfl dX10_told_68 rfl ?_
      refine R_getP 2 72 rfl dX10_told_69 rfl rfl fl_X10_26 (PO_o hPO) ?_
      refine R_getI 1 75 rfl dX10_told_72 rfl rfl fl_X10_128 ?_
      refine R_ireturn dX10_told_75 rfl ?_
      first | exact QI_mk ⟨by unfold a_told; rw [if_pos (by omega)]; first | exact h1.1 | exact h1.2.1 | exact h1.2.2.1 | exact h1.2.2.2.1 | exact h1.2.2.2.2.1 | exact h1.2.2.2.2.2.1 | exact h1.2.2.2.2.2.2 | exact h2.1 | exact h2.2.1 | exact h2.2.2.1 | exact h2.2.2.2, Fs.rf, hCS⟩
    · refine R_tsIn 76 dX10_told_1 ⟨by omega, by omega⟩ (by omega) (by omega) rfl rfl ?_
      refine R_aload_n 77 rfl dX10_told_76 rfl ?_
      refine R_getP 2 80 rfl dX10_told_77 rfl rfl fl_X10_26 (PO_o hPO) ?_
      refine R_getI 2 83 rfl dX10_told_80 rfl rfl fl_X10_131 ?_
      refine R_ireturn dX10_told_83 rfl ?_
      first | exact QI_mk ⟨by unfold a_told; rw [if_pos (by omega)]; first | exact h1.1 | exact h1.2.1 | exact h1.2.2.1 | exact h1.2.2.2.1 | exact h1.2.2.2.2.1 | exact h1.2.2.2.2.2.1 | exact h1.2.2.2.2.2.2 | exact h2.1 | exact h2.2.1 | exact h2.2.2.1 | exact h2.2.2.2, Fs.rf, hCS⟩
    · refine R_tsIn 84 dX10_told_1 ⟨by omega, by omega⟩ (by omega) (by omega) rfl rfl ?_
      refine R_aload_n 85 rfl dX10_told_84 rfl ?_
      refine R_getP 2 88 rfl dX10_told_85 rfl rfl fl_X10_26 (PO_o hPO) ?_
      refine R_getI 3 91 rfl dX10_told_88 rfl rfl fl_X10_134 ?_
      refine R_ireturn dX10_told_91 rfl ?_
      first | exact QI_mk ⟨by unfold a_told; rw [if_pos (by omega)]; first | exact h1.1 | exact h1.2.1 | exact h1.2.2.1 | exact h1.2.2.2.1 | exact h1.2.2.2.2.1 | exact h1.2.2.2.2.2.1 | exact h1.2.2.2.2.2.2 | exact h2.1 | exact h2.2.1 | exact h2.2.2.1 | exact h2.2.2.2, Fs.rf, hCS⟩
    · refine R_tsIn 92 dX10_told_1 ⟨by omega, by omega⟩ (by omega) (by omega) rfl rfl ?_
      refine R_aload_n 93 rfl dX10_told_92 rfl ?_
      refine R_getP 2 96 rfl dX10_told_93 rfl rfl fl_X10_26 (PO_o hPO) ?_
      refine R_getI 4 99 rfl dX10_told_96 rfl rfl fl_X10_137 ?_
      refine R_ireturn dX10_told_99 rfl ?_
      first | exact QI_mk ⟨by unfold a_told; rw [if_pos (by omega)]; first | exact h1.1 | exact h1.2.1 | exact h1.2.2.1 | exact h1.2.2.2.1 | exact h1.2.2.2.2.1 | exact h1.2.2.2.2.2.1 | exact h1.2.2.2.2.2.2 | exact h2.1 | exact h2.2.1 | exact h2.2.2.1 | exact h2.2.2.2, Fs.rf, hCS⟩
    · refine R_tsIn 100 dX10_told_1 ⟨by omega, by omega⟩ (by omega) (by omega) rfl rfl ?_
      refine R_aload_n 101 rfl dX10_told_100 rfl ?_
      refine R_getP 2 104 rfl dX10_told_101 rfl rfl fl_X10_26 (PO_o hPO) ?_
      refine R_getI 5 107 rfl dX10_told_104 rfl rfl fl_X10_140 ?_
      refine R_ireturn dX10_told_107 rfl ?_
      first | exact QI_mk ⟨by unfold a_told; rw [if_pos (by omega)]; first | exact h1.1 | exact h1.2.1 | exact h1.2.2.1 | exact h1.2.2.2.1 | exact h1.2.2.2.2.1 | exact h1.2.2.2.2.2.1 | exact h1.2.2.2.2.2.2 | exact h2.1 | exact h2.2.1 | exact h2.2.2.1 | exact h2.2.2.2, Fs.rf, hCS⟩
    · refine R_tsIn 108 dX10_told_1 ⟨by omega, by omega⟩ (by omega) (by omega) rfl rfl ?_
      refine R_aload_n 109 rfl dX10_told_108 rfl ?_
      refine R_getP 2 112 rfl dX10_told_109 rfl rfl fl_X10_26 (PO_o hPO) ?_
      refine R_getI 6 115 rfl dX10_told_112 rfl rfl fl_X10_143 ?_
      refine R_ireturn dX10_told_115 rfl ?_
      first | exact QI_mk ⟨by unfold a_told; rw [if_pos (by omega)]; first | exact h1.1 | exact h1.2.1 | exact h1.2.2.1 | exact h1.2.2.2.1 | exact h1.2.2.2.2.1 | exact h1.2.2.2.2.2.1 | exact h1.2.2.2.2.2.2 | exact h2.1 | exact h2.2.1 | exact h2.2.2.1 | exact h2.2.2.2, Fs.rf, hCS⟩
    · refine R_tsIn 116 dX10_told_1 ⟨by omega, by omega⟩ (by omega) (by omega) rfl rfl ?_
      refine R_aload_n 117 rfl dX10_told_116 rfl ?_
      refine R_getP 2 120 rfl dX10_told_117 rfl rfl fl_X10_26 (PO_o hPO) ?_
      refine R_getP 7 123 rfl dX10_told_120 rfl rfl fl_X10_146 (hP _ _ _ rfl) ?_
      refine R_iload_n 124 rfl dX10_told_123 rfl ?_
      refine R_bipush 126 rfl dX10_told_124 (by decide) ?_
      refine R_isub 127 rfl dX10_told_126 ?_
      first | refine R_top (b := ((0 : Nat) : Int)) (by decide) ?_ | refine R_top (b := ((1 : Nat) : Int)) (by decide) ?_ | refine R_top (b := ((2 : Nat) : Int)) (by decide) ?_ | refine R_top (b := ((3 : Nat) : Int)) (by decide) ?_
      refine R_iald _ 128 rfl dX10_told_127 rfl rfl (by decide) (by decide) ?_
      refine R_ireturn dX10_told_128 rfl ?_
      first | exact QI_mk ⟨by unfold a_told; rw [if_pos (by omega)]; first | exact h1.1 | exact h1.2.1 | exact h1.2.2.1 | exact h1.2.2.2.1 | exact h1.2.2.2.2.1 | exact h1.2.2.2.2.2.1 | exact h1.2.2.2.2.2.2 | exact h2.1 | exact h2.2.1 | exact h2.2.2.1 | exact h2.2.2.2, Fs.rf, hCS⟩
    · refine R_tsIn 116 dX10_told_1 ⟨by omega, by omega⟩ (by omega) (by omega) rfl rfl ?_
      refine R_aload_n 117 rfl dX10_told_116 rfl ?_
      refine R_getP 2 120 rfl dX10_told_117 rfl rfl fl_X10_26 (PO_o hPO) ?_
      refine R_getP 7 123 rfl dX10_told_120 rfl rfl fl_X10_146 (hP _ _ _ rfl) ?_
      refine R_iload_n 124 rfl dX10_told_123 rfl ?_
      refine R_bipush 126 rfl dX10_told_124 (by decide) ?_
      refine R_isub 127 rfl dX10_told_126 ?_
      first | refine R_top (b := ((0 : Nat) : Int)) (by decide) ?_ | refine R_top (b := ((1 : Nat) : Int)) (by decide) ?_ | refine R_top (b := ((2 : Nat) : Int)) (by decide) ?_ | refine R_top (b := ((3 : Nat) : Int)) (by decide) ?_
      refine R_iald _ 128 rfl dX10_told_127 rfl rfl (by decide) (by decide) ?_
      refine R_ireturn dX10_told_128 rfl ?_
      first | exact QI_mk ⟨by unfold a_told; rw [if_pos (by omega)]; first | exact h1.1 | exact h1.2.1 | exact h1.2.2.1 | exact h1.2.2.2.1 | exact h1.2.2.2.2.1 | exact h1.2.2.2.2.2.1 | exact h1.2.2.2.2.2.2 | exact h2.1 | exact h2.2.1 | exact h2.2.2.1 | exact h2.2.2.2, Fs.rf, hCS⟩
    · refine R_tsIn 116 dX10_told_1 ⟨by omega, by omega⟩ (by omega) (by omega) rfl rfl ?_
      refine R_aload_n 117 rfl dX10_told_116 rfl ?_
      refine R_getP 2 120 rfl dX10_told_117 rfl rfl fl_X10_26 (PO_o hPO) ?_
      refine R_getP 7 123 rfl dX10_told_120 rfl rfl fl_X10_146 (hP _ _ _ rfl) ?_
      refine R_iload_n 124 rfl dX10_told_123 rfl ?_
      refine R_bipush 126 rfl dX10_told_124 (by decide) ?_
      refine R_isub 127 rfl dX10_told_126 ?_
      first | refine R_top (b := ((0 : Nat) : Int)) (by decide) ?_ | refine R_top (b := ((1 : Nat) : Int)) (by decide) ?_ | refine R_top (b := ((2 : Nat) : Int)) (by decide) ?_ | refine R_top (b := ((3 : Nat) : Int)) (by decide) ?_
      refine R_iald _ 128 rfl dX10_told_127 rfl rfl (by decide) (by decide) ?_
      refine R_ireturn dX10_told_128 rfl ?_
      first | exact QI_mk ⟨by unfold a_told; rw [if_pos (by omega)]; first | exact h1.1 | exact h1.2.1 | exact h1.2.2.1 | exact h1.2.2.2.1 | exact h1.2.2.2.2.1 | exact h1.2.2.2.2.2.1 | exact h1.2.2.2.2.2.2 | exact h2.1 | exact h2.2.1 | exact h2.2.2.1 | exact h2.2.2.2, Fs.rf, hCS⟩
    · refine R_tsIn 116 dX10_told_1 ⟨by omega, by omega⟩ (by omega) (by omega) rfl rfl ?_
      refine R_aload_n 117 rfl dX10_told_116 rfl ?_
      refine R_getP 2 120 rfl dX10_told_117 rfl rfl fl_X10_26 (PO_o hPO) ?_
      refine R_getP 7 123 rfl dX10_told_120 rfl rfl fl_X10_146 (hP _ _ _ rfl) ?_
      refine R_iload_n 124 rfl dX10_told_123 rfl ?_
      refine R_bipush 126 rfl dX10_told_124 (by decide) ?_
      refine R_isub 127 rfl dX10_told_126 ?_
      first | refine R_top (b := ((0 : Nat) : Int)) (by decide) ?_ | refine R_top (b := ((1 : Nat) : Int)) (by decide) ?_ | refine R_top (b := ((2 : Nat) : Int)) (by decide) ?_ | refine R_top (b := ((3 : Nat) : Int)) (by decide) ?_
      refine R_iald _ 128 rfl dX10_told_127 rfl rfl (by decide) (by decide) ?_
      refine R_ireturn dX10_told_128 rfl ?_
      first | exact QI_mk ⟨by unfold a_told; rw [if_pos (by omega)]; first | exact h1.1 | exact h1.2.1 | exact h1.2.2.1 | exact h1.2.2.2.1 | exact h1.2.2.2.2.1 | exact h1.2.2.2.2.2.1 | exact h1.2.2.2.2.2.2 | exact h2.1 | exact h2.2.1 | exact h2.2.2.1 | exact h2.2.2.2, Fs.rf, hCS⟩
theorem c_X10_parish0 (p : Int) (hCS : CS o d L B ch m) (hp : rg p) : C Γ mX10_parish 2 80 0 0 [vr 0, vi p, vi 0] SH m (QA o d L B ch m (a_parish L B p 0)) := by
  refine C_of_R rfl (Nat.le_of_ble_eq_true rfl) ?_
  obtain ⟨hPO, hB, hO, hL, hLO, hC, hCO, hst, hkc⟩ := id hCS
  have hP := hPO.2
  rcases hL with ⟨rfl, hL⟩ | ⟨rfl, hL⟩
  all_goals
    have h1 := hL.1
    have h0 := hLO.1
    refine R_aload_n 1 rfl dX10_parish_0 rfl ?_
    refine R_iload_n 2 rfl dX10_parish_1 rfl ?_
    refine R_callV_i (M' := mX10_isParish) 5 rfl dX10_parish_2 ml_X10_149 kmX10_isParish im_X10_isParish se_X10_isParish rfl ⟨by decide, rfl⟩ (c_X10_isParish _ hCS (by first | assumption | exact ⟨by omega, by omega⟩)) rfl rfl ⟨Nat.le_of_ble_eq_true rfl, Nat.le_of_ble_eq_true rfl⟩ (Nat.le_of_ble_eq_true rfl) ⟨Nat.le_of_ble_eq_true rfl, Nat.le_of_ble_eq_true rfl⟩ ?_
    refine R_ifp_eq 8 17 rfl rfl dX10_parish_5 (fun h5 => ?_) (fun h5 => ?_)
    · refine R_iconst 18 rfl dX10_parish_17 ?_
      refine R_ireturn dX10_parish_18 rfl ?_
      first | (exfalso; omega) | exact QI_mk ⟨by unfold a_parish; rw [if_neg (by omega)], Fs.rf, hCS⟩
    · refine R_iload_n 9 rfl dX10_parish_8 rfl ?_
      refine R_iconst 10 rfl dX10_parish_9 ?_
      refine R_iconst 11 rfl dX10_parish_10 ?_
      refine R_callS_i (M' := mX10_within) 14 rfl dX10_parish_11 ml_X10_108 kmX10_within st_X10_within (c_X10_within _ _ _ (by first | assumption | exact ⟨by omega, by omega⟩) (by first | assumption | exact ⟨by omega, by omega⟩) (by first | assumption | exact ⟨by omega, by omega⟩)) rfl rfl ⟨Nat.le_of_ble_eq_true rfl, Nat.le_of_ble_eq_true rfl⟩ (Nat.le_of_ble_eq_true rfl) ⟨Nat.le_of_ble_eq_true rfl, Nat.le_of_ble_eq_true rfl⟩ ?_
      refine R_ifp_ne 17 19 rfl rfl dX10_parish_14 (fun h14 => ?_) (fun h14 => ?_)
      · refine R_iload_n 20 rfl dX10_parish_19 rfl ?_
        refine R_iconst 21 rfl dX10_parish_20 ?_
        refine R_icmp_ne 24 35 rfl rfl dX10_parish_21 (by first | assumption | exact ⟨by omega, by omega⟩) (by first | assumption | exact ⟨by omega, by omega⟩) (fun h21 => ?_) (fun h21 => ?_)
        rotate_left
        · exact absurd h21 (by omega)
        have h2 := hL.2.2.1 p.toNat (by omega)
        refine R_aload_n 36 rfl dX10_parish_35 rfl ?_
        refine R_getP 2 39 rfl dX10_parish_36 rfl rfl fl_X10_26 (PO_o hPO) ?_
        refine R_getP 8 42 rfl dX10_parish_39 rfl rfl fl_X10_157 (hP _ _ _ rfl) ?_
        refine R_iload_n 43 rfl dX10_parish_42 rfl ?_
        refine R_aald 0 44 rfl dX10_parish_43 rfl rfl (by first | rfl | omega) (by decide) (by decide) (hP _ _ _ rfl) ?_
        refine R_iload_n 45 rfl dX10_parish_44 rfl ?_
        refine R_iald p.toNat 46 rfl dX10_parish_45 rfl (by first | rfl | omega) (by omega) (by decide) ?_
        refine R_ireturn dX10_parish_46 rfl ?_
        exact QI_mk ⟨by unfold a_parish; rw [if_pos (by omega), if_neg (by omega)]; first | exact h2.1 | exact h2.2.1 | exact h2.2.2.1 | exact h2.2.2.2, Fs.rf, hCS⟩
      · refine R_iconst 18 rfl dX10_parish_17 ?_
        refine R_ireturn dX10_parish_18 rfl ?_
        first | (exfalso; omega) | exact QI_mk ⟨by unfold a_parish; rw [if_neg (by omega)], Fs.rf, hCS⟩
theorem c_X10_parish1 (p : Int) (hCS : CS o d L B ch m) (hp : rg p) : C Γ mX10_parish 2 80 0 0 [vr 0, vi p, vi 1] SH m (QA o d L B ch m (a_parish L B p 1)) := by
  refine C_of_R rfl (Nat.le_of_ble_eq_true rfl) ?_
  obtain ⟨hPO, hB, hO, hL, hLO, hC, hCO, hst, hkc⟩ := id hCS
  have hP := hPO.2
  rcases hL with ⟨rfl, hL⟩ | ⟨rfl, hL⟩
  all_goals
    have h1 := hL.1
    have h0 := hLO.1
    refine R_aload_n 1 rfl dX10_parish_0 rfl ?_
    refine R_iload_n 2 rfl dX10_parish_1 rfl ?_
    refine R_callV_i (M' := mX10_isParish) 5 rfl dX10_parish_2 ml_X10_149 kmX10_isParish im_X10_isParish se_X10_isParish rfl ⟨by decide, rfl⟩ (c_X10_isParish _ hCS (by first | assumption | exact ⟨by omega, by omega⟩)) rfl rfl ⟨Nat.le_of_ble_eq_true rfl, Nat.le_of_ble_eq_true rfl⟩ (Nat.le_of_ble_eq_true rfl) ⟨Nat.le_of_ble_eq_true rfl, Nat.le_of_ble_eq_true rfl⟩ ?_
    refine R_ifp_eq 8 17 rfl rfl dX10_parish_5 (fun h5 => ?_) (fun h5 => ?_)
    · refine R_iconst 18 rfl dX10_parish_17 ?_
      refine R_ireturn dX10_parish_18 rfl ?_
      first | (exfalso; omega) | exact QI_mk ⟨by unfold a_parish; rw [if_neg (by omega)], Fs.rf, hCS⟩
    · refine R_iload_n 9 rfl dX10_parish_8 rfl ?_
      refine R_iconst 10 rfl dX10_parish_9 ?_
      refine R_iconst 11 rfl dX10_parish_10 ?_
      refine R_callS_i (M' := mX10_within) 14 rfl dX10_parish_11 ml_X10_108 kmX10_within st_X10_within (c_X10_within _ _ _ (by first | assumption | exact ⟨by omega, by omega⟩) (by first | assumption | exact ⟨by omega, by omega⟩) (by first | assumption | exact ⟨by omega, by omega⟩)) rfl rfl ⟨Nat.le_of_ble_eq_true rfl, Nat.le_of_ble_eq_true rfl⟩ (Nat.le_of_ble_eq_true rfl) ⟨Nat.le_of_ble_eq_true rfl, Nat.le_of_ble_eq_true rfl⟩ ?_
      refine R_ifp_ne 17 19 rfl rfl dX10_parish_14 (fun h14 => ?_) (fun h14 => ?_)
      · refine R_iload_n 20 rfl dX10_parish_19 rfl ?_
        refine R_iconst 21 rfl dX10_parish_20 ?_
        refine R_icmp_ne 24 35 rfl rfl dX10_parish_21 (by first | assumption | exact ⟨by omega, by omega⟩) (by first | assumption | exact ⟨by omega, by omega⟩) (fun h21 => ?_) (fun h21 => ?_)
        rotate_left
        · exact absurd h21 (by omega)
        have h2 := hL.2.2.1 p.toNat (by omega)
        refine R_aload_n 36 rfl dX10_parish_35 rfl ?_
        refine R_getP 2 39 rfl dX10_parish_36 rfl rfl fl_X10_26 (PO_o hPO) ?_
        refine R_getP 8 42 rfl dX10_parish_39 rfl rfl fl_X10_157 (hP _ _ _ rfl) ?_
        refine R_iload_n 43 rfl dX10_parish_42 rfl ?_
        refine R_aald 1 44 rfl dX10_parish_43 rfl rfl (by first | rfl | omega) (by decide) (by decide) (hP _ _ _ rfl) ?_
        refine R_iload_n 45 rfl dX10_parish_44 rfl ?_
        refine R_iald p.toNat 46 rfl dX10_parish_45 rfl (by first | rfl | omega) (by omega) (by decide) ?_
        refine R_ireturn dX10_parish_46 rfl ?_
        exact QI_mk ⟨by unfold a_parish; rw [if_pos (by omega), if_neg (by omega)]; first | exact h2.1 | exact h2.2.1 | exact h2.2.2.1 | exact h2.2.2.2, Fs.rf, hCS⟩
      · refine R_iconst 18 rfl dX10_parish_17 ?_
        refine R_ireturn dX10_parish_18 rfl ?_
        first | (exfalso; omega) | exact QI_mk ⟨by unfold a_parish; rw [if_neg (by omega)], Fs.rf, hCS⟩
theorem c_X10_parish2 (p : Int) (hCS : CS o d L B ch m) (hp : rg p) : C Γ mX10_parish 2 80 0 0 [vr 0, vi p, vi 2] SH m (QA o d L B ch m (a_parish L B p 2)) := by
  refine C_of_R rfl (Nat.le_of_ble_eq_true rfl) ?_
  obtain ⟨hPO, hB, hO, hL, hLO, hC, hCO, hst, hkc⟩ := id hCS
  have hP := hPO.2
  rcases hL with ⟨rfl, hL⟩ | ⟨rfl, hL⟩
  all_goals
    have h1 := hL.1
    have h0 := hLO.1
    refine R_aload_n 1 rfl dX10_parish_0 rfl ?_
    refine R_iload_n 2 rfl dX10_parish_1 rfl ?_
    refine R_callV_i (M' := mX10_isParish) 5 rfl dX10_parish_2 ml_X10_149 kmX10_isParish im_X10_isParish se_X10_isParish rfl ⟨by decide, rfl⟩ (c_X10_isParish _ hCS (by first | assumption | exact ⟨by omega, by omega⟩)) rfl rfl ⟨Nat.le_of_ble_eq_true rfl, Nat.le_of_ble_eq_true rfl⟩ (Nat.le_of_ble_eq_true rfl) ⟨Nat.le_of_ble_eq_true rfl, Nat.le_of_ble_eq_true rfl⟩ ?_
    refine R_ifp_eq 8 17 rfl rfl dX10_parish_5 (fun h5 => ?_) (fun h5 => ?_)
    · refine R_iconst 18 rfl dX10_parish_17 ?_
      refine R_ireturn dX10_parish_18 rfl ?_
      first | (exfalso; omega) | exact QI_mk ⟨by unfold a_parish; rw [if_neg (by omega)], Fs.rf, hCS⟩
    · refine R_iload_n 9 rfl dX10_parish_8 rfl ?_
      refine R_iconst 10 rfl dX10_parish_9 ?_
      refine R_iconst 11 rfl dX10_parish_10 ?_
      refine R_callS_i (M' := mX10_within) 14 rfl dX10_parish_11 ml_X10_108 kmX10_within st_X10_within (c_X10_within _ _ _ (by first | assumption | exact ⟨by omega, by omega⟩) (by first | assumption | exact ⟨by omega, by omega⟩) (by first | assumption | exact ⟨by omega, by omega⟩)) rfl rfl ⟨Nat.le_of_ble_eq_true rfl, Nat.le_of_ble_eq_true rfl⟩ (Nat.le_of_ble_eq_true rfl) ⟨Nat.le_of_ble_eq_true rfl, Nat.le_of_ble_eq_true rfl⟩ ?_
      refine R_ifp_ne 17 19 rfl rfl dX10_parish_14 (fun h14 => ?_) (fun h14 => ?_)
      · refine R_iload_n 20 rfl dX10_parish_19 rfl ?_
        refine R_iconst 21 rfl dX10_parish_20 ?_
        refine R_icmp_ne 24 35 rfl rfl dX10_parish_21 (by first | assumption | exact ⟨by omega, by omega⟩) (by first | assumption | exact ⟨by omega, by omega⟩) (fun h21 => ?_) (fun h21 => ?_)
        rotate_left
        · exact absurd h21 (by omega)
        have h2 := hL.2.2.1 p.toNat (by omega)
        refine R_aload_n 36 rfl dX10_parish_35 rfl ?_
        refine R_getP 2 39 rfl dX10_parish_36 rfl rfl fl_X10_26 (PO_o hPO) ?_
        refine R_getP 8 42 rfl dX10_parish_39 rfl rfl fl_X10_157 (hP _ _ _ rfl) ?_
        refine R_iload_n 43 rfl dX10_parish_42 rfl ?_
        refine R_aald 2 44 rfl dX10_parish_43 rfl rfl (by first | rfl | omega) (by decide) (by decide) (hP _ _ _ rfl) ?_
        refine R_iload_n 45 rfl dX10_parish_44 rfl ?_
        refine R_iald p.toNat 46 rfl dX10_parish_45 rfl (by first | rfl | omega) (by omega) (by decide) ?_
        refine R_ireturn dX10_parish_46 rfl ?_
        exact QI_mk ⟨by unfold a_parish; rw [if_pos (by omega), if_neg (by omega)]; first | exact h2.1 | exact h2.2.1 | exact h2.2.2.1 | exact h2.2.2.2, Fs.rf, hCS⟩
      · refine R_iconst 18 rfl dX10_parish_17 ?_
        refine R_ireturn dX10_parish_18 rfl ?_
        first | (exfalso; omega) | exact QI_mk ⟨by unfold a_parish; rw [if_neg (by omega)], Fs.rf, hCS⟩
theorem c_X10_parish3 (p : Int) (hCS : CS o d L B ch m) (hp : rg p) : C Γ mX10_parish 2 80 0 0 [vr 0, vi p, vi 3] SH m (QA o d L B ch m (a_parish L B p 3)) := by
  refine C_of_R rfl (Nat.le_of_ble_eq_true rfl) ?_
  obtain ⟨hPO, hB, hO, hL, hLO, hC, hCO, hst, hkc⟩ := id hCS
  have hP := hPO.2
  rcases hL with ⟨rfl, hL⟩ | ⟨rfl, hL⟩
  all_goals
    have h1 := hL.1
    have h0 := hLO.1
    refine R_aload_n 1 rfl dX10_parish_0 rfl ?_
    refine R_iload_n 2 rfl dX10_parish_1 rfl ?_
    refine R_callV_i (M' := mX10_isParish) 5 rfl dX10_parish_2 ml_X10_149 kmX10_isParish im_X10_isParish se_X10_isParish rfl ⟨by decide, rfl⟩ (c_X10_isParish _ hCS (by first | assumption | exact ⟨by omega, by omega⟩)) rfl rfl ⟨Nat.le_of_ble_eq_true rfl, Nat.le_of_ble_eq_true rfl⟩ (Nat.le_of_ble_eq_true rfl) ⟨Nat.le_of_ble_eq_true rfl, Nat.le_of_ble_eq_true rfl⟩ ?_
    refine R_ifp_eq 8 17 rfl rfl dX10_parish_5 (fun h5 => ?_) (fun h5 => ?_)
    · refine R_iconst 18 rfl dX10_parish_17 ?_
      refine R_ireturn dX10_parish_18 rfl ?_
      first | (exfalso; omega) | exact QI_mk ⟨by unfold a_parish; rw [if_neg (by omega)], Fs.rf, hCS⟩
    · refine R_iload_n 9 rfl dX10_parish_8 rfl ?_
      refine R_iconst 10 rfl dX10_parish_9 ?_
      refine R_iconst 11 rfl dX10_parish_10 ?_
      refine R_callS_i (M' := mX10_within) 14 rfl dX10_parish_11 ml_X10_108 kmX10_within st_X10_within (c_X10_within _ _ _ (by first | assumption | exact ⟨by omega, by omega⟩) (by first | assumption | exact ⟨by omega, by omega⟩) (by first | assumption | exact ⟨by omega, by omega⟩)) rfl rfl ⟨Nat.le_of_ble_eq_true rfl, Nat.le_of_ble_eq_true rfl⟩ (Nat.le_of_ble_eq_true rfl) ⟨Nat.le_of_ble_eq_true rfl, Nat.le_of_ble_eq_true rfl⟩ ?_
      refine R_ifp_ne 17 19 rfl rfl dX10_parish_14 (fun h14 => ?_) (fun h14 => ?_)
      · refine R_iload_n 20 rfl dX10_parish_19 rfl ?_
        refine R_iconst 21 rfl dX10_parish_20 ?_
        refine R_icmp_ne 24 35 rfl rfl dX10_parish_21 (by first | assumption | exact ⟨by omega, by omega⟩) (by first | assumption | exact ⟨by omega, by omega⟩) (fun h21 => ?_) (fun h21 => ?_)
        rotate_left
        · exact absurd h21 (by omega)
        have h2 := hL.2.2.1 p.toNat (by omega)
        refine R_aload_n 36 rfl dX10_parish_35 rfl ?_
        refine R_getP 2 39 rfl dX10_parish_36 rfl rfl fl_X10_26 (PO_o hPO) ?_
        refine R_getP 8 42 rfl dX10_parish_39 rfl rfl fl_X10_157 (hP _ _ _ rfl) ?_
        refine R_iload_n 43 rfl dX10_parish_42 rfl ?_
        refine R_aald 3 44 rfl dX10_parish_43 rfl rfl (by first | rfl | omega) (by decide) (by decide) (hP _ _ _ rfl) ?_
        refine R_iload_n 45 rfl dX10_parish_44 rfl ?_
        refine R_iald p.toNat 46 rfl dX10_parish_45 rfl (by first | rfl | omega) (by omega) (by decide) ?_
        refine R_ireturn dX10_parish_46 rfl ?_
        exact QI_mk ⟨by unfold a_parish; rw [if_pos (by omega), if_neg (by omega)]; first | exact h2.1 | exact h2.2.1 | exact h2.2.2.1 | exact h2.2.2.2, Fs.rf, hCS⟩
      · refine R_iconst 18 rfl dX10_parish_17 ?_
        refine R_ireturn dX10_parish_18 rfl ?_
        first | (exfalso; omega) | exact QI_mk ⟨by unfold a_parish; rw [if_neg (by omega)], Fs.rf, hCS⟩
theorem c_X10_parish (p w : Int) (hCS : CS o d L B ch m) (hp : rg p) (hw : rg w) : C Γ mX10_parish 2 80 0 0 [vr 0, vi p, vi w] SH m (QA o d L B ch m (a_parish L B p w)) := by
  rcases (show w = 0 ∨ w = 1 ∨ w = 2 ∨ w = 3 ∨ ¬ (0 ≤ w ∧ w ≤ 3) by omega) with rfl | rfl | rfl | rfl | hw3
  · exact c_X10_parish0 p hCS hp
  · exact c_X10_parish1 p hCS hp
  · exact c_X10_parish2 p hCS hp
  · exact c_X10_parish3 p hCS hp
  · refine C_of_R rfl (Nat.le_of_ble_eq_true rfl) ?_
    obtain ⟨hPO, hB, hO, hL, hLO, hC, hCO, hst, hkc⟩ := id hCS
    have hP := hPO.2
    have h0 := hLO.1
    refine R_aload_n 1 rfl dX10_parish_0 rfl ?_
    refine R_iload_n 2 rfl dX10_parish_1 rfl ?_
    refine R_callV_i (M' := mX10_isParish) 5 rfl dX10_parish_2 ml_X10_149 kmX10_isParish im_X10_isParish se_X10_isParish rfl ⟨by decide, rfl⟩ (c_X10_isParish _ hCS (by first | assumption | exact ⟨by omega, by omega⟩)) rfl rfl ⟨Nat.le_of_ble_eq_true rfl, Nat.le_of_ble_eq_true rfl⟩ (Nat.le_of_ble_eq_true rfl) ⟨Nat.le_of_ble_eq_true rfl, Nat.le_of_ble_eq_true rfl⟩ ?_
    refine R_ifp_eq 8 17 rfl rfl dX10_parish_5 (fun h5 => ?_) (fun h5 => ?_)
    · refine R_iconst 18 rfl dX10_parish_17 ?_
      refine R_ireturn dX10_parish_18 rfl ?_
      exact QI_mk ⟨by unfold a_parish; rw [if_neg (by omega)], Fs.rf, hCS⟩
    · refine R_iload_n 9 rfl dX10_parish_8 rfl ?_
      refine R_iconst 10 rfl dX10_parish_9 ?_
      refine R_iconst 11 rfl dX10_parish_10 ?_
      refine R_callS_i (M' := mX10_within) 14 rfl dX10_parish_11 ml_X10_108 kmX10_within st_X10_within (c_X10_within _ _ _ (by first | assumption | exact ⟨by omega, by omega⟩) (by first | assumption | exact ⟨by omega, by omega⟩) (by first | assumption | exact ⟨by omega, by omega⟩)) rfl rfl ⟨Nat.le_of_ble_eq_true rfl, Nat.le_of_ble_eq_true rfl⟩ (Nat.le_of_ble_eq_true rfl) ⟨Nat.le_of_ble_eq_true rfl, Nat.le_of_ble_eq_true rfl⟩ ?_
      refine R_ifp_ne 17 19 rfl rfl dX10_parish_14 (fun h14 => ?_) (fun h14 => ?_)
      · refine R_iload_n 20 rfl dX10_parish_19 rfl ?_
        refine R_iconst 21 rfl dX10_parish_20 ?_
        refine R_icmp_ne 24 35 rfl rfl dX10_parish_21 (by first | assumption | exact ⟨by omega, by omega⟩) (by first | assumption | exact ⟨by omega, by omega⟩) (fun h21 => ?_) (fun h21 => ?_)
        · exfalso; omega
        · refine R_aload_n 25 rfl dX10_parish_24 rfl ?_
          refine R_getP 5 28 rfl dX10_parish_25 rfl rfl fl_X10_40 (hP _ _ _ rfl) ?_
          refine R_iload_n 29 rfl dX10_parish_28 rfl ?_
          refine R_callV_i (M' := mX0_marriagesIn) 32 rfl dX10_parish_29 ml_X10_153 kmX0_marriagesIn im_X0_marriagesIn se_X0_marriagesIn rfl ⟨by decide, rfl⟩ (c_X0_marriagesIn _ hPO hB hO (by omega) hp) rfl rfl ⟨Nat.le_of_ble_eq_true rfl, Nat.le_of_ble_eq_true rfl⟩ (Nat.le_of_ble_eq_true rfl) ⟨Nat.le_of_ble_eq_true rfl, Nat.le_of_ble_eq_true rfl⟩ ?_
          refine R_goto 46 rfl dX10_parish_32 ?_
          refine R_ireturn dX10_parish_46 rfl ?_
          exact QI_mk ⟨by unfold a_parish; rw [if_pos (by omega), if_pos (by omega)], Fs.rf, hCS⟩
      · refine R_iconst 18 rfl dX10_parish_17 ?_
        refine R_ireturn dX10_parish_18 rfl ?_
        exact QI_mk ⟨by unfold a_parish; rw [if_neg (by omega)], Fs.rf, hCS⟩
theorem c_X10_clerk0 (k : Int) (hCS : CS o d L B ch m) (hk : rg k) : C Γ mX10_clerk 5 200 0 0 [vr 0, vi k, vi 0] SH m (QA o d L B ch m (a_clerk L B k 0)) := by
  refine C_of_R rfl (Nat.le_of_ble_eq_true rfl) ?_
  obtain ⟨hPO, hB, hO, hL, hLO, hC, hCO, hst, hkc⟩ := id hCS
  have hP := hPO.2
  rcases hL with ⟨rfl, hL⟩ | ⟨rfl, hL⟩
  all_goals
    have h1 := hL.1
    have h0 := hLO.1
    refine R_iload_n 1 rfl dX10_clerk_0 rfl ?_
    refine R_iconst 2 rfl dX10_clerk_1 ?_
    refine R_aload_n 3 rfl dX10_clerk_2 rfl ?_
    refine R_getP 2 6 rfl dX10_clerk_3 rfl rfl fl_X10_26 (PO_o hPO) ?_
    refine R_getI 1 9 rfl dX10_clerk_6 rfl rfl fl_X10_128 ?_
    refine R_iconst 10 rfl dX10_clerk_9 ?_
    refine R_isub 11 rfl dX10_clerk_10 ?_
    refine R_callS_i (M' := mX10_within) 14 rfl dX10_clerk_11 ml_X10_108 kmX10_within st_X10_within (c_X10_within _ _ _ (by first | assumption | exact ⟨by omega, by omega⟩) (by first | assumption | exact ⟨by omega, by omega⟩) (by first | assumption | exact ⟨by omega, by omega⟩)) rfl rfl ⟨Nat.le_of_ble_eq_true rfl, Nat.le_of_ble_eq_true rfl⟩ (Nat.le_of_ble_eq_true rfl) ⟨Nat.le_of_ble_eq_true rfl, Nat.le_of_ble_eq_true rfl⟩ ?_
    refine R_ifp_eq 17 26 rfl rfl dX10_clerk_14 (fun h14 => ?_) (fun h14 => ?_)
    · refine R_iconst 27 rfl dX10_clerk_26 ?_
      refine R_ireturn dX10_clerk_27 rfl ?_
      first | (exfalso; omega) | exact QI_mk ⟨by unfold a_clerk; rw [if_neg (by omega)], Fs.rf, hCS⟩
    · refine R_iload_n 18 rfl dX10_clerk_17 rfl ?_
      refine R_iconst 19 rfl dX10_clerk_18 ?_
      refine R_iconst 20 rfl dX10_clerk_19 ?_
      refine R_callS_i (M' := mX10_within) 23 rfl dX10_clerk_20 ml_X10_108 kmX10_within st_X10_within (c_X10_within _ _ _ (by first | assumption | exact ⟨by omega, by omega⟩) (by first | assumption | exact ⟨by omega, by omega⟩) (by first | assumption | exact ⟨by omega, by omega⟩)) rfl rfl ⟨Nat.le_of_ble_eq_true rfl, Nat.le_of_ble_eq_true rfl⟩ (Nat.le_of_ble_eq_true rfl) ⟨Nat.le_of_ble_eq_true rfl, Nat.le_of_ble_eq_true rfl⟩ ?_
      refine R_ifp_ne 26 28 rfl rfl dX10_clerk_23 (fun h23 => ?_) (fun h23 => ?_)
      · refine R_iload_n 29 rfl dX10_clerk_28 rfl ?_
        refine R_iconst 30 rfl dX10_clerk_29 ?_
        refine R_icmp_ge 33 45 rfl rfl dX10_clerk_30 (by first | assumption | exact ⟨by omega, by omega⟩) (by first | assumption | exact ⟨by omega, by omega⟩) (fun h30 => ?_) (fun h30 => ?_)
        · exact absurd h30 (by omega)
        have h2 := hL.2.2.2 k.toNat (by omega)
        refine R_aload_n 34 rfl dX10_clerk_33 rfl ?_
        refine R_getP 2 37 rfl dX10_clerk_34 rfl rfl fl_X10_26 (PO_o hPO) ?_
        refine R_getP 9 40 rfl dX10_clerk_37 rfl rfl fl_X10_160 (hP _ _ _ rfl) ?_
        refine R_iload_n 41 rfl dX10_clerk_40 rfl ?_
        refine R_aald 0 42 rfl dX10_clerk_41 rfl rfl (by first | rfl | omega) (by decide) (by decide) (hP _ _ _ rfl) ?_
        refine R_iload_n 43 rfl dX10_clerk_42 rfl ?_
        refine R_iald k.toNat 44 rfl dX10_clerk_43 rfl (by first | rfl | omega) (by omega) (by decide) ?_
        refine R_ireturn dX10_clerk_44 rfl ?_
        exact QI_mk ⟨by unfold a_clerk; rw [if_pos (by omega), if_pos (by omega)]; first | exact h2.1 | exact h2.2.1 | exact h2.2.2.1 | exact h2.2.2.2.1 | exact h2.2.2.2.2, Fs.rf, hCS⟩
      · refine R_iconst 27 rfl dX10_clerk_26 ?_
        refine R_ireturn dX10_clerk_27 rfl ?_
        first | (exfalso; omega) | exact QI_mk ⟨by unfold a_clerk; rw [if_neg (by omega)], Fs.rf, hCS⟩
theorem c_X10_clerk1 (k : Int) (hCS : CS o d L B ch m) (hk : rg k) : C Γ mX10_clerk 5 200 0 0 [vr 0, vi k, vi 1] SH m (QA o d L B ch m (a_clerk L B k 1)) := by
  refine C_of_R rfl (Nat.le_of_ble_eq_true rfl) ?_
  obtain ⟨hPO, hB, hO, hL, hLO, hC, hCO, hst, hkc⟩ := id hCS
  have hP := hPO.2
  rcases hL with ⟨rfl, hL⟩ | ⟨rfl, hL⟩
  all_goals
    have h1 := hL.1
    have h0 := hLO.1
    refine R_iload_n 1 rfl dX10_clerk_0 rfl ?_
    refine R_iconst 2 rfl dX10_clerk_1 ?_
    refine R_aload_n 3 rfl dX10_clerk_2 rfl ?_
    refine R_getP 2 6 rfl dX10_clerk_3 rfl rfl fl_X10_26 (PO_o hPO) ?_
    refine R_getI 1 9 rfl dX10_clerk_6 rfl rfl fl_X10_128 ?_
    refine R_iconst 10 rfl dX10_clerk_9 ?_
    refine R_isub 11 rfl dX10_clerk_10 ?_
    refine R_callS_i (M' := mX10_within) 14 rfl dX10_clerk_11 ml_X10_108 kmX10_within st_X10_within (c_X10_within _ _ _ (by first | assumption | exact ⟨by omega, by omega⟩) (by first | assumption | exact ⟨by omega, by omega⟩) (by first | assumption | exact ⟨by omega, by omega⟩)) rfl rfl ⟨Nat.le_of_ble_eq_true rfl, Nat.le_of_ble_eq_true rfl⟩ (Nat.le_of_ble_eq_true rfl) ⟨Nat.le_of_ble_eq_true rfl, Nat.le_of_ble_eq_true rfl⟩ ?_
    refine R_ifp_eq 17 26 rfl rfl dX10_clerk_14 (fun h14 => ?_) (fun h14 => ?_)
    · refine R_iconst 27 rfl dX10_clerk_26 ?_
      refine R_ireturn dX10_clerk_27 rfl ?_
      first | (exfalso; omega) | exact QI_mk ⟨by unfold a_clerk; rw [if_neg (by omega)], Fs.rf, hCS⟩
    · refine R_iload_n 18 rfl dX10_clerk_17 rfl ?_
      refine R_iconst 19 rfl dX10_clerk_18 ?_
      refine R_iconst 20 rfl dX10_clerk_19 ?_
      refine R_callS_i (M' := mX10_within) 23 rfl dX10_clerk_20 ml_X10_108 kmX10_within st_X10_within (c_X10_within _ _ _ (by first | assumption | exact ⟨by omega, by omega⟩) (by first | assumption | exact ⟨by omega, by omega⟩) (by first | assumption | exact ⟨by omega, by omega⟩)) rfl rfl ⟨Nat.le_of_ble_eq_true rfl, Nat.le_of_ble_eq_true rfl⟩ (Nat.le_of_ble_eq_true rfl) ⟨Nat.le_of_ble_eq_true rfl, Nat.le_of_ble_eq_true rfl⟩ ?_
      refine R_ifp_ne 26 28 rfl rfl dX10_clerk_23 (fun h23 => ?_) (fun h23 => ?_)
      · refine R_iload_n 29 rfl dX10_clerk_28 rfl ?_
        refine R_iconst 30 rfl dX10_clerk_29 ?_
        refine R_icmp_ge 33 45 rfl rfl dX10_clerk_30 (by first | assumption | exact ⟨by omega, by omega⟩) (by first | assumption | exact ⟨by omega, by omega⟩) (fun h30 => ?_) (fun h30 => ?_)
        · exact absurd h30 (by omega)
        have h2 := hL.2.2.2 k.toNat (by omega)
        refine R_aload_n 34 rfl dX10_clerk_33 rfl ?_
        refine R_getP 2 37 rfl dX10_clerk_34 rfl rfl fl_X10_26 (PO_o hPO) ?_
        refine R_getP 9 40 rfl dX10_clerk_37 rfl rfl fl_X10_160 (hP _ _ _ rfl) ?_
        refine R_iload_n 41 rfl dX10_clerk_40 rfl ?_
        refine R_aald 1 42 rfl dX10_clerk_41 rfl rfl (by first | rfl | omega) (by decide) (by decide) (hP _ _ _ rfl) ?_
        refine R_iload_n 43 rfl dX10_clerk_42 rfl ?_
        refine R_iald k.toNat 44 rfl dX10_clerk_43 rfl (by first | rfl | omega) (by omega) (by decide) ?_
        refine R_ireturn dX10_clerk_44 rfl ?_
        exact QI_mk ⟨by unfold a_clerk; rw [if_pos (by omega), if_pos (by omega)]; first | exact h2.1 | exact h2.2.1 | exact h2.2.2.1 | exact h2.2.2.2.1 | exact h2.2.2.2.2, Fs.rf, hCS⟩
      · refine R_iconst 27 rfl dX10_clerk_26 ?_
        refine R_ireturn dX10_clerk_27 rfl ?_
        first | (exfalso; omega) | exact QI_mk ⟨by unfold a_clerk; rw [if_neg (by omega)], Fs.rf, hCS⟩
theorem c_X10_clerk2 (k : Int) (hCS : CS o d L B ch m) (hk : rg k) : C Γ mX10_clerk 5 200 0 0 [vr 0, vi k, vi 2] SH m (QA o d L B ch m (a_clerk L B k 2)) := by
  refine C_of_R rfl (Nat.le_of_ble_eq_true rfl) ?_
  obtain ⟨hPO, hB, hO, hL, hLO, hC, hCO, hst, hkc⟩ := id hCS
  have hP := hPO.2
  rcases hL with ⟨rfl, hL⟩ | ⟨rfl, hL⟩
  all_goals
    have h1 := hL.1
    have h0 := hLO.1
    refine R_iload_n 1 rfl dX10_clerk_0 rfl ?_
    refine R_iconst 2 rfl dX10_clerk_1 ?_
    refine R_aload_n 3 rfl dX10_clerk_2 rfl ?_
    refine R_getP 2 6 rfl dX10_clerk_3 rfl rfl fl_X10_26 (PO_o hPO) ?_
    refine R_getI 1 9 rfl dX10_clerk_6 rfl rfl fl_X10_128 ?_
    refine R_iconst 10 rfl dX10_clerk_9 ?_
    refine R_isub 11 rfl dX10_clerk_10 ?_
    refine R_callS_i (M' := mX10_within) 14 rfl dX10_clerk_11 ml_X10_108 kmX10_within st_X10_within (c_X10_within _ _ _ (by first | assumption | exact ⟨by omega, by omega⟩) (by first | assumption | exact ⟨by omega, by omega⟩) (by first | assumption | exact ⟨by omega, by omega⟩)) rfl rfl ⟨Nat.le_of_ble_eq_true rfl, Nat.le_of_ble_eq_true rfl⟩ (Nat.le_of_ble_eq_true rfl) ⟨Nat.le_of_ble_eq_true rfl, Nat.le_of_ble_eq_true rfl⟩ ?_
    refine R_ifp_eq 17 26 rfl rfl dX10_clerk_14 (fun h14 => ?_) (fun h14 => ?_)
    · refine R_iconst 27 rfl dX10_clerk_26 ?_
      refine R_ireturn dX10_clerk_27 rfl ?_
      first | (exfalso; omega) | exact QI_mk ⟨by unfold a_clerk; rw [if_neg (by omega)], Fs.rf, hCS⟩
    · refine R_iload_n 18 rfl dX10_clerk_17 rfl ?_
      refine R_iconst 19 rfl dX10_clerk_18 ?_
      refine R_iconst 20 rfl dX10_clerk_19 ?_
      refine R_callS_i (M' := mX10_within) 23 rfl dX10_clerk_20 ml_X10_108 kmX10_within st_X10_within (c_X10_within _ _ _ (by first | assumption | exact ⟨by omega, by omega⟩) (by first | assumption | exact ⟨by omega, by omega⟩) (by first | assumption | exact ⟨by omega, by omega⟩)) rfl rfl ⟨Nat.le_of_ble_eq_true rfl, Nat.le_of_ble_eq_true rfl⟩ (Nat.le_of_ble_eq_true rfl) ⟨Nat.le_of_ble_eq_true rfl, Nat.le_of_ble_eq_true rfl⟩ ?_
      refine R_ifp_ne 26 28 rfl rfl dX10_clerk_23 (fun h23 => ?_) (fun h23 => ?_)
      · refine R_iload_n 29 rfl dX10_clerk_28 rfl ?_
        refine R_iconst 30 rfl dX10_clerk_29 ?_
        refine R_icmp_ge 33 45 rfl rfl dX10_clerk_30 (by first | assumption | exact ⟨by omega, by omega⟩) (by first | assumption | exact ⟨by omega, by omega⟩) (fun h30 => ?_) (fun h30 => ?_)
        · exact absurd h30 (by omega)
        have h2 := hL.2.2.2 k.toNat (by omega)
        refine R_aload_n 34 rfl dX10_clerk_33 rfl ?_
        refine R_getP 2 37 rfl dX10_clerk_34 rfl rfl fl_X10_26 (PO_o hPO) ?_
        refine R_getP 9 40 rfl dX10_clerk_37 rfl rfl fl_X10_160 (hP _ _ _ rfl) ?_
        refine R_iload_n 41 rfl dX10_clerk_40 rfl ?_
        refine R_aald 2 42 rfl dX10_clerk_41 rfl rfl (by first | rfl | omega) (by decide) (by decide) (hP _ _ _ rfl) ?_
        refine R_iload_n 43 rfl dX10_clerk_42 rfl ?_
        refine R_iald k.toNat 44 rfl dX10_clerk_43 rfl (by first | rfl | omega) (by omega) (by decide) ?_
        refine R_ireturn dX10_clerk_44 rfl ?_
        exact QI_mk ⟨by unfold a_clerk; rw [if_pos (by omega), if_pos (by omega)]; first | exact h2.1 | exact h2.2.1 | exact h2.2.2.1 | exact h2.2.2.2.1 | exact h2.2.2.2.2, Fs.rf, hCS⟩
      · refine R_iconst 27 rfl dX10_clerk_26 ?_
        refine R_ireturn dX10_clerk_27 rfl ?_
        first | (exfalso; omega) | exact QI_mk ⟨by unfold a_clerk; rw [if_neg (by omega)], Fs.rf, hCS⟩
theorem c_X10_clerk3 (k : Int) (hCS : CS o d L B ch m) (hk : rg k) : C Γ mX10_clerk 5 200 0 0 [vr 0, vi k, vi 3] SH m (QA o d L B ch m (a_clerk L B k 3)) := by
  refine C_of_R rfl (Nat.le_of_ble_eq_true rfl) ?_
  obtain ⟨hPO, hB, hO, hL, hLO, hC, hCO, hst, hkc⟩ := id hCS
  have hP := hPO.2
  rcases hL with ⟨rfl, hL⟩ | ⟨rfl, hL⟩
  all_goals
    have h1 := hL.1
    have h0 := hLO.1
    refine R_iload_n 1 rfl dX10_clerk_0 rfl ?_
    refine R_iconst 2 rfl dX10_clerk_1 ?_
    refine R_aload_n 3 rfl dX10_clerk_2 rfl ?_
    refine R_getP 2 6 rfl dX10_clerk_3 rfl rfl fl_X10_26 (PO_o hPO) ?_
    refine R_getI 1 9 rfl dX10_clerk_6 rfl rfl fl_X10_128 ?_
    refine R_iconst 10 rfl dX10_clerk_9 ?_
    refine R_isub 11 rfl dX10_clerk_10 ?_
    refine R_callS_i (M' := mX10_within) 14 rfl dX10_clerk_11 ml_X10_108 kmX10_within st_X10_within (c_X10_within _ _ _ (by first | assumption | exact ⟨by omega, by omega⟩) (by first | assumption | exact ⟨by omega, by omega⟩) (by first | assumption | exact ⟨by omega, by omega⟩)) rfl rfl ⟨Nat.le_of_ble_eq_true rfl, Nat.le_of_ble_eq_true rfl⟩ (Nat.le_of_ble_eq_true rfl) ⟨Nat.le_of_ble_eq_true rfl, Nat.le_of_ble_eq_true rfl⟩ ?_
    refine R_ifp_eq 17 26 rfl rfl dX10_clerk_14 (fun h14 => ?_) (fun h14 => ?_)
    · refine R_iconst 27 rfl dX10_clerk_26 ?_
      refine R_ireturn dX10_clerk_27 rfl ?_
      first | (exfalso; omega) | exact QI_mk ⟨by unfold a_clerk; rw [if_neg (by omega)], Fs.rf, hCS⟩
    · refine R_iload_n 18 rfl dX10_clerk_17 rfl ?_
      refine R_iconst 19 rfl dX10_clerk_18 ?_
      refine R_iconst 20 rfl dX10_clerk_19 ?_
      refine R_callS_i (M' := mX10_within) 23 rfl dX10_clerk_20 ml_X10_108 kmX10_within st_X10_within (c_X10_within _ _ _ (by first | assumption | exact ⟨by omega, by omega⟩) (by first | assumption | exact ⟨by omega, by omega⟩) (by first | assumption | exact ⟨by omega, by omega⟩)) rfl rfl ⟨Nat.le_of_ble_eq_true rfl, Nat.le_of_ble_eq_true rfl⟩ (Nat.le_of_ble_eq_true rfl) ⟨Nat.le_of_ble_eq_true rfl, Nat.le_of_ble_eq_true rfl⟩ ?_
      refine R_ifp_ne 26 28 rfl rfl dX10_clerk_23 (fun h23 => ?_) (fun h23 => ?_)
      · refine R_iload_n 29 rfl dX10_clerk_28 rfl ?_
        refine R_iconst 30 rfl dX10_clerk_29 ?_
        refine R_icmp_ge 33 45 rfl rfl dX10_clerk_30 (by first | assumption | exact ⟨by omega, by omega⟩) (by first | assumption | exact ⟨by omega, by omega⟩) (fun h30 => ?_) (fun h30 => ?_)
        · exact absurd h30 (by omega)
        have h2 := hL.2.2.2 k.toNat (by omega)
        refine R_aload_n 34 rfl dX10_clerk_33 rfl ?_
        refine R_getP 2 37 rfl dX10_clerk_34 rfl rfl fl_X10_26 (PO_o hPO) ?_
        refine R_getP 9 40 rfl dX10_clerk_37 rfl rfl fl_X10_160 (hP _ _ _ rfl) ?_
        refine R_iload_n 41 rfl dX10_clerk_40 rfl ?_
        refine R_aald 3 42 rfl dX10_clerk_41 rfl rfl (by first | rfl | omega) (by decide) (by decide) (hP _ _ _ rfl) ?_
        refine R_iload_n 43 rfl dX10_clerk_42 rfl ?_
        refine R_iald k.toNat 44 rfl dX10_clerk_43 rfl (by first | rfl | omega) (by omega) (by decide) ?_
        refine R_ireturn dX10_clerk_44 rfl ?_
        exact QI_mk ⟨by unfold a_clerk; rw [if_pos (by omega), if_pos (by omega)]; first | exact h2.1 | exact h2.2.1 | exact h2.2.2.1 | exact h2.2.2.2.1 | exact h2.2.2.2.2, Fs.rf, hCS⟩
      · refine R_iconst 27 rfl dX10_clerk_26 ?_
        refine R_ireturn dX10_clerk_27 rfl ?_
        first | (exfalso; omega) | exact QI_mk ⟨by unfold a_clerk; rw [if_neg (by omega)], Fs.rf, hCS⟩
theorem c_X10_clerk4 (k : Int) (hCS : CS o d L B ch m) (hk : rg k) : C Γ mX10_clerk 5 200 0 0 [vr 0, vi k, vi 4] SH m (QA o d L B ch m (a_clerk L B k 4)) := by
  refine C_of_R rfl (Nat.le_of_ble_eq_true rfl) ?_
  obtain ⟨hPO, hB, hO, hL, hLO, hC, hCO, hst, hkc⟩ := id hCS
  have hP := hPO.2
  rcases hL with ⟨rfl, hL⟩ | ⟨rfl, hL⟩
  all_goals
    have h1 := hL.1
    have h0 := hLO.1
    refine R_iload_n 1 rfl dX10_clerk_0 rfl ?_
    refine R_iconst 2 rfl dX10_clerk_1 ?_
    refine R_aload_n 3 rfl dX10_clerk_2 rfl ?_
    refine R_getP 2 6 rfl dX10_clerk_3 rfl rfl fl_X10_26 (PO_o hPO) ?_
    refine R_getI 1 9 rfl dX10_clerk_6 rfl rfl fl_X10_128 ?_
    refine R_iconst 10 rfl dX10_clerk_9 ?_
    refine R_isub 11 rfl dX10_clerk_10 ?_
    refine R_callS_i (M' := mX10_within) 14 rfl dX10_clerk_11 ml_X10_108 kmX10_within st_X10_within (c_X10_within _ _ _ (by first | assumption | exact ⟨by omega, by omega⟩) (by first | assumption | exact ⟨by omega, by omega⟩) (by first | assumption | exact ⟨by omega, by omega⟩)) rfl rfl ⟨Nat.le_of_ble_eq_true rfl, Nat.le_of_ble_eq_true rfl⟩ (Nat.le_of_ble_eq_true rfl) ⟨Nat.le_of_ble_eq_true rfl, Nat.le_of_ble_eq_true rfl⟩ ?_
    refine R_ifp_eq 17 26 rfl rfl dX10_clerk_14 (fun h14 => ?_) (fun h14 => ?_)
    · refine R_iconst 27 rfl dX10_clerk_26 ?_
      refine R_ireturn dX10_clerk_27 rfl ?_
      first | (exfalso; omega) | exact QI_mk ⟨by unfold a_clerk; rw [if_neg (by omega)], Fs.rf, hCS⟩
    · refine R_iload_n 18 rfl dX10_clerk_17 rfl ?_
      refine R_iconst 19 rfl dX10_clerk_18 ?_
      refine R_iconst 20 rfl dX10_clerk_19 ?_
      refine R_callS_i (M' := mX10_within) 23 rfl dX10_clerk_20 ml_X10_108 kmX10_within st_X10_within (c_X10_within _ _ _ (by first | assumption | exact ⟨by omega, by omega⟩) (by first | assumption | exact ⟨by omega, by omega⟩) (by first | assumption | exact ⟨by omega, by omega⟩)) rfl rfl ⟨Nat.le_of_ble_eq_true rfl, Nat.le_of_ble_eq_true rfl⟩ (Nat.le_of_ble_eq_true rfl) ⟨Nat.le_of_ble_eq_true rfl, Nat.le_of_ble_eq_true rfl⟩ ?_
      refine R_ifp_ne 26 28 rfl rfl dX10_clerk_23 (fun h23 => ?_) (fun h23 => ?_)
      · refine R_iload_n 29 rfl dX10_clerk_28 rfl ?_
        refine R_iconst 30 rfl dX10_clerk_29 ?_
        refine R_icmp_ge 33 45 rfl rfl dX10_clerk_30 (by first | assumption | exact ⟨by omega, by omega⟩) (by first | assumption | exact ⟨by omega, by omega⟩) (fun h30 => ?_) (fun h30 => ?_)
        · exact absurd h30 (by omega)
        have h2 := hL.2.2.2 k.toNat (by omega)
        refine R_aload_n 34 rfl dX10_clerk_33 rfl ?_
        refine R_getP 2 37 rfl dX10_clerk_34 rfl rfl fl_X10_26 (PO_o hPO) ?_
        refine R_getP 9 40 rfl dX10_clerk_37 rfl rfl fl_X10_160 (hP _ _ _ rfl) ?_
        refine R_iload_n 41 rfl dX10_clerk_40 rfl ?_
        refine R_aald 4 42 rfl dX10_clerk_41 rfl rfl (by first | rfl | omega) (by decide) (by decide) (hP _ _ _ rfl) ?_
        refine R_iload_n 43 rfl dX10_clerk_42 rfl ?_
        refine R_iald k.toNat 44 rfl dX10_clerk_43 rfl (by first | rfl | omega) (by omega) (by decide) ?_
        refine R_ireturn dX10_clerk_44 rfl ?_
        exact QI_mk ⟨by unfold a_clerk; rw [if_pos (by omega), if_pos (by omega)]; first | exact h2.1 | exact h2.2.1 | exact h2.2.2.1 | exact h2.2.2.2.1 | exact h2.2.2.2.2, Fs.rf, hCS⟩
      · refine R_iconst 27 rfl dX10_clerk_26 ?_
        refine R_ireturn dX10_clerk_27 rfl ?_
        first | (exfalso; omega) | exact QI_mk ⟨by unfold a_clerk; rw [if_neg (by omega)], Fs.rf, hCS⟩
theorem c_X10_clerk (k w : Int) (hCS : CS o d L B ch m) (hk : rg k) (hw : rg w) : C Γ mX10_clerk 5 200 0 0 [vr 0, vi k, vi w] SH m (QA o d L B ch m (a_clerk L B k w)) := by
  rcases (show w = 0 ∨ w = 1 ∨ w = 2 ∨ w = 3 ∨ w = 4 ∨ ¬ (0 ≤ w ∧ w ≤ 4) by omega) with rfl | rfl | rfl | rfl | rfl | hw3
  · exact c_X10_clerk0 k hCS hk
  · exact c_X10_clerk1 k hCS hk
  · exact c_X10_clerk2 k hCS hk
  · exact c_X10_clerk3 k hCS hk
  · exact c_X10_clerk4 k hCS hk
  · refine C_of_R rfl (Nat.le_of_ble_eq_true rfl) ?_
    obtain ⟨hPO, hB, hO, hL, hLO, hC, hCO, hst, hkc⟩ := id hCS
    have hP := hPO.2
    have h0 := hLO.1
    rcases hL with ⟨rfl, hL⟩ | ⟨rfl, hL⟩
    all_goals
      have h1 := hL.1
      refine R_iload_n 1 rfl dX10_clerk_0 rfl ?_
      refine R_iconst 2 rfl dX10_clerk_1 ?_
      refine R_aload_n 3 rfl dX10_clerk_2 rfl ?_
      refine R_getP 2 6 rfl dX10_clerk_3 rfl rfl fl_X10_26 (PO_o hPO) ?_
      refine R_getI 1 9 rfl dX10_clerk_6 rfl rfl fl_X10_128 ?_
      refine R_iconst 10 rfl dX10_clerk_9 ?_
      refine R_isub 11 rfl dX10_clerk_10 ?_
      refine R_callS_i (M' := mX10_within) 14 rfl dX10_clerk_11 ml_X10_108 kmX10_within st_X10_within (c_X10_within _ _ _ (by first | assumption | exact ⟨by omega, by omega⟩) (by first | assumption | exact ⟨by omega, by omega⟩) (by first | assumption | exact ⟨by omega, by omega⟩)) rfl rfl ⟨Nat.le_of_ble_eq_true rfl, Nat.le_of_ble_eq_true rfl⟩ (Nat.le_of_ble_eq_true rfl) ⟨Nat.le_of_ble_eq_true rfl, Nat.le_of_ble_eq_true rfl⟩ ?_
      refine R_ifp_eq 17 26 rfl rfl dX10_clerk_14 (fun h14 => ?_) (fun h14 => ?_)
      · refine R_iconst 27 rfl dX10_clerk_26 ?_
        refine R_ireturn dX10_clerk_27 rfl ?_
        exact QI_mk ⟨by unfold a_clerk; rw [if_neg (by omega)], Fs.rf, hCS⟩
      · refine R_iload_n 18 rfl dX10_clerk_17 rfl ?_
        refine R_iconst 19 rfl dX10_clerk_18 ?_
        refine R_iconst 20 rfl dX10_clerk_19 ?_
        refine R_callS_i (M' := mX10_within) 23 rfl dX10_clerk_20 ml_X10_108 kmX10_within st_X10_within (c_X10_within _ _ _ (by first | assumption | exact ⟨by omega, by omega⟩) (by first | assumption | exact ⟨by omega, by omega⟩) (by first | assumption | exact ⟨by omega, by omega⟩)) rfl rfl ⟨Nat.le_of_ble_eq_true rfl, Nat.le_of_ble_eq_true rfl⟩ (Nat.le_of_ble_eq_true rfl) ⟨Nat.le_of_ble_eq_true rfl, Nat.le_of_ble_eq_true rfl⟩ ?_
        refine R_ifp_ne 26 28 rfl rfl dX10_clerk_23 (fun h23 => ?_) (fun h23 => ?_)
        · refine R_iload_n 29 rfl dX10_clerk_28 rfl ?_
          refine R_iconst 30 rfl dX10_clerk_29 ?_
          refine R_icmp_ge 33 45 rfl rfl dX10_clerk_30 (by first | assumption | exact ⟨by omega, by omega⟩) (by first | assumption | exact ⟨by omega, by omega⟩) (fun h30 => ?_) (fun h30 => ?_)
          · refine R_aload_n 46 rfl dX10_clerk_45 rfl ?_
            refine R_getP 6 49 rfl dX10_clerk_46 rfl rfl fl_X10_47 (hP _ _ _ rfl) ?_
            refine R_aload_n 50 rfl dX10_clerk_49 rfl ?_
            refine R_getP 5 53 rfl dX10_clerk_50 rfl rfl fl_X10_40 (hP _ _ _ rfl) ?_
            refine R_aload_n 54 rfl dX10_clerk_53 rfl ?_
            refine R_getP 2 57 rfl dX10_clerk_54 rfl rfl fl_X10_26 (PO_o hPO) ?_
            refine R_callV_V (M' := mX3_renew) 60 rfl dX10_clerk_57 ml_X10_163 kmX3_renew im_X3_renew se_X3_renew rfl ⟨by decide, rfl⟩ (c_renew hCS) rfl rfl ⟨Nat.le_of_ble_eq_true rfl, Nat.le_of_ble_eq_true rfl⟩ (Nat.le_of_ble_eq_true rfl) ⟨Nat.le_of_ble_eq_true rfl, Nat.le_of_ble_eq_true rfl⟩ ?_
            rintro m57 h57
            obtain ⟨f57, hCS, hKF⟩ := h57
            clear hPO hP hB hO
            have hPO := hCS.1
            have hP := hPO.2
            have hB := hCS.2.1
            have hO := hCS.2.2.1
            refine R_aload_n 61 rfl dX10_clerk_60 rfl ?_
            refine R_getP 6 64 rfl dX10_clerk_61 rfl rfl fl_X10_47 (hP _ _ _ rfl) ?_
            refine R_iload_n 65 rfl dX10_clerk_64 rfl ?_
            refine R_aload_n 66 rfl dX10_clerk_65 rfl ?_
            refine R_getP 5 69 rfl dX10_clerk_66 rfl rfl fl_X10_40 (hP _ _ _ rfl) ?_
            refine R_callV_i (M' := mX0_marks) 72 rfl dX10_clerk_69 ml_X10_167 kmX0_marks im_X0_marks se_X0_marks rfl ⟨by decide, rfl⟩ (c_X0_marks hB) rfl rfl ⟨Nat.le_of_ble_eq_true rfl, Nat.le_of_ble_eq_true rfl⟩ (Nat.le_of_ble_eq_true rfl) ⟨Nat.le_of_ble_eq_true rfl, Nat.le_of_ble_eq_true rfl⟩ ?_
            refine R_callV_i (M' := mX3_writtenBy) 75 rfl dX10_clerk_72 ml_X10_171 kmX3_writtenBy im_X3_writtenBy se_X3_writtenBy rfl ⟨by decide, rfl⟩ (c_X3_writtenBy _ _ hPO (fun j hj => (hKF.2 j hj).2) hLO hO.1 hk rfl) rfl rfl ⟨Nat.le_of_ble_eq_true rfl, Nat.le_of_ble_eq_true rfl⟩ (Nat.le_of_ble_eq_true rfl) ⟨Nat.le_of_ble_eq_true rfl, Nat.le_of_ble_eq_true rfl⟩ ?_
            refine R_ireturn dX10_clerk_75 rfl ?_
            exact QI_mk ⟨by unfold a_clerk; rw [if_pos (by omega), if_neg (by omega)], f57.s, hCS⟩
          · exfalso; omega
        · refine R_iconst 27 rfl dX10_clerk_26 ?_
          refine R_ireturn dX10_clerk_27 rfl ?_
          exact QI_mk ⟨by unfold a_clerk; rw [if_neg (by omega)], Fs.rf, hCS⟩
theorem c_X10_of0 (k : Int) (hCS : CS o d L B ch m) (hk : rg k) : C Γ mX10_of 2 80 0 0 [vr 0, vi k, vi 0] SH m (QA o d L B ch m (a_of B k 0)) := by
  refine C_of_R rfl (Nat.le_of_ble_eq_true rfl) ?_
  obtain ⟨hPO, hB, hO, hL, hLO, hC, hCO, hst, hkc⟩ := id hCS
  have hP := hPO.2
  have h5 := hO.1
  refine R_aload_n 1 rfl dX10_of_0 rfl ?_
  refine R_iload_n 2 rfl dX10_of_1 rfl ?_
  refine R_callV_i (M' := mX10_isInBooks) 5 rfl dX10_of_2 ml_X10_199 kmX10_isInBooks im_X10_isInBooks se_X10_isInBooks rfl ⟨by decide, rfl⟩ (c_X10_isInBooks _ hCS (by first | assumption | exact ⟨by omega, by omega⟩)) rfl rfl ⟨Nat.le_of_ble_eq_true rfl, Nat.le_of_ble_eq_true rfl⟩ (Nat.le_of_ble_eq_true rfl) ⟨Nat.le_of_ble_eq_true rfl, Nat.le_of_ble_eq_true rfl⟩ ?_
  refine R_ifp_eq 8 17 rfl rfl dX10_of_5 (fun h5 => ?_) (fun h5 => ?_)
  · refine R_iconst 18 rfl dX10_of_17 ?_
    refine R_ireturn dX10_of_18 rfl ?_
    first | (exfalso; omega) | exact QI_mk ⟨by unfold a_of; rw [if_neg (by omega)], Fs.rf, hCS⟩
  · refine R_iload_n 9 rfl dX10_of_8 rfl ?_
    refine R_iconst 10 rfl dX10_of_9 ?_
    refine R_iconst 11 rfl dX10_of_10 ?_
    refine R_callS_i (M' := mX10_within) 14 rfl dX10_of_11 ml_X10_108 kmX10_within st_X10_within (c_X10_within _ _ _ (by first | assumption | exact ⟨by omega, by omega⟩) (by first | assumption | exact ⟨by omega, by omega⟩) (by first | assumption | exact ⟨by omega, by omega⟩)) rfl rfl ⟨Nat.le_of_ble_eq_true rfl, Nat.le_of_ble_eq_true rfl⟩ (Nat.le_of_ble_eq_true rfl) ⟨Nat.le_of_ble_eq_true rfl, Nat.le_of_ble_eq_true rfl⟩ ?_
    refine R_ifp_ne 17 19 rfl rfl dX10_of_14 (fun h14 => ?_) (fun h14 => ?_)
    · have h2 := hB.2.1 k.toNat (by omega)
      refine R_aload_n 20 rfl dX10_of_19 rfl ?_
      refine R_getP 5 23 rfl dX10_of_20 rfl rfl fl_X10_40 (hP _ _ _ rfl) ?_
      refine R_getP 1 26 rfl dX10_of_23 rfl rfl fl_X10_202 (hP _ _ _ rfl) ?_
      refine R_iload_n 27 rfl dX10_of_26 rfl ?_
      refine R_aald 0 28 rfl dX10_of_27 rfl rfl (by first | rfl | omega) (by decide) (by decide) (hP _ _ _ rfl) ?_
      refine R_iload_n 29 rfl dX10_of_28 rfl ?_
      refine R_iald k.toNat 30 rfl dX10_of_29 rfl (by first | rfl | omega) (by omega) (by decide) ?_
      refine R_ireturn dX10_of_30 rfl ?_
      exact QI_mk ⟨by unfold a_of; rw [if_pos (by omega)]; first | exact h2.1 | exact h2.2.1 | exact h2.2.2, Fs.rf, hCS⟩
    · refine R_iconst 18 rfl dX10_of_17 ?_
      refine R_ireturn dX10_of_18 rfl ?_
      first | (exfalso; omega) | exact QI_mk ⟨by unfold a_of; rw [if_neg (by omega)], Fs.rf, hCS⟩
theorem c_X10_of1 (k : Int) (hCS : CS o d L B ch m) (hk : rg k) : C Γ mX10_of 2 80 0 0 [vr 0, vi k, vi 1] SH m (QA o d L B ch m (a_of B k 1)) := by
  refine C_of_R rfl (Nat.le_of_ble_eq_true rfl) ?_
  obtain ⟨hPO, hB, hO, hL, hLO, hC, hCO, hst, hkc⟩ := id hCS
  have hP := hPO.2
  have h5 := hO.1
  refine R_aload_n 1 rfl dX10_of_0 rfl ?_
  refine R_iload_n 2 rfl dX10_of_1 rfl ?_
  refine R_callV_i (M' := mX10_isInBooks) 5 rfl dX10_of_2 ml_X10_199 kmX10_isInBooks im_X10_isInBooks se_X10_isInBooks rfl ⟨by decide, rfl⟩ (c_X10_isInBooks _ hCS (by first | assumption | exact ⟨by omega, by omega⟩)) rfl rfl ⟨Nat.le_of_ble_eq_true rfl, Nat.le_of_ble_eq_true rfl⟩ (Nat.le_of_ble_eq_true rfl) ⟨Nat.le_of_ble_eq_true rfl, Nat.le_of_ble_eq_true rfl⟩ ?_
  refine R_ifp_eq 8 17 rfl rfl dX10_of_5 (fun h5 => ?_) (fun h5 => ?_)
  · refine R_iconst 18 rfl dX10_of_17 ?_
    refine R_ireturn dX10_of_18 rfl ?_
    first | (exfalso; omega) | exact QI_mk ⟨by unfold a_of; rw [if_neg (by omega)], Fs.rf, hCS⟩
  · refine R_iload_n 9 rfl dX10_of_8 rfl ?_
    refine R_iconst 10 rfl dX10_of_9 ?_
    refine R_iconst 11 rfl dX10_of_10 ?_
    refine R_callS_i (M' := mX10_within) 14 rfl dX10_of_11 ml_X10_108 kmX10_within st_X10_within (c_X10_within _ _ _ (by first | assumption | exact ⟨by omega, by omega⟩) (by first | assumption | exact ⟨by omega, by omega⟩) (by first | assumption | exact ⟨by omega, by omega⟩)) rfl rfl ⟨Nat.le_of_ble_eq_true rfl, Nat.le_of_ble_eq_true rfl⟩ (Nat.le_of_ble_eq_true rfl) ⟨Nat.le_of_ble_eq_true rfl, Nat.le_of_ble_eq_true rfl⟩ ?_
    refine R_ifp_ne 17 19 rfl rfl dX10_of_14 (fun h14 => ?_) (fun h14 => ?_)
    · have h2 := hB.2.1 k.toNat (by omega)
      refine R_aload_n 20 rfl dX10_of_19 rfl ?_
      refine R_getP 5 23 rfl dX10_of_20 rfl rfl fl_X10_40 (hP _ _ _ rfl) ?_
      refine R_getP 1 26 rfl dX10_of_23 rfl rfl fl_X10_202 (hP _ _ _ rfl) ?_
      refine R_iload_n 27 rfl dX10_of_26 rfl ?_
      refine R_aald 1 28 rfl dX10_of_27 rfl rfl (by first | rfl | omega) (by decide) (by decide) (hP _ _ _ rfl) ?_
      refine R_iload_n 29 rfl dX10_of_28 rfl ?_
      refine R_iald k.toNat 30 rfl dX10_of_29 rfl (by first | rfl | omega) (by omega) (by decide) ?_
      refine R_ireturn dX10_of_30 rfl ?_
      exact QI_mk ⟨by unfold a_of; rw [if_pos (by omega)]; first | exact h2.1 | exact h2.2.1 | exact h2.2.2, Fs.rf, hCS⟩
    · refine R_iconst 18 rfl dX10_of_17 ?_
      refine R_ireturn dX10_of_18 rfl ?_
      first | (exfalso; omega) | exact QI_mk ⟨by unfold a_of; rw [if_neg (by omega)], Fs.rf, hCS⟩
theorem c_X10_of2 (k : Int) (hCS : CS o d L B ch m) (hk : rg k) : C Γ mX10_of 2 80 0 0 [vr 0, vi k, vi 2] SH m (QA o d L B ch m (a_of B k 2)) := by
  refine C_of_R rfl (Nat.le_of_ble_eq_true rfl) ?_
  obtain ⟨hPO, hB, hO, hL, hLO, hC, hCO, hst, hkc⟩ := id hCS
  have hP := hPO.2
  have h5 := hO.1
  refine R_aload_n 1 rfl dX10_of_0 rfl ?_
  refine R_iload_n 2 rfl dX10_of_1 rfl ?_
  refine R_callV_i (M' := mX10_isInBooks) 5 rfl dX10_of_2 ml_X10_199 kmX10_isInBooks im_X10_isInBooks se_X10_isInBooks rfl ⟨by decide, rfl⟩ (c_X10_isInBooks _ hCS (by first | assumption | exact ⟨by omega, by omega⟩)) rfl rfl ⟨Nat.le_of_ble_eq_true rfl, Nat.le_of_ble_eq_true rfl⟩ (Nat.le_of_ble_eq_true rfl) ⟨Nat.le_of_ble_eq_true rfl, Nat.le_of_ble_eq_true rfl⟩ ?_
  refine R_ifp_eq 8 17 rfl rfl dX10_of_5 (fun h5 => ?_) (fun h5 => ?_)
  · refine R_iconst 18 rfl dX10_of_17 ?_
    refine R_ireturn dX10_of_18 rfl ?_
    first | (exfalso; omega) | exact QI_mk ⟨by unfold a_of; rw [if_neg (by omega)], Fs.rf, hCS⟩
  · refine R_iload_n 9 rfl dX10_of_8 rfl ?_
    refine R_iconst 10 rfl dX10_of_9 ?_
    refine R_iconst 11 rfl dX10_of_10 ?_
    refine R_callS_i (M' := mX10_within) 14 rfl dX10_of_11 ml_X10_108 kmX10_within st_X10_within (c_X10_within _ _ _ (by first | assumption | exact ⟨by omega, by omega⟩) (by first | assumption | exact ⟨by omega, by omega⟩) (by first | assumption | exact ⟨by omega, by omega⟩)) rfl rfl ⟨Nat.le_of_ble_eq_true rfl, Nat.le_of_ble_eq_true rfl⟩ (Nat.le_of_ble_eq_true rfl) ⟨Nat.le_of_ble_eq_true rfl, Nat.le_of_ble_eq_true rfl⟩ ?_
    refine R_ifp_ne 17 19 rfl rfl dX10_of_14 (fun h14 => ?_) (fun h14 => ?_)
    · have h2 := hB.2.1 k.toNat (by omega)
      refine R_aload_n 20 rfl dX10_of_19 rfl ?_
      refine R_getP 5 23 rfl dX10_of_20 rfl rfl fl_X10_40 (hP _ _ _ rfl) ?_
      refine R_getP 1 26 rfl dX10_of_23 rfl rfl fl_X10_202 (hP _ _ _ rfl) ?_
      refine R_iload_n 27 rfl dX10_of_26 rfl ?_
      refine R_aald 2 28 rfl dX10_of_27 rfl rfl (by first | rfl | omega) (by decide) (by decide) (hP _ _ _ rfl) ?_
      refine R_iload_n 29 rfl dX10_of_28 rfl ?_
      refine R_iald k.toNat 30 rfl dX10_of_29 rfl (by first | rfl | omega) (by omega) (by decide) ?_
      refine R_ireturn dX10_of_30 rfl ?_
      exact QI_mk ⟨by unfold a_of; rw [if_pos (by omega)]; first | exact h2.1 | exact h2.2.1 | exact h2.2.2, Fs.rf, hCS⟩
    · refine R_iconst 18 rfl dX10_of_17 ?_
      refine R_ireturn dX10_of_18 rfl ?_
      first | (exfalso; omega) | exact QI_mk ⟨by unfold a_of; rw [if_neg (by omega)], Fs.rf, hCS⟩
theorem c_X10_of (k w : Int) (hCS : CS o d L B ch m) (hk : rg k) (hw : rg w) : C Γ mX10_of 2 80 0 0 [vr 0, vi k, vi w] SH m (QA o d L B ch m (a_of B k w)) := by
  rcases (show w = 0 ∨ w = 1 ∨ w = 2 ∨ ¬ (0 ≤ w ∧ w ≤ 2) by omega) with rfl | rfl | rfl | hw3
  · exact c_X10_of0 k hCS hk
  · exact c_X10_of1 k hCS hk
  · exact c_X10_of2 k hCS hk
  · refine C_of_R rfl (Nat.le_of_ble_eq_true rfl) ?_
    refine R_aload_n 1 rfl dX10_of_0 rfl ?_
    refine R_iload_n 2 rfl dX10_of_1 rfl ?_
    refine R_callV_i (M' := mX10_isInBooks) 5 rfl dX10_of_2 ml_X10_199 kmX10_isInBooks im_X10_isInBooks se_X10_isInBooks rfl ⟨by decide, rfl⟩ (c_X10_isInBooks _ hCS (by first | assumption | exact ⟨by omega, by omega⟩)) rfl rfl ⟨Nat.le_of_ble_eq_true rfl, Nat.le_of_ble_eq_true rfl⟩ (Nat.le_of_ble_eq_true rfl) ⟨Nat.le_of_ble_eq_true rfl, Nat.le_of_ble_eq_true rfl⟩ ?_
    refine R_ifp_eq 8 17 rfl rfl dX10_of_5 (fun h5 => ?_) (fun h5 => ?_)
    · refine R_iconst 18 rfl dX10_of_17 ?_
      refine R_ireturn dX10_of_18 rfl ?_
      exact QI_mk ⟨by unfold a_of; rw [if_neg (by omega)], Fs.rf, hCS⟩
    · refine R_iload_n 9 rfl dX10_of_8 rfl ?_
      refine R_iconst 10 rfl dX10_of_9 ?_
      refine R_iconst 11 rfl dX10_of_10 ?_
      refine R_callS_i (M' := mX10_within) 14 rfl dX10_of_11 ml_X10_108 kmX10_within st_X10_within (c_X10_within _ _ _ (by first | assumption | exact ⟨by omega, by omega⟩) (by first | assumption | exact ⟨by omega, by omega⟩) (by first | assumption | exact ⟨by omega, by omega⟩)) rfl rfl ⟨Nat.le_of_ble_eq_true rfl, Nat.le_of_ble_eq_true rfl⟩ (Nat.le_of_ble_eq_true rfl) ⟨Nat.le_of_ble_eq_true rfl, Nat.le_of_ble_eq_true rfl⟩ ?_
      refine R_ifp_ne 17 19 rfl rfl dX10_of_14 (fun h14 => ?_) (fun h14 => ?_)
      · exfalso; omega
      · refine R_iconst 18 rfl dX10_of_17 ?_
        refine R_ireturn dX10_of_18 rfl ?_
        exact QI_mk ⟨by unfold a_of; rw [if_neg (by omega)], Fs.rf, hCS⟩
theorem c_X10_has0 (k s : Int) (hCS : CS o d L B ch m) (hk : rg k) (hs : rg s) : C Γ mX10_has 3 120 0 0 [vr 0, vi k, vi s, vi 0] SH m (QA o d L B ch m (a_has B k s 0)) := by
  refine C_of_R rfl (Nat.le_of_ble_eq_true rfl) ?_
  obtain ⟨hPO, hB, hO, hL, hLO, hC, hCO, hst, hkc⟩ := id hCS
  have hP := hPO.2
  have h5 := hO.1
  refine R_aload_n 1 rfl dX10_has_0 rfl ?_
  refine R_iload_n 2 rfl dX10_has_1 rfl ?_
  refine R_iload_n 3 rfl dX10_has_2 rfl ?_
  refine R_callV_i (M' := mX10_isMark) 6 rfl dX10_has_3 ml_X10_189 kmX10_isMark im_X10_isMark se_X10_isMark rfl ⟨by decide, rfl⟩ (c_X10_isMark _ _ hCS (by first | assumption | exact ⟨by omega, by omega⟩) (by first | assumption | exact ⟨by omega, by omega⟩)) rfl rfl ⟨Nat.le_of_ble_eq_true rfl, Nat.le_of_ble_eq_true rfl⟩ (Nat.le_of_ble_eq_true rfl) ⟨Nat.le_of_ble_eq_true rfl, Nat.le_of_ble_eq_true rfl⟩ ?_
  refine R_ifp_eq 9 18 rfl rfl dX10_has_6 (fun h6 => ?_) (fun h6 => ?_)
  · refine R_iconst 19 rfl dX10_has_18 ?_
    refine R_ireturn dX10_has_19 rfl ?_
    first | (exfalso; omega) | exact QI_mk ⟨by unfold a_has; rw [if_neg (by omega)], Fs.rf, hCS⟩
  · refine R_iload_n 10 rfl dX10_has_9 rfl ?_
    refine R_iconst 11 rfl dX10_has_10 ?_
    refine R_iconst 12 rfl dX10_has_11 ?_
    refine R_callS_i (M' := mX10_within) 15 rfl dX10_has_12 ml_X10_108 kmX10_within st_X10_within (c_X10_within _ _ _ (by first | assumption | exact ⟨by omega, by omega⟩) (by first | assumption | exact ⟨by omega, by omega⟩) (by first | assumption | exact ⟨by omega, by omega⟩)) rfl rfl ⟨Nat.le_of_ble_eq_true rfl, Nat.le_of_ble_eq_true rfl⟩ (Nat.le_of_ble_eq_true rfl) ⟨Nat.le_of_ble_eq_true rfl, Nat.le_of_ble_eq_true rfl⟩ ?_
    refine R_ifp_ne 18 20 rfl rfl dX10_has_15 (fun h15 => ?_) (fun h15 => ?_)
    · have h2 := hB.2.2 (2 * k + s).toNat (by omega)
      refine R_aload_n 21 rfl dX10_has_20 rfl ?_
      refine R_getP 5 24 rfl dX10_has_21 rfl rfl fl_X10_40 (hP _ _ _ rfl) ?_
      refine R_getP 2 27 rfl dX10_has_24 rfl rfl fl_X10_196 (hP _ _ _ rfl) ?_
      refine R_iload_n 28 rfl dX10_has_27 rfl ?_
      refine R_aald 0 29 rfl dX10_has_28 rfl rfl (by first | rfl | omega) (by decide) (by decide) (hP _ _ _ rfl) ?_
      refine R_iconst 30 rfl dX10_has_29 ?_
      refine R_iload_n 31 rfl dX10_has_30 rfl ?_
      refine R_imul 32 rfl dX10_has_31 ?_
      refine R_iload_n 33 rfl dX10_has_32 rfl ?_
      refine R_iadd 34 rfl dX10_has_33 ?_
      refine R_iald (2 * k + s).toNat 35 rfl dX10_has_34 rfl (by first | rfl | omega) (by omega) (by decide) ?_
      refine R_ireturn dX10_has_35 rfl ?_
      exact QI_mk ⟨by unfold a_has; rw [if_pos (by omega)]; first | exact h2.1 | exact h2.2.1 | exact h2.2.2.1 | exact h2.2.2.2.1 | exact h2.2.2.2.2, Fs.rf, hCS⟩
    · refine R_iconst 19 rfl dX10_has_18 ?_
      refine R_ireturn dX10_has_19 rfl ?_
      first | (exfalso; omega) | exact QI_mk ⟨by unfold a_has; rw [if_neg (by omega)], Fs.rf, hCS⟩
theorem c_X10_has1 (k s : Int) (hCS : CS o d L B ch m) (hk : rg k) (hs : rg s) : C Γ mX10_has 3 120 0 0 [vr 0, vi k, vi s, vi 1] SH m (QA o d L B ch m (a_has B k s 1)) := by
  refine C_of_R rfl (Nat.le_of_ble_eq_true rfl) ?_
  obtain ⟨hPO, hB, hO, hL, hLO, hC, hCO, hst, hkc⟩ := id hCS
  have hP := hPO.2
  have h5 := hO.1
  refine R_aload_n 1 rfl dX10_has_0 rfl ?_
  refine R_iload_n 2 rfl dX10_has_1 rfl ?_
  refine R_iload_n 3 rfl dX10_has_2 rfl ?_
  refine R_callV_i (M' := mX10_isMark) 6 rfl dX10_has_3 ml_X10_189 kmX10_isMark im_X10_isMark se_X10_isMark rfl ⟨by decide, rfl⟩ (c_X10_isMark _ _ hCS (by first | assumption | exact ⟨by omega, by omega⟩) (by first | assumption | exact ⟨by omega, by omega⟩)) rfl rfl ⟨Nat.le_of_ble_eq_true rfl, Nat.le_of_ble_eq_true rfl⟩ (Nat.le_of_ble_eq_true rfl) ⟨Nat.le_of_ble_eq_true rfl, Nat.le_of_ble_eq_true rfl⟩ ?_
  refine R_ifp_eq 9 18 rfl rfl dX10_has_6 (fun h6 => ?_) (fun h6 => ?_)
  · refine R_iconst 19 rfl dX10_has_18 ?_
    refine R_ireturn dX10_has_19 rfl ?_
    first | (exfalso; omega) | exact QI_mk ⟨by unfold a_has; rw [if_neg (by omega)], Fs.rf, hCS⟩
  · refine R_iload_n 10 rfl dX10_has_9 rfl ?_
    refine R_iconst 11 rfl dX10_has_10 ?_
    refine R_iconst 12 rfl dX10_has_11 ?_
    refine R_callS_i (M' := mX10_within) 15 rfl dX10_has_12 ml_X10_108 kmX10_within st_X10_within (c_X10_within _ _ _ (by first | assumption | exact ⟨by omega, by omega⟩) (by first | assumption | exact ⟨by omega, by omega⟩) (by first | assumption | exact ⟨by omega, by omega⟩)) rfl rfl ⟨Nat.le_of_ble_eq_true rfl, Nat.le_of_ble_eq_true rfl⟩ (Nat.le_of_ble_eq_true rfl) ⟨Nat.le_of_ble_eq_true rfl, Nat.le_of_ble_eq_true rfl⟩ ?_
    refine R_ifp_ne 18 20 rfl rfl dX10_has_15 (fun h15 => ?_) (fun h15 => ?_)
    · have h2 := hB.2.2 (2 * k + s).toNat (by omega)
      refine R_aload_n 21 rfl dX10_has_20 rfl ?_
      refine R_getP 5 24 rfl dX10_has_21 rfl rfl fl_X10_40 (hP _ _ _ rfl) ?_
      refine R_getP 2 27 rfl dX10_has_24 rfl rfl fl_X10_196 (hP _ _ _ rfl) ?_
      refine R_iload_n 28 rfl dX10_has_27 rfl ?_
      refine R_aald 1 29 rfl dX10_has_28 rfl rfl (by first | rfl | omega) (by decide) (by decide) (hP _ _ _ rfl) ?_
      refine R_iconst 30 rfl dX10_has_29 ?_
      refine R_iload_n 31 rfl dX10_has_30 rfl ?_
      refine R_imul 32 rfl dX10_has_31 ?_
      refine R_iload_n 33 rfl dX10_has_32 rfl ?_
      refine R_iadd 34 rfl dX10_has_33 ?_
      refine R_iald (2 * k + s).toNat 35 rfl dX10_has_34 rfl (by first | rfl | omega) (by omega) (by decide) ?_
      refine R_ireturn dX10_has_35 rfl ?_
      exact QI_mk ⟨by unfold a_has; rw [if_pos (by omega)]; first | exact h2.1 | exact h2.2.1 | exact h2.2.2.1 | exact h2.2.2.2.1 | exact h2.2.2.2.2, Fs.rf, hCS⟩
    · refine R_iconst 19 rfl dX10_has_18 ?_
      refine R_ireturn dX10_has_19 rfl ?_
      first | (exfalso; omega) | exact QI_mk ⟨by unfold a_has; rw [if_neg (by omega)], Fs.rf, hCS⟩
theorem c_X10_has2 (k s : Int) (hCS : CS o d L B ch m) (hk : rg k) (hs : rg s) : C Γ mX10_has 3 120 0 0 [vr 0, vi k, vi s, vi 2] SH m (QA o d L B ch m (a_has B k s 2)) := by
  refine C_of_R rfl (Nat.le_of_ble_eq_true rfl) ?_
  obtain ⟨hPO, hB, hO, hL, hLO, hC, hCO, hst, hkc⟩ := id hCS
  have hP := hPO.2
  have h5 := hO.1
  refine R_aload_n 1 rfl dX10_has_0 rfl ?_
  refine R_iload_n 2 rfl dX10_has_1 rfl ?_
  refine R_iload_n 3 rfl dX10_has_2 rfl ?_
  refine R_callV_i (M' := mX10_isMark) 6 rfl dX10_has_3 ml_X10_189 kmX10_isMark im_X10_isMark se_X10_isMark rfl ⟨by decide, rfl⟩ (c_X10_isMark _ _ hCS (by first | assumption | exact ⟨by omega, by omega⟩) (by first | assumption | exact ⟨by omega, by omega⟩)) rfl rfl ⟨Nat.le_of_ble_eq_true rfl, Nat.le_of_ble_eq_true rfl⟩ (Nat.le_of_ble_eq_true rfl) ⟨Nat.le_of_ble_eq_true rfl, Nat.le_of_ble_eq_true rfl⟩ ?_
  refine R_ifp_eq 9 18 rfl rfl dX10_has_6 (fun h6 => ?_) (fun h6 => ?_)
  · refine R_iconst 19 rfl dX10_has_18 ?_
    refine R_ireturn dX10_has_19 rfl ?_
    first | (exfalso; omega) | exact QI_mk ⟨by unfold a_has; rw [if_neg (by omega)], Fs.rf, hCS⟩
  · refine R_iload_n 10 rfl dX10_has_9 rfl ?_
    refine R_iconst 11 rfl dX10_has_10 ?_
    refine R_iconst 12 rfl dX10_has_11 ?_
    refine R_callS_i (M' := mX10_within) 15 rfl dX10_has_12 ml_X10_108 kmX10_within st_X10_within (c_X10_within _ _ _ (by first | assumption | exact ⟨by omega, by omega⟩) (by first | assumption | exact ⟨by omega, by omega⟩) (by first | assumption | exact ⟨by omega, by omega⟩)) rfl rfl ⟨Nat.le_of_ble_eq_true rfl, Nat.le_of_ble_eq_true rfl⟩ (Nat.le_of_ble_eq_true rfl) ⟨Nat.le_of_ble_eq_true rfl, Nat.le_of_ble_eq_true rfl⟩ ?_
    refine R_ifp_ne 18 20 rfl rfl dX10_has_15 (fun h15 => ?_) (fun h15 => ?_)
    · have h2 := hB.2.2 (2 * k + s).toNat (by omega)
      refine R_aload_n 21 rfl dX10_has_20 rfl ?_
      refine R_getP 5 24 rfl dX10_has_21 rfl rfl fl_X10_40 (hP _ _ _ rfl) ?_
      refine R_getP 2 27 rfl dX10_has_24 rfl rfl fl_X10_196 (hP _ _ _ rfl) ?_
      refine R_iload_n 28 rfl dX10_has_27 rfl ?_
      refine R_aald 2 29 rfl dX10_has_28 rfl rfl (by first | rfl | omega) (by decide) (by decide) (hP _ _ _ rfl) ?_
      refine R_iconst 30 rfl dX10_has_29 ?_
      refine R_iload_n 31 rfl dX10_has_30 rfl ?_
      refine R_imul 32 rfl dX10_has_31 ?_
      refine R_iload_n 33 rfl dX10_has_32 rfl ?_
      refine R_iadd 34 rfl dX10_has_33 ?_
      refine R_iald (2 * k + s).toNat 35 rfl dX10_has_34 rfl (by first | rfl | omega) (by omega) (by decide) ?_
      refine R_ireturn dX10_has_35 rfl ?_
      exact QI_mk ⟨by unfold a_has; rw [if_pos (by omega)]; first | exact h2.1 | exact h2.2.1 | exact h2.2.2.1 | exact h2.2.2.2.1 | exact h2.2.2.2.2, Fs.rf, hCS⟩
    · refine R_iconst 19 rfl dX10_has_18 ?_
      refine R_ireturn dX10_has_19 rfl ?_
      first | (exfalso; omega) | exact QI_mk ⟨by unfold a_has; rw [if_neg (by omega)], Fs.rf, hCS⟩
theorem c_X10_has3 (k s : Int) (hCS : CS o d L B ch m) (hk : rg k) (hs : rg s) : C Γ mX10_has 3 120 0 0 [vr 0, vi k, vi s, vi 3] SH m (QA o d L B ch m (a_has B k s 3)) := by
  refine C_of_R rfl (Nat.le_of_ble_eq_true rfl) ?_
  obtain ⟨hPO, hB, hO, hL, hLO, hC, hCO, hst, hkc⟩ := id hCS
  have hP := hPO.2
  have h5 := hO.1
  refine R_aload_n 1 rfl dX10_has_0 rfl ?_
  refine R_iload_n 2 rfl dX10_has_1 rfl ?_
  refine R_iload_n 3 rfl dX10_has_2 rfl ?_
  refine R_callV_i (M' := mX10_isMark) 6 rfl dX10_has_3 ml_X10_189 kmX10_isMark im_X10_isMark se_X10_isMark rfl ⟨by decide, rfl⟩ (c_X10_isMark _ _ hCS (by first | assumption | exact ⟨by omega, by omega⟩) (by first | assumption | exact ⟨by omega, by omega⟩)) rfl rfl ⟨Nat.le_of_ble_eq_true rfl, Nat.le_of_ble_eq_true rfl⟩ (Nat.le_of_ble_eq_true rfl) ⟨Nat.le_of_ble_eq_true rfl, Nat.le_of_ble_eq_true rfl⟩ ?_
  refine R_ifp_eq 9 18 rfl rfl dX10_has_6 (fun h6 => ?_) (fun h6 => ?_)
  · refine R_iconst 19 rfl dX10_has_18 ?_
    refine R_ireturn dX10_has_19 rfl ?_
    first | (exfalso; omega) | exact QI_mk ⟨by unfold a_has; rw [if_neg (by omega)], Fs.rf, hCS⟩
  · refine R_iload_n 10 rfl dX10_has_9 rfl ?_
    refine R_iconst 11 rfl dX10_has_10 ?_
    refine R_iconst 12 rfl dX10_has_11 ?_
    refine R_callS_i (M' := mX10_within) 15 rfl dX10_has_12 ml_X10_108 kmX10_within st_X10_within (c_X10_within _ _ _ (by first | assumption | exact ⟨by omega, by omega⟩) (by first | assumption | exact ⟨by omega, by omega⟩) (by first | assumption | exact ⟨by omega, by omega⟩)) rfl rfl ⟨Nat.le_of_ble_eq_true rfl, Nat.le_of_ble_eq_true rfl⟩ (Nat.le_of_ble_eq_true rfl) ⟨Nat.le_of_ble_eq_true rfl, Nat.le_of_ble_eq_true rfl⟩ ?_
    refine R_ifp_ne 18 20 rfl rfl dX10_has_15 (fun h15 => ?_) (fun h15 => ?_)
    · have h2 := hB.2.2 (2 * k + s).toNat (by omega)
      refine R_aload_n 21 rfl dX10_has_20 rfl ?_
      refine R_getP 5 24 rfl dX10_has_21 rfl rfl fl_X10_40 (hP _ _ _ rfl) ?_
      refine R_getP 2 27 rfl dX10_has_24 rfl rfl fl_X10_196 (hP _ _ _ rfl) ?_
      refine R_iload_n 28 rfl dX10_has_27 rfl ?_
      refine R_aald 3 29 rfl dX10_has_28 rfl rfl (by first | rfl | omega) (by decide) (by decide) (hP _ _ _ rfl) ?_
      refine R_iconst 30 rfl dX10_has_29 ?_
      refine R_iload_n 31 rfl dX10_has_30 rfl ?_
      refine R_imul 32 rfl dX10_has_31 ?_
      refine R_iload_n 33 rfl dX10_has_32 rfl ?_
      refine R_iadd 34 rfl dX10_has_33 ?_
      refine R_iald (2 * k + s).toNat 35 rfl dX10_has_34 rfl (by first | rfl | omega) (by omega) (by decide) ?_
      refine R_ireturn dX10_has_35 rfl ?_
      exact QI_mk ⟨by unfold a_has; rw [if_pos (by omega)]; first | exact h2.1 | exact h2.2.1 | exact h2.2.2.1 | exact h2.2.2.2.1 | exact h2.2.2.2.2, Fs.rf, hCS⟩
    · refine R_iconst 19 rfl dX10_has_18 ?_
      refine R_ireturn dX10_has_19 rfl ?_
      first | (exfalso; omega) | exact QI_mk ⟨by unfold a_has; rw [if_neg (by omega)], Fs.rf, hCS⟩
theorem c_X10_has4 (k s : Int) (hCS : CS o d L B ch m) (hk : rg k) (hs : rg s) : C Γ mX10_has 3 120 0 0 [vr 0, vi k, vi s, vi 4] SH m (QA o d L B ch m (a_has B k s 4)) := by
  refine C_of_R rfl (Nat.le_of_ble_eq_true rfl) ?_
  obtain ⟨hPO, hB, hO, hL, hLO, hC, hCO, hst, hkc⟩ := id hCS
  have hP := hPO.2
  have h5 := hO.1
  refine R_aload_n 1 rfl dX10_has_0 rfl ?_
  refine R_iload_n 2 rfl dX10_has_1 rfl ?_
  refine R_iload_n 3 rfl dX10_has_2 rfl ?_
  refine R_callV_i (M' := mX10_isMark) 6 rfl dX10_has_3 ml_X10_189 kmX10_isMark im_X10_isMark se_X10_isMark rfl ⟨by decide, rfl⟩ (c_X10_isMark _ _ hCS (by first | assumption | exact ⟨by omega, by omega⟩) (by first | assumption | exact ⟨by omega, by omega⟩)) rfl rfl ⟨Nat.le_of_ble_eq_true rfl, Nat.le_of_ble_eq_true rfl⟩ (Nat.le_of_ble_eq_true rfl) ⟨Nat.le_of_ble_eq_true rfl, Nat.le_of_ble_eq_true rfl⟩ ?_
  refine R_ifp_eq 9 18 rfl rfl dX10_has_6 (fun h6 => ?_) (fun h6 => ?_)
  · refine R_iconst 19 rfl dX10_has_18 ?_
    refine R_ireturn dX10_has_19 rfl ?_
    first | (exfalso; omega) | exact QI_mk ⟨by unfold a_has; rw [if_neg (by omega)], Fs.rf, hCS⟩
  · refine R_iload_n 10 rfl dX10_has_9 rfl ?_
    refine R_iconst 11 rfl dX10_has_10 ?_
    refine R_iconst 12 rfl dX10_has_11 ?_
    refine R_callS_i (M' := mX10_within) 15 rfl dX10_has_12 ml_X10_108 kmX10_within st_X10_within (c_X10_within _ _ _ (by first | assumption | exact ⟨by omega, by omega⟩) (by first | assumption | exact ⟨by omega, by omega⟩) (by first | assumption | exact ⟨by omega, by omega⟩)) rfl rfl ⟨Nat.le_of_ble_eq_true rfl, Nat.le_of_ble_eq_true rfl⟩ (Nat.le_of_ble_eq_true rfl) ⟨Nat.le_of_ble_eq_true rfl, Nat.le_of_ble_eq_true rfl⟩ ?_
    refine R_ifp_ne 18 20 rfl rfl dX10_has_15 (fun h15 => ?_) (fun h15 => ?_)
    · have h2 := hB.2.2 (2 * k + s).toNat (by omega)
      refine R_aload_n 21 rfl dX10_has_20 rfl ?_
      refine R_getP 5 24 rfl dX10_has_21 rfl rfl fl_X10_40 (hP _ _ _ rfl) ?_
      refine R_getP 2 27 rfl dX10_has_24 rfl rfl fl_X10_196 (hP _ _ _ rfl) ?_
      refine R_iload_n 28 rfl dX10_has_27 rfl ?_
      refine R_aald 4 29 rfl dX10_has_28 rfl rfl (by first | rfl | omega) (by decide) (by decide) (hP _ _ _ rfl) ?_
      refine R_iconst 30 rfl dX10_has_29 ?_
      refine R_iload_n 31 rfl dX10_has_30 rfl ?_
      refine R_imul 32 rfl dX10_has_31 ?_
      refine R_iload_n 33 rfl dX10_has_32 rfl ?_
      refine R_iadd 34 rfl dX10_has_33 ?_
      refine R_iald (2 * k + s).toNat 35 rfl dX10_has_34 rfl (by first | rfl | omega) (by omega) (by decide) ?_
      refine R_ireturn dX10_has_35 rfl ?_
      exact QI_mk ⟨by unfold a_has; rw [if_pos (by omega)]; first | exact h2.1 | exact h2.2.1 | exact h2.2.2.1 | exact h2.2.2.2.1 | exact h2.2.2.2.2, Fs.rf, hCS⟩
    · refine R_iconst 19 rfl dX10_has_18 ?_
      refine R_ireturn dX10_has_19 rfl ?_
      first | (exfalso; omega) | exact QI_mk ⟨by unfold a_has; rw [if_neg (by omega)], Fs.rf, hCS⟩
theorem c_X10_has (k s w : Int) (hCS : CS o d L B ch m) (hk : rg k) (hs : rg s) (hw : rg w) : C Γ mX10_has 3 120 0 0 [vr 0, vi k, vi s, vi w] SH m (QA o d L B ch m (a_has B k s w)) := by
  rcases (show w = 0 ∨ w = 1 ∨ w = 2 ∨ w = 3 ∨ w = 4 ∨ ¬ (0 ≤ w ∧ w ≤ 4) by omega) with rfl | rfl | rfl | rfl | rfl | hw3
  · exact c_X10_has0 k s hCS hk hs
  · exact c_X10_has1 k s hCS hk hs
  · exact c_X10_has2 k s hCS hk hs
  · exact c_X10_has3 k s hCS hk hs
  · exact c_X10_has4 k s hCS hk hs
  · refine C_of_R rfl (Nat.le_of_ble_eq_true rfl) ?_
    refine R_aload_n 1 rfl dX10_has_0 rfl ?_
    refine R_iload_n 2 rfl dX10_has_1 rfl ?_
    refine R_iload_n 3 rfl dX10_has_2 rfl ?_
    refine R_callV_i (M' := mX10_isMark) 6 rfl dX10_has_3 ml_X10_189 kmX10_isMark im_X10_isMark se_X10_isMark rfl ⟨by decide, rfl⟩ (c_X10_isMark _ _ hCS (by first | assumption | exact ⟨by omega, by omega⟩) (by first | assumption | exact ⟨by omega, by omega⟩)) rfl rfl ⟨Nat.le_of_ble_eq_true rfl, Nat.le_of_ble_eq_true rfl⟩ (Nat.le_of_ble_eq_true rfl) ⟨Nat.le_of_ble_eq_true rfl, Nat.le_of_ble_eq_true rfl⟩ ?_
    refine R_ifp_eq 9 18 rfl rfl dX10_has_6 (fun h6 => ?_) (fun h6 => ?_)
    · refine R_iconst 19 rfl dX10_has_18 ?_
      refine R_ireturn dX10_has_19 rfl ?_
      exact QI_mk ⟨by unfold a_has; rw [if_neg (by omega)], Fs.rf, hCS⟩
    · refine R_iload_n 10 rfl dX10_has_9 rfl ?_
      refine R_iconst 11 rfl dX10_has_10 ?_
      refine R_iconst 12 rfl dX10_has_11 ?_
      refine R_callS_i (M' := mX10_within) 15 rfl dX10_has_12 ml_X10_108 kmX10_within st_X10_within (c_X10_within _ _ _ (by first | assumption | exact ⟨by omega, by omega⟩) (by first | assumption | exact ⟨by omega, by omega⟩) (by first | assumption | exact ⟨by omega, by omega⟩)) rfl rfl ⟨Nat.le_of_ble_eq_true rfl, Nat.le_of_ble_eq_true rfl⟩ (Nat.le_of_ble_eq_true rfl) ⟨Nat.le_of_ble_eq_true rfl, Nat.le_of_ble_eq_true rfl⟩ ?_
      refine R_ifp_ne 18 20 rfl rfl dX10_has_15 (fun h15 => ?_) (fun h15 => ?_)
      · exfalso; omega
      · refine R_iconst 19 rfl dX10_has_18 ?_
        refine R_ireturn dX10_has_19 rfl ?_
        exact QI_mk ⟨by unfold a_has; rw [if_neg (by omega)], Fs.rf, hCS⟩
theorem c_X10_kind (k s : Int) (hCS : CS o d L B ch m) (hk : rg k) (hs : rg s) : C Γ mX10_kind 5 200 0 0 [vr 0, vi k, vi s] SH m (QA o d L B ch m (a_kind L B k s)) := by
  refine C_of_R rfl (Nat.le_of_ble_eq_true rfl) ?_
  have hPO := hCS.1
  have hP := hPO.2
  have h5 := hCS.2.2.1.1
  refine R_aload_n 1 rfl dX10_kind_0 rfl ?_
  refine R_iload_n 2 rfl dX10_kind_1 rfl ?_
  refine R_iload_n 3 rfl dX10_kind_2 rfl ?_
  refine R_callV_i (M' := mX10_isMark) 6 rfl dX10_kind_3 ml_X10_189 kmX10_isMark im_X10_isMark se_X10_isMark rfl ⟨by decide, rfl⟩ (c_X10_isMark _ _ hCS (by first | assumption | exact ⟨by omega, by omega⟩) (by first | assumption | exact ⟨by omega, by omega⟩)) rfl rfl ⟨Nat.le_of_ble_eq_true rfl, Nat.le_of_ble_eq_true rfl⟩ (Nat.le_of_ble_eq_true rfl) ⟨Nat.le_of_ble_eq_true rfl, Nat.le_of_ble_eq_true rfl⟩ ?_
  refine R_ifp_ne 9 11 rfl rfl dX10_kind_6 (fun h6 => ?_) (fun h6 => ?_)
  · refine R_aload_n 12 rfl dX10_kind_11 rfl ?_
    refine R_getP 6 15 rfl dX10_kind_12 rfl rfl fl_X10_47 (hP _ _ _ rfl) ?_
    refine R_aload_n 16 rfl dX10_kind_15 rfl ?_
    refine R_getP 5 19 rfl dX10_kind_16 rfl rfl fl_X10_40 (hP _ _ _ rfl) ?_
    refine R_aload_n 20 rfl dX10_kind_19 rfl ?_
    refine R_getP 2 23 rfl dX10_kind_20 rfl rfl fl_X10_26 (PO_o hPO) ?_
    refine R_callV_V (M' := mX3_renew) 26 rfl dX10_kind_23 ml_X10_163 kmX3_renew im_X3_renew se_X3_renew rfl ⟨by decide, rfl⟩ (c_renew hCS) rfl rfl ⟨Nat.le_of_ble_eq_true rfl, Nat.le_of_ble_eq_true rfl⟩ (Nat.le_of_ble_eq_true rfl) ⟨Nat.le_of_ble_eq_true rfl, Nat.le_of_ble_eq_true rfl⟩ ?_
    rintro m23 h23
    obtain ⟨f23, hCS, hKF⟩ := h23
    clear hPO hP
    have hPO := hCS.1
    have hP := hPO.2
    have h2 := hKF.2 (2 * k + s).toNat (by omega)
    refine R_aload_n 27 rfl dX10_kind_26 rfl ?_
    refine R_getP 6 30 rfl dX10_kind_27 rfl rfl fl_X10_47 (hP _ _ _ rfl) ?_
    refine R_getP 1 33 rfl dX10_kind_30 rfl rfl fl_X10_205 (hP _ _ _ rfl) ?_
    refine R_iconst 34 rfl dX10_kind_33 ?_
    refine R_iload_n 35 rfl dX10_kind_34 rfl ?_
    refine R_imul 36 rfl dX10_kind_35 ?_
    refine R_iload_n 37 rfl dX10_kind_36 rfl ?_
    refine R_iadd 38 rfl dX10_kind_37 ?_
    refine R_iald (2 * k + s).toNat 39 rfl dX10_kind_38 rfl (by first | rfl | omega) (by omega) (by decide) ?_
    refine R_ireturn dX10_kind_39 rfl ?_
    exact QI_mk ⟨by unfold a_kind; rw [if_pos (by omega)]; exact h2.1, f23.s, hCS⟩
  · refine R_iconst 10 rfl dX10_kind_9 ?_
    refine R_ireturn dX10_kind_10 rfl ?_
    exact QI_mk ⟨by unfold a_kind; rw [if_neg (by omega)], Fs.rf, hCS⟩
theorem c_X10_writer (k s : Int) (hCS : CS o d L B ch m) (hk : rg k) (hs : rg s) : C Γ mX10_writer 5 200 0 0 [vr 0, vi k, vi s] SH m (QA o d L B ch m (a_writer L B k s)) := by
  refine C_of_R rfl (Nat.le_of_ble_eq_true rfl) ?_
  have hPO := hCS.1
  have hP := hPO.2
  have h5 := hCS.2.2.1.1
  refine R_aload_n 1 rfl dX10_writer_0 rfl ?_
  refine R_iload_n 2 rfl dX10_writer_1 rfl ?_
  refine R_iload_n 3 rfl dX10_writer_2 rfl ?_
  refine R_callV_i (M' := mX10_isMark) 6 rfl dX10_writer_3 ml_X10_189 kmX10_isMark im_X10_isMark se_X10_isMark rfl ⟨by decide, rfl⟩ (c_X10_isMark _ _ hCS (by first | assumption | exact ⟨by omega, by omega⟩) (by first | assumption | exact ⟨by omega, by omega⟩)) rfl rfl ⟨Nat.le_of_ble_eq_true rfl, Nat.le_of_ble_eq_true rfl⟩ (Nat.le_of_ble_eq_true rfl) ⟨Nat.le_of_ble_eq_true rfl, Nat.le_of_ble_eq_true rfl⟩ ?_
  refine R_ifp_ne 9 11 rfl rfl dX10_writer_6 (fun h6 => ?_) (fun h6 => ?_)
  · refine R_aload_n 12 rfl dX10_writer_11 rfl ?_
    refine R_getP 6 15 rfl dX10_writer_12 rfl rfl fl_X10_47 (hP _ _ _ rfl) ?_
    refine R_aload_n 16 rfl dX10_writer_15 rfl ?_
    refine R_getP 5 19 rfl dX10_writer_16 rfl rfl fl_X10_40 (hP _ _ _ rfl) ?_
    refine R_aload_n 20 rfl dX10_writer_19 rfl ?_
    refine R_getP 2 23 rfl dX10_writer_20 rfl rfl fl_X10_26 (PO_o hPO) ?_
    refine R_callV_V (M' := mX3_renew) 26 rfl dX10_writer_23 ml_X10_163 kmX3_renew im_X3_renew se_X3_renew rfl ⟨by decide, rfl⟩ (c_renew hCS) rfl rfl ⟨Nat.le_of_ble_eq_true rfl, Nat.le_of_ble_eq_true rfl⟩ (Nat.le_of_ble_eq_true rfl) ⟨Nat.le_of_ble_eq_true rfl, Nat.le_of_ble_eq_true rfl⟩ ?_
    rintro m23 h23
    obtain ⟨f23, hCS, hKF⟩ := h23
    clear hPO hP
    have hPO := hCS.1
    have hP := hPO.2
    have h2 := hKF.2 (2 * k + s).toNat (by omega)
    refine R_aload_n 27 rfl dX10_writer_26 rfl ?_
    refine R_getP 6 30 rfl dX10_writer_27 rfl rfl fl_X10_47 (hP _ _ _ rfl) ?_
    refine R_getP 2 33 rfl dX10_writer_30 rfl rfl fl_X10_208 (hP _ _ _ rfl) ?_
    refine R_iconst 34 rfl dX10_writer_33 ?_
    refine R_iload_n 35 rfl dX10_writer_34 rfl ?_
    refine R_imul 36 rfl dX10_writer_35 ?_
    refine R_iload_n 37 rfl dX10_writer_36 rfl ?_
    refine R_iadd 38 rfl dX10_writer_37 ?_
    refine R_iald (2 * k + s).toNat 39 rfl dX10_writer_38 rfl (by first | rfl | omega) (by omega) (by decide) ?_
    refine R_ireturn dX10_writer_39 rfl ?_
    exact QI_mk ⟨by unfold a_writer; rw [if_pos (by omega)]; exact h2.2, f23.s, hCS⟩
  · refine R_iconst 10 rfl dX10_writer_9 ?_
    refine R_ireturn dX10_writer_10 rfl ?_
    exact QI_mk ⟨by unfold a_writer; rw [if_neg (by omega)], Fs.rf, hCS⟩
theorem c_X10_apart (a b : Int) (hCS : CS o d L B ch m) (ha : rg a) (hb : rg b) : C Γ mX10_apart 2 80 0 0 [vr 0, vi a, vi b] SH m (QA o d L B ch m (a_apart a b)) := by
  refine C_of_R rfl (Nat.le_of_ble_eq_true rfl) ?_
  refine R_iload_n 1 rfl dX10_apart_0 rfl ?_
  refine R_iconst 2 rfl dX10_apart_1 ?_
  refine R_sipush 5 rfl dX10_apart_2 (by decide) ?_
  refine R_callS_i (M' := mX10_within) 8 rfl dX10_apart_5 ml_X10_108 kmX10_within st_X10_within (c_X10_within _ _ _ (by first | assumption | exact ⟨by omega, by omega⟩) (by first | assumption | exact ⟨by omega, by omega⟩) (by first | assumption | exact ⟨by omega, by omega⟩)) rfl rfl ⟨Nat.le_of_ble_eq_true rfl, Nat.le_of_ble_eq_true rfl⟩ (Nat.le_of_ble_eq_true rfl) ⟨Nat.le_of_ble_eq_true rfl, Nat.le_of_ble_eq_true rfl⟩ ?_
  refine R_ifp_eq 11 22 rfl rfl dX10_apart_8 (fun h8 => ?_) (fun h8 => ?_)
  · refine R_iconst 23 rfl dX10_apart_22 ?_
    refine R_ireturn dX10_apart_23 rfl ?_
    exact QI_mk ⟨by unfold a_apart; rw [if_neg (by omega)], Fs.rf, hCS⟩
  · refine R_iload_n 12 rfl dX10_apart_11 rfl ?_
    refine R_iconst 13 rfl dX10_apart_12 ?_
    refine R_sipush 16 rfl dX10_apart_13 (by decide) ?_
    refine R_callS_i (M' := mX10_within) 19 rfl dX10_apart_16 ml_X10_108 kmX10_within st_X10_within (c_X10_within _ _ _ (by first | assumption | exact ⟨by omega, by omega⟩) (by first | assumption | exact ⟨by omega, by omega⟩) (by first | assumption | exact ⟨by omega, by omega⟩)) rfl rfl ⟨Nat.le_of_ble_eq_true rfl, Nat.le_of_ble_eq_true rfl⟩ (Nat.le_of_ble_eq_true rfl) ⟨Nat.le_of_ble_eq_true rfl, Nat.le_of_ble_eq_true rfl⟩ ?_
    refine R_ifp_ne 22 24 rfl rfl dX10_apart_19 (fun h19 => ?_) (fun h19 => ?_)
    · refine R_iload_n 25 rfl dX10_apart_24 rfl ?_
      refine R_iload_n 26 rfl dX10_apart_25 rfl ?_
      refine R_callS_i (M' := mX10_bitsApart) 29 rfl dX10_apart_26 ml_X10_211 kmX10_bitsApart st_X10_bitsApart (c_X10_bitsApart _ _ (by omega) (by omega)) rfl rfl ⟨Nat.le_of_ble_eq_true rfl, Nat.le_of_ble_eq_true rfl⟩ (Nat.le_of_ble_eq_true rfl) ⟨Nat.le_of_ble_eq_true rfl, Nat.le_of_ble_eq_true rfl⟩ ?_
      refine R_ireturn dX10_apart_29 rfl ?_
      exact QI_mk ⟨by unfold a_apart; rw [if_pos (by omega)], Fs.rf, hCS⟩
    · refine R_iconst 23 rfl dX10_apart_22 ?_
      refine R_ireturn dX10_apart_23 rfl ?_
      exact QI_mk ⟨by unfold a_apart; rw [if_neg (by omega)], Fs.rf, hCS⟩
end
