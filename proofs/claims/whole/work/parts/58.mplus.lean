def RtM (m : Mem) (N D : Int) : Prop := m.1 96 28 = rT N D ∧ m.1 96 29 = rB N D
/-- the sum alone is changed -/
def Fp (m m' : Mem) : Prop := (∀ a k, a ≠ 96 ∨ (k ≠ 28 ∧ k ≠ 29) → m'.1 a k = m.1 a k) ∧ m'.2 = m.2
theorem Fp.m {m m' : Mem} (h : Fp m m') : Fm m m' := ⟨fun a k q _ _ => h.1 a k (Or.inl q), fun k q => h.1 96 k (Or.inr (by omega)), fun k _ => h.1 107 k (Or.inl (by decide)), h.2⟩
theorem Fp.z {L : Ld} {B : Bk} {ch : Cs} {m m' : Mem} (h : Fp m m') (hZ : RZ L B ch m) : RZ L B ch m' := ⟨hZ.1.sc h.m (h.1 96 20 (Or.inr (by decide))) (fun k => h.1 107 k (Or.inl (by decide))), by rw [h.1 96 20 (Or.inr (by decide))]; exact hZ.2.1, fun k hk => by rw [h.1 108 k (Or.inl (by decide))]; exact hZ.2.2 k hk⟩
theorem Fp.s28 {m m' : Mem} {z : Int} (h : Fp m m') : Fp m (setI m' 96 28 z) := ⟨fun a k q => by simp only [setI]; rw [if_neg (by omega)]; exact h.1 a k q, h.2⟩
theorem Fp.s29 {m m' : Mem} {z : Int} (h : Fp m m') : Fp m (setI m' 96 29 z) := ⟨fun a k q => by simp only [setI]; rw [if_neg (by omega)]; exact h.1 a k q, h.2⟩
theorem Fp.rf {m : Mem} : Fp m m := ⟨fun _ _ _ => rfl, rfl⟩
theorem Fp.tr {m m' m'' : Mem} (h : Fp m m') (h' : Fp m' m'') : Fp m m'' := ⟨fun a k q => (h'.1 a k q).trans (h.1 a k q), h'.2.trans h.2⟩
theorem RtM_re {m : Mem} {N D N' D' : Int} (h : RtM m N D) (hD : 0 < D) (hD' : 0 < D') (e : N * D' = N' * D) : RtM m N' D' := by
  have := red_eq hD hD' e
  exact ⟨h.1.trans this.1, h.2.trans this.2⟩
theorem RtM_0 {m : Mem} {D : Int} (h : RtM m 0 1) (hD : 0 < D) : RtM m 0 D := RtM_re h (by decide) hD (by simp)
theorem low_q {D up dn q : Int} (hd : 0 < dn) (he : D = dn * q) : rB up dn ∣ D ∧ rT up dn * (D / rB up dn) = up * q := by
  have b1 := rB_pos (n := up) hd
  have e1 := rT_mul (n := up) (d := dn)
  have e2 := rB_mul (n := up) (d := dn)
  have e3 : D = rB up dn * (gcI up dn * q) := by rw [← Int.mul_assoc, e2]; exact he
  refine ⟨⟨_, e3⟩, ?_⟩
  have e4 : D / rB up dn = gcI up dn * q := by
    conv => lhs; rw [e3]
    exact Int.mul_ediv_cancel_left _ (by omega)
  rw [e4, ← Int.mul_assoc, e1]
section
variable {Γ : GX} {m m' : Mem} {B B' : Bk} {L : Ld} {ch ch' : Cs}
theorem c_X11_nothing (hP : RP m) : C Γ mX11_nothing 0 0 0 0 [vr 96] SH m (QV SH (fun m' => Fp m m' ∧ RtM m' 0 1)) := by
  refine C_of_R rfl (Nat.le_of_ble_eq_true rfl) ?_
  have e1 : rT 0 1 = 0 := by decide
  have e2 : rB 0 1 = 1 := by decide
  refine R_aload_n 1 rfl dX11_nothing_0 rfl ?_
  refine R_lconst 2 rfl dX11_nothing_1 ?_
  refine R_topL (b := 0) rfl ?_
  refine R_putL 28 5 rfl dX11_nothing_2 rfl rfl fl_X11_287 ?_
  refine R_aload_n 6 rfl dX11_nothing_5 rfl ?_
  refine R_lconst 7 rfl dX11_nothing_6 ?_
  refine R_topL (b := 1) rfl ?_
  refine R_putL 29 10 rfl dX11_nothing_7 rfl rfl fl_X11_291 ?_
  refine R_return dX11_nothing_10 rfl ?_
  exact QV_mk ⟨Fp.rf.s28.s29, by rw [RtM, e1, e2]; simp [setI]⟩
set_option maxHeartbeats 1000000 in
theorem c_X11_plus (N D up dn q : Int) (hr : RtM m N D) (hD : 0 < D ∧ D < 9223372036854775808) (hd : 0 < dn) (he : D = dn * q) (hu : -9223372036854775808 < up ∧ up < 9223372036854775808) (hk : -9223372036854775807 ≤ N + up * q ∧ N + up * q ≤ 9223372036854775807) : C Γ mX11_plus 1 40 0 0 [vr 96, vl up, vl dn] SH m (QV SH (fun m' => Fp m m' ∧ RtM m' (N + up * q) D)) := by
  refine C_of_R rfl (Nat.le_of_ble_eq_true rfl) ?_
  obtain ⟨l1, l2⟩ := low_q (up := up) hd he
  have dD : dn ≤ D := Int.le_of_dvd hD.1 ⟨q, he⟩
  have b1 := rB_pos (n := N) hD.1
  have b2 := rB_le (n := N) hD.1
  have c1 := rB_pos (n := up) hd
  have c2 := rB_le (n := up) hd
  have g1 := gcI_pos (n := up) hd
  have g2 := gcI_le (n := up) hd
  have g3 := gcI_pos (n := rB N D) c1
  have g4 := gcI_le (n := rB N D) c1
  obtain ⟨f1, f2, f3, f4⟩ := add_pure (N := N) (aT := rT up dn) hD.1 c1 l1 rfl rfl 9223372036854775807 (by rw [l2]; exact hk)
  rw [l2] at f4
  have g5 := gcI_pos (n := rT N D * (rB up dn / gcI (rB N D) (rB up dn)) + rT up dn * (rB N D / gcI (rB N D) (rB up dn))) f1
  have g6 := gcI_le (n := rT N D * (rB up dn / gcI (rB N D) (rB up dn)) + rT up dn * (rB N D / gcI (rB N D) (rB up dn))) f1
  refine R_lload_n 1 rfl dX11_plus_0 rfl ?_
  refine R_lload_n 2 rfl dX11_plus_1 rfl ?_
  refine R_callS_l (M' := mX11_common) 5 rfl dX11_plus_2 ml_X11_253 kmX11_common st_X11_common (c_X11_common _ _ hu ⟨by omega, by omega⟩) rfl rfl ⟨Nat.le_of_ble_eq_true rfl, Nat.le_of_ble_eq_true rfl⟩ (Nat.le_of_ble_eq_true rfl) ⟨Nat.le_of_ble_eq_true rfl, Nat.le_of_ble_eq_true rfl⟩ ?_
  refine R_lstore [_, _, _, _, _, _, _, _, _, _, _, _, _, _, _] 7 rfl dX11_plus_5 rfl (by decide) ?_
  refine R_lload_n 8 rfl dX11_plus_7 rfl ?_
  refine R_lload 10 rfl dX11_plus_8 rfl ?_
  refine R_ldiv 11 rfl dX11_plus_10 ⟨by omega, by omega⟩ ⟨by omega, by omega⟩ (by omega) ?_
  refine R_topL tdivT ?_
  refine R_lstore [_, _, _, _, _, _, _, _, _, _, _, _, _, _, _] 13 rfl dX11_plus_11 rfl (by decide) ?_
  refine R_lload_n 14 rfl dX11_plus_13 rfl ?_
  refine R_lload 16 rfl dX11_plus_14 rfl ?_
  refine R_ldiv 17 rfl dX11_plus_16 ⟨by omega, by omega⟩ ⟨by omega, by omega⟩ (by omega) ?_
  refine R_topL tdivB ?_
  refine R_lstore [_, _, _, _, _, _, _, _, _, _, _, _, _, _, _] 19 rfl dX11_plus_17 rfl (by decide) ?_
  refine R_aload_n 20 rfl dX11_plus_19 rfl ?_
  refine R_getL 29 23 rfl dX11_plus_20 rfl rfl fl_X11_291 ?_
  rw [hr.2]
  refine R_lload 25 rfl dX11_plus_23 rfl ?_
  refine R_callS_l (M' := mX11_common) 28 rfl dX11_plus_25 ml_X11_253 kmX11_common st_X11_common (c_X11_common _ _ ⟨by omega, by omega⟩ ⟨by omega, by omega⟩) rfl rfl ⟨Nat.le_of_ble_eq_true rfl, Nat.le_of_ble_eq_true rfl⟩ (Nat.le_of_ble_eq_true rfl) ⟨Nat.le_of_ble_eq_true rfl, Nat.le_of_ble_eq_true rfl⟩ ?_
  refine R_lstore [_, _, _, _, _, _, _, _, _, _, _, _, _, _, _] 30 rfl dX11_plus_28 rfl (by decide) ?_
  refine R_aload_n 31 rfl dX11_plus_30 rfl ?_
  refine R_aload_n 32 rfl dX11_plus_31 rfl ?_
  refine R_getL 28 35 rfl dX11_plus_32 rfl rfl fl_X11_287 ?_
  rw [hr.1]
  refine R_lload 37 rfl dX11_plus_35 rfl ?_
  refine R_lload 39 rfl dX11_plus_37 rfl ?_
  refine R_ldiv 40 rfl dX11_plus_39 ⟨by omega, by omega⟩ ⟨by omega, by omega⟩ (by omega) ?_
  refine R_topL tdivr ?_
  refine R_lmul 41 rfl dX11_plus_40 ?_
  refine R_lload 43 rfl dX11_plus_41 rfl ?_
  refine R_aload_n 44 rfl dX11_plus_43 rfl ?_
  refine R_getL 29 47 rfl dX11_plus_44 rfl rfl fl_X11_291 ?_
  rw [hr.2]
  refine R_lload 49 rfl dX11_plus_47 rfl ?_
  refine R_ldiv 50 rfl dX11_plus_49 ⟨by omega, by omega⟩ ⟨by omega, by omega⟩ (by omega) ?_
  refine R_topL tdivl ?_
  refine R_lmul 51 rfl dX11_plus_50 ?_
  refine R_ladd 52 rfl dX11_plus_51 ?_
  refine R_putL 28 55 rfl dX11_plus_52 rfl rfl fl_X11_287 ?_
  refine R_aload_n 56 rfl dX11_plus_55 rfl ?_
  refine R_aload_n 57 rfl dX11_plus_56 rfl ?_
  refine R_getL 29 60 rfl dX11_plus_57 rfl rfl fl_X11_291 ?_
  refine R_topL (b := rB N D) (by simp only [setI]; rw [if_neg (by omega)]; exact hr.2) ?_
  refine R_lload 62 rfl dX11_plus_60 rfl ?_
  refine R_ldiv 63 rfl dX11_plus_62 ⟨by omega, by omega⟩ ⟨by omega, by omega⟩ (by omega) ?_
  refine R_topL tdivl ?_
  refine R_lload 65 rfl dX11_plus_63 rfl ?_
  refine R_lmul 66 rfl dX11_plus_65 ?_
  refine R_putL 29 69 rfl dX11_plus_66 rfl rfl fl_X11_291 ?_
  refine R_aload_n 70 rfl dX11_plus_69 rfl ?_
  refine R_getL 28 73 rfl dX11_plus_70 rfl rfl fl_X11_287 ?_
  refine R_topL (b := rT N D * (rB up dn / gcI (rB N D) (rB up dn)) + rT up dn * (rB N D / gcI (rB N D) (rB up dn))) (by simp [setI]) ?_
  refine R_aload_n 74 rfl dX11_plus_73 rfl ?_
  refine R_getL 29 77 rfl dX11_plus_74 rfl rfl fl_X11_291 ?_
  refine R_topL (b := rB N D / gcI (rB N D) (rB up dn) * rB up dn) (by simp [setI]) ?_
  refine R_callS_l (M' := mX11_common) 80 rfl dX11_plus_77 ml_X11_253 kmX11_common st_X11_common (c_X11_common _ _ ⟨by omega, by omega⟩ ⟨by omega, by omega⟩) rfl rfl ⟨Nat.le_of_ble_eq_true rfl, Nat.le_of_ble_eq_true rfl⟩ (Nat.le_of_ble_eq_true rfl) ⟨Nat.le_of_ble_eq_true rfl, Nat.le_of_ble_eq_true rfl⟩ ?_
  refine R_lstore [_, _, _, _, _, _, _, _, _, _, _, _, _, _, _] 82 rfl dX11_plus_80 rfl (by decide) ?_
  refine R_aload_n 83 rfl dX11_plus_82 rfl ?_
  refine R_dup 84 rfl dX11_plus_83 rfl ?_
  refine R_getL 28 87 rfl dX11_plus_84 rfl rfl fl_X11_287 ?_
  refine R_topL (b := rT N D * (rB up dn / gcI (rB N D) (rB up dn)) + rT up dn * (rB N D / gcI (rB N D) (rB up dn))) (by simp [setI]) ?_
  refine R_lload 89 rfl dX11_plus_87 rfl ?_
  refine R_ldiv 90 rfl dX11_plus_89 ⟨by omega, by omega⟩ ⟨by omega, by omega⟩ (by omega) ?_
  refine R_topL tdivT ?_
  refine R_putL 28 93 rfl dX11_plus_90 rfl rfl fl_X11_287 ?_
  refine R_aload_n 94 rfl dX11_plus_93 rfl ?_
  refine R_dup 95 rfl dX11_plus_94 rfl ?_
  refine R_getL 29 98 rfl dX11_plus_95 rfl rfl fl_X11_291 ?_
  refine R_topL (b := rB N D / gcI (rB N D) (rB up dn) * rB up dn) (by simp [setI]) ?_
  refine R_lload 100 rfl dX11_plus_98 rfl ?_
  refine R_ldiv 101 rfl dX11_plus_100 ⟨by omega, by omega⟩ ⟨by omega, by omega⟩ (by omega) ?_
  refine R_topL tdivB ?_
  refine R_putL 29 104 rfl dX11_plus_101 rfl rfl fl_X11_291 ?_
  refine R_return dX11_plus_104 rfl ?_
  exact QV_mk ⟨Fp.rf.s28.s29.s28.s29, by rw [RtM, ← f4.1, ← f4.2]; simp [setI]⟩
end
