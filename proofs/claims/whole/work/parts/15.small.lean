theorem c_X10_within {Γ : GX} {S : Shp} {m : Mem} (v lo hi : Int) (hv : rg v) (hl : rg lo) (hh : rg hi) : C Γ mX10_within 0 0 0 0 [vi v, vi lo, vi hi] S m (Qi S m (pI (lo ≤ v ∧ v ≤ hi))) := by
  refine C_of_R rfl (Nat.le_of_ble_eq_true rfl) ?_
  refine R_iload_n 1 rfl dX10_within_0 rfl ?_
  refine R_iload_n 2 rfl dX10_within_1 rfl ?_
  refine R_icmp_lt 5 14 rfl rfl dX10_within_2 (by first | assumption | exact ⟨by omega, by omega⟩) (by first | assumption | exact ⟨by omega, by omega⟩) (fun h2 => ?_) (fun h2 => ?_)
  · refine R_iconst 15 rfl dX10_within_14 ?_
    refine R_zreturn dX10_within_15 rfl (by first | decide | exact pI_01 _) ?_
    exact Qi_mk (by first | rfl | exact pI_1 (by omega) | exact pI_0 (by omega) | omega)
  · refine R_iload_n 6 rfl dX10_within_5 rfl ?_
    refine R_iload_n 7 rfl dX10_within_6 rfl ?_
    refine R_icmp_gt 10 14 rfl rfl dX10_within_7 (by first | assumption | exact ⟨by omega, by omega⟩) (by first | assumption | exact ⟨by omega, by omega⟩) (fun h7 => ?_) (fun h7 => ?_)
    · refine R_iconst 15 rfl dX10_within_14 ?_
      refine R_zreturn dX10_within_15 rfl (by first | decide | exact pI_01 _) ?_
      exact Qi_mk (by first | rfl | exact pI_1 (by omega) | exact pI_0 (by omega) | omega)
    · refine R_iconst 11 rfl dX10_within_10 ?_
      refine R_goto 15 rfl dX10_within_11 ?_
      refine R_zreturn dX10_within_15 rfl (by first | decide | exact pI_01 _) ?_
      exact Qi_mk (by first | rfl | exact pI_1 (by omega) | exact pI_0 (by omega) | omega)
theorem tb_2 (a : Int) : a % 2 = 0 ∨ a % 2 = 1 := by omega
theorem c_X10_hasBit {Γ : GX} {S : Shp} {m : Mem} (b i : Int) (k : Nat) (hb : rg b) (hi : i = (k : Int)) (hk : k < 32) : C Γ mX10_hasBit 0 0 0 0 [vi b, vi i] S m (Qi S m (pI (b / 2 ^ k % 2 = 1))) := by
  refine C_of_R rfl (Nat.le_of_ble_eq_true rfl) ?_
  subst hi
  have h2 := tb_2 (b / 2 ^ k)
  refine R_iload_n 1 rfl dX10_hasBit_0 rfl ?_
  refine R_iload_n 2 rfl dX10_hasBit_1 rfl ?_
  refine R_ishr 3 rfl dX10_hasBit_2 (by first | assumption | exact ⟨by omega, by omega⟩) (by omega) (by omega) ?_
  rw [Int.toNat_natCast]
  refine R_iconst 4 rfl dX10_hasBit_3 ?_
  refine R_iand1 5 rfl dX10_hasBit_4 ?_
  refine R_if_eq 8 12 rfl rfl dX10_hasBit_5 (by first | assumption | exact ⟨by omega, by omega⟩) (fun h5 => ?_) (fun h5 => ?_)
  · refine R_iconst 13 rfl dX10_hasBit_12 ?_
    refine R_zreturn dX10_hasBit_13 rfl (by first | decide | exact pI_01 _) ?_
    exact Qi_mk (by first | rfl | exact pI_1 (by omega) | exact pI_0 (by omega) | omega)
  · refine R_iconst 9 rfl dX10_hasBit_8 ?_
    refine R_goto 13 rfl dX10_hasBit_9 ?_
    refine R_zreturn dX10_hasBit_13 rfl (by first | decide | exact pI_01 _) ?_
    exact Qi_mk (by first | rfl | exact pI_1 (by omega) | exact pI_0 (by omega) | omega)
theorem c_X11_in {Γ : GX} {S : Shp} {m : Mem} (v lo hi : Int) (hv : rgL v) (hl : rgL lo) (hh : rgL hi) : C Γ mX11_in 0 0 0 0 [vl v, vl lo, vl hi] S m (Qi S m (pI (lo ≤ v ∧ v ≤ hi))) := by
  refine C_of_R rfl (Nat.le_of_ble_eq_true rfl) ?_
  refine R_lload_n 1 rfl dX11_in_0 rfl ?_
  refine R_lload_n 2 rfl dX11_in_1 rfl ?_
  refine R_lif_lt 3 6 17 rfl rfl rfl dX11_in_2 dX11_in_3 (by first | assumption | exact ⟨by omega, by omega⟩ | exact rg_L (by assumption)) (by first | assumption | exact ⟨by omega, by omega⟩ | exact rg_L (by assumption)) (fun h3 => ?_) (fun h3 => ?_)
  · refine R_iconst 18 rfl dX11_in_17 ?_
    refine R_zreturn dX11_in_18 rfl (by first | decide | exact pI_01 _) ?_
    exact Qi_mk (by first | rfl | exact pI_1 (by omega) | exact pI_0 (by omega) | omega)
  · refine R_lload_n 7 rfl dX11_in_6 rfl ?_
    refine R_lload 9 rfl dX11_in_7 rfl ?_
    refine R_lif_gt 10 13 17 rfl rfl rfl dX11_in_9 dX11_in_10 (by first | assumption | exact ⟨by omega, by omega⟩ | exact rg_L (by assumption)) (by first | assumption | exact ⟨by omega, by omega⟩ | exact rg_L (by assumption)) (fun h10 => ?_) (fun h10 => ?_)
    · refine R_iconst 18 rfl dX11_in_17 ?_
      refine R_zreturn dX11_in_18 rfl (by first | decide | exact pI_01 _) ?_
      exact Qi_mk (by first | rfl | exact pI_1 (by omega) | exact pI_0 (by omega) | omega)
    · refine R_iconst 14 rfl dX11_in_13 ?_
      refine R_goto 18 rfl dX11_in_14 ?_
      refine R_zreturn dX11_in_18 rfl (by first | decide | exact pI_01 _) ?_
      exact Qi_mk (by first | rfl | exact pI_1 (by omega) | exact pI_0 (by omega) | omega)
theorem c_X10_isChoice {Γ : GX} {S : Shp} {m : Mem} (v : Int) (hv : rg v) : C Γ mX10_isChoice 1 30 0 0 [vi v] S m (Qi S m (pI (0 ≤ v ∧ v ≤ 1))) := by
  refine C_of_R rfl (Nat.le_of_ble_eq_true rfl) ?_
  refine R_iload_n 1 rfl dX10_isChoice_0 rfl ?_
  refine R_iconst 2 rfl dX10_isChoice_1 ?_
  refine R_iconst 3 rfl dX10_isChoice_2 ?_
  refine R_callS_i (M' := mX10_within) 6 rfl dX10_isChoice_3 ml_X10_108 kmX10_within st_X10_within (c_X10_within _ _ _ (by first | assumption | exact ⟨by omega, by omega⟩) (by first | assumption | exact ⟨by omega, by omega⟩) (by first | assumption | exact ⟨by omega, by omega⟩)) rfl rfl ⟨Nat.le_of_ble_eq_true rfl, Nat.le_of_ble_eq_true rfl⟩ (Nat.le_of_ble_eq_true rfl) ⟨Nat.le_of_ble_eq_true rfl, Nat.le_of_ble_eq_true rfl⟩ ?_
  refine R_zreturn dX10_isChoice_6 rfl (by first | decide | exact pI_01 _) ?_
  exact Qi_mk (by first | rfl | exact pI_1 (by omega) | exact pI_0 (by omega) | omega)
