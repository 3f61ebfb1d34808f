def bkCpa (m : Mem) (n : Nat) : Mem := cpyB (setI m 30 0 (n : Int)) 0 0 n 0 0 (2 * n) 51 52 53 55 56 57 58 59 32 33 34 36 37 38 39 40
theorem bkCpa_ok {m : Mem} {B : Bk} (h : BkC 49 51 52 53 55 56 57 58 59 m B) : BkC 30 32 33 34 36 37 38 39 40 (bkCpa m B.1) B := by
  refine ⟨by simp [bkCpa, cpyB, cpyI, setI], fun k hk => ?_, fun k hk => ?_⟩
  · have h1 := h.2.1 k hk
    simp [bkCpa, cpyB, cpyI, setI, hk]; exact h1
  · have h1 := h.2.2 k hk
    simp [bkCpa, cpyB, cpyI, setI, hk]; exact h1
theorem bkCpa_fr (m : Mem) (n : Nat) : Fr (fun o => decide (30 ≤ o ∧ o ≤ 30 + 10)) m (bkCpa m n) := by
  unfold bkCpa cpyB
  refine Fr.cpy (Fr.cpy (Fr.cpy (Fr.cpy (Fr.cpy (Fr.cpy (Fr.cpy (Fr.cpy (Fr.set Fr.rf ?_) ?_) ?_) ?_) ?_) ?_) ?_) ?_) ?_ <;> rfl
theorem c_X0_copya {Γ : GX} {m : Mem} {B : Bk} {o d : Nat} (hPO : PO o d m) (hB : BkC 49 51 52 53 55 56 57 58 59 m B) (hn : B.1 ≤ 40) : C Γ mX0_copy 1 60 0 0 [vr 30, vr 49] SH m (Qv SH (bkCpa m B.1)) := by
  refine C_of_R rfl (Nat.le_of_ble_eq_true rfl) ?_
  have h0 := hB.1
  have hP := hPO.2
  refine R_aload_n 1 rfl dX0_copy_0 rfl ?_
  refine R_aload_n 2 rfl dX0_copy_1 rfl ?_
  refine R_getI 0 5 rfl dX0_copy_2 rfl rfl fl_X0_9 ?_
  rw [h0]
  refine R_putI 0 8 rfl dX0_copy_5 rfl rfl fl_X0_9 ?_
  refine R_iconst 9 rfl dX0_copy_8 ?_
  refine R_istore_n [_, _, _] 10 rfl dX0_copy_9 rfl (by decide) ?_
  refine R_iload_n 11 rfl dX0_copy_10 rfl ?_
  refine R_aload_n 12 rfl dX0_copy_11 rfl ?_
  refine R_getP 1 15 rfl dX0_copy_12 rfl rfl fl_X0_17 (hP _ _ _ rfl) ?_
  refine R_alen 16 rfl dX0_copy_15 rfl rfl ?_
  refine R_icmp_ge 19 46 rfl rfl dX0_copy_16 (by first | assumption | exact ⟨by omega, by omega⟩) (by first | assumption | exact ⟨by omega, by omega⟩) (fun h16 => ?_) (fun h16 => ?_)
  · exact absurd h16 (by omega)
  refine R_aload_n 20 rfl dX0_copy_19 rfl ?_
  refine R_getP 1 23 rfl dX0_copy_20 rfl rfl fl_X0_17 (hP _ _ _ rfl) ?_
  refine R_iload_n 24 rfl dX0_copy_23 rfl ?_
  refine R_aald 0 25 rfl dX0_copy_24 rfl rfl (by first | rfl | omega) (by decide) (by decide) (hP _ _ _ rfl) ?_
  refine R_iconst 26 rfl dX0_copy_25 ?_
  refine R_aload_n 27 rfl dX0_copy_26 rfl ?_
  refine R_getP 1 30 rfl dX0_copy_27 rfl rfl fl_X0_17 (hP _ _ _ rfl) ?_
  refine R_iload_n 31 rfl dX0_copy_30 rfl ?_
  refine R_aald 0 32 rfl dX0_copy_31 rfl rfl (by first | rfl | omega) (by decide) (by decide) (hP _ _ _ rfl) ?_
  refine R_iconst 33 rfl dX0_copy_32 ?_
  refine R_aload_n 34 rfl dX0_copy_33 rfl ?_
  refine R_getI 0 37 rfl dX0_copy_34 rfl rfl fl_X0_9 ?_
  refine R_acopy 0 0 B.1 40 rfl dX0_copy_37 ml_X0_27 rfl rfl (by first | rfl | (simp [cpyI, setI])) (by first | rfl | (simp [cpyI, setI])) (by first | rfl | (simp [cpyI, setI])) (by omega) (by omega) (by decide) (Nat.le_of_ble_eq_true rfl) ⟨Nat.le_of_ble_eq_true rfl, Nat.le_of_ble_eq_true rfl⟩ ?_
  refine R_iinc [_, _, _] 43 rfl dX0_copy_40 rfl rfl (by decide) ?_
  refine R_goto 10 rfl dX0_copy_43 ?_
  refine R_iload_n 11 rfl dX0_copy_10 rfl ?_
  refine R_aload_n 12 rfl dX0_copy_11 rfl ?_
  refine R_getP 1 15 rfl dX0_copy_12 rfl rfl fl_X0_17 (hP _ _ _ rfl) ?_
  refine R_alen 16 rfl dX0_copy_15 rfl rfl ?_
  refine R_icmp_ge 19 46 rfl rfl dX0_copy_16 (by first | assumption | exact ⟨by omega, by omega⟩) (by first | assumption | exact ⟨by omega, by omega⟩) (fun h16 => ?_) (fun h16 => ?_)
  · exact absurd h16 (by omega)
  refine R_aload_n 20 rfl dX0_copy_19 rfl ?_
  refine R_getP 1 23 rfl dX0_copy_20 rfl rfl fl_X0_17 (hP _ _ _ rfl) ?_
  refine R_iload_n 24 rfl dX0_copy_23 rfl ?_
  refine R_aald 1 25 rfl dX0_copy_24 rfl rfl (by first | rfl | omega) (by decide) (by decide) (hP _ _ _ rfl) ?_
  refine R_iconst 26 rfl dX0_copy_25 ?_
  refine R_aload_n 27 rfl dX0_copy_26 rfl ?_
  refine R_getP 1 30 rfl dX0_copy_27 rfl rfl fl_X0_17 (hP _ _ _ rfl) ?_
  refine R_iload_n 31 rfl dX0_copy_30 rfl ?_
  refine R_aald 1 32 rfl dX0_copy_31 rfl rfl (by first | rfl | omega) (by decide) (by decide) (hP _ _ _ rfl) ?_
  refine R_iconst 33 rfl dX0_copy_32 ?_
  refine R_aload_n 34 rfl dX0_copy_33 rfl ?_
  refine R_getI 0 37 rfl dX0_copy_34 rfl rfl fl_X0_9 ?_
  refine R_acopy 0 0 B.1 40 rfl dX0_copy_37 ml_X0_27 rfl rfl (by first | rfl | (simp [cpyI, setI])) (by first | rfl | (simp [cpyI, setI])) (by first | rfl | (simp [cpyI, setI])) (by omega) (by omega) (by decide) (Nat.le_of_ble_eq_true rfl) ⟨Nat.le_of_ble_eq_true rfl, Nat.le_of_ble_eq_true rfl⟩ ?_
  refine R_iinc [_, _, _] 43 rfl dX0_copy_40 rfl rfl (by decide) ?_
  refine R_goto 10 rfl dX0_copy_43 ?_
  refine R_iload_n 11 rfl dX0_copy_10 rfl ?_
  refine R_aload_n 12 rfl dX0_copy_11 rfl ?_
  refine R_getP 1 15 rfl dX0_copy_12 rfl rfl fl_X0_17 (hP _ _ _ rfl) ?_
  refine R_alen 16 rfl dX0_copy_15 rfl rfl ?_
  refine R_icmp_ge 19 46 rfl rfl dX0_copy_16 (by first | assumption | exact ⟨by omega, by omega⟩) (by first | assumption | exact ⟨by omega, by omega⟩) (fun h16 => ?_) (fun h16 => ?_)
  · exact absurd h16 (by omega)
  refine R_aload_n 20 rfl dX0_copy_19 rfl ?_
  refine R_getP 1 23 rfl dX0_copy_20 rfl rfl fl_X0_17 (hP _ _ _ rfl) ?_
  refine R_iload_n 24 rfl dX0_copy_23 rfl ?_
  refine R_aald 2 25 rfl dX0_copy_24 rfl rfl (by first | rfl | omega) (by decide) (by decide) (hP _ _ _ rfl) ?_
  refine R_iconst 26 rfl dX0_copy_25 ?_
  refine R_aload_n 27 rfl dX0_copy_26 rfl ?_
  refine R_getP 1 30 rfl dX0_copy_27 rfl rfl fl_X0_17 (hP _ _ _ rfl) ?_
  refine R_iload_n 31 rfl dX0_copy_30 rfl ?_
  refine R_aald 2 32 rfl dX0_copy_31 rfl rfl (by first | rfl | omega) (by decide) (by decide) (hP _ _ _ rfl) ?_
  refine R_iconst 33 rfl dX0_copy_32 ?_
  refine R_aload_n 34 rfl dX0_copy_33 rfl ?_
  refine R_getI 0 37 rfl dX0_copy_34 rfl rfl fl_X0_9 ?_
  refine R_acopy 0 0 B.1 40 rfl dX0_copy_37 ml_X0_27 rfl rfl (by first | rfl | (simp [cpyI, setI])) (by first | rfl | (simp [cpyI, setI])) (by first | rfl | (simp [cpyI, setI])) (by omega) (by omega) (by decide) (Nat.le_of_ble_eq_true rfl) ⟨Nat.le_of_ble_eq_true rfl, Nat.le_of_ble_eq_true rfl⟩ ?_
  refine R_iinc [_, _, _] 43 rfl dX0_copy_40 rfl rfl (by decide) ?_
  refine R_goto 10 rfl dX0_copy_43 ?_
  refine R_iload_n 11 rfl dX0_copy_10 rfl ?_
  refine R_aload_n 12 rfl dX0_copy_11 rfl ?_
  refine R_getP 1 15 rfl dX0_copy_12 rfl rfl fl_X0_17 (hP _ _ _ rfl) ?_
  refine R_alen 16 rfl dX0_copy_15 rfl rfl ?_
  refine R_icmp_ge 19 46 rfl rfl dX0_copy_16 (by first | assumption | exact ⟨by omega, by omega⟩) (by first | assumption | exact ⟨by omega, by omega⟩) (fun h16 => ?_) (fun h16 => ?_)
  rotate_left
  · exact absurd h16 (by omega)
  refine R_iconst 47 rfl dX0_copy_46 ?_
  refine R_istore_n [_, _, _] 48 rfl dX0_copy_47 rfl (by decide) ?_
  refine R_iload_n 49 rfl dX0_copy_48 rfl ?_
  refine R_aload_n 50 rfl dX0_copy_49 rfl ?_
  refine R_getP 2 53 rfl dX0_copy_50 rfl rfl fl_X0_20 (hP _ _ _ rfl) ?_
  refine R_alen 54 rfl dX0_copy_53 rfl rfl ?_
  refine R_icmp_ge 57 86 rfl rfl dX0_copy_54 (by first | assumption | exact ⟨by omega, by omega⟩) (by first | assumption | exact ⟨by omega, by omega⟩) (fun h54 => ?_) (fun h54 => ?_)
  · exact absurd h54 (by omega)
  refine R_aload_n 58 rfl dX0_copy_57 rfl ?_
  refine R_getP 2 61 rfl dX0_copy_58 rfl rfl fl_X0_20 (hP _ _ _ rfl) ?_
  refine R_iload_n 62 rfl dX0_copy_61 rfl ?_
  refine R_aald 0 63 rfl dX0_copy_62 rfl rfl (by first | rfl | omega) (by decide) (by decide) (hP _ _ _ rfl) ?_
  refine R_iconst 64 rfl dX0_copy_63 ?_
  refine R_aload_n 65 rfl dX0_copy_64 rfl ?_
  refine R_getP 2 68 rfl dX0_copy_65 rfl rfl fl_X0_20 (hP _ _ _ rfl) ?_
  refine R_iload_n 69 rfl dX0_copy_68 rfl ?_
  refine R_aald 0 70 rfl dX0_copy_69 rfl rfl (by first | rfl | omega) (by decide) (by decide) (hP _ _ _ rfl) ?_
  refine R_iconst 71 rfl dX0_copy_70 ?_
  refine R_iconst 72 rfl dX0_copy_71 ?_
  refine R_aload_n 73 rfl dX0_copy_72 rfl ?_
  refine R_getI 0 76 rfl dX0_copy_73 rfl rfl fl_X0_9 ?_
  refine R_imul 77 rfl dX0_copy_76 ?_
  refine R_acopy 0 0 (2 * B.1) 80 rfl dX0_copy_77 ml_X0_27 rfl rfl (by first | rfl | (simp [cpyI, setI])) (by first | rfl | (simp [cpyI, setI])) (by first | rfl | (simp [cpyI, setI])) (by omega) (by omega) (by decide) (Nat.le_of_ble_eq_true rfl) ⟨Nat.le_of_ble_eq_true rfl, Nat.le_of_ble_eq_true rfl⟩ ?_
  refine R_iinc [_, _, _] 83 rfl dX0_copy_80 rfl rfl (by decide) ?_
  refine R_goto 48 rfl dX0_copy_83 ?_
  refine R_iload_n 49 rfl dX0_copy_48 rfl ?_
  refine R_aload_n 50 rfl dX0_copy_49 rfl ?_
  refine R_getP 2 53 rfl dX0_copy_50 rfl rfl fl_X0_20 (hP _ _ _ rfl) ?_
  refine R_alen 54 rfl dX0_copy_53 rfl rfl ?_
  refine R_icmp_ge 57 86 rfl rfl dX0_copy_54 (by first | assumption | exact ⟨by omega, by omega⟩) (by first | assumption | exact ⟨by omega, by omega⟩) (fun h54 => ?_) (fun h54 => ?_)
  · exact absurd h54 (by omega)
  refine R_aload_n 58 rfl dX0_copy_57 rfl ?_
  refine R_getP 2 61 rfl dX0_copy_58 rfl rfl fl_X0_20 (hP _ _ _ rfl) ?_
  refine R_iload_n 62 rfl dX0_copy_61 rfl ?_
  refine R_aald 1 63 rfl dX0_copy_62 rfl rfl (by first | rfl | omega) (by decide) (by decide) (hP _ _ _ rfl) ?_
  refine R_iconst 64 rfl dX0_copy_63 ?_
  refine R_aload_n 65 rfl dX0_copy_64 rfl ?_
  refine R_getP 2 68 rfl dX0_copy_65 rfl rfl fl_X0_20 (hP _ _ _ rfl) ?_
  refine R_iload_n 69 rfl dX0_copy_68 rfl ?_
  refine R_aald 1 70 rfl dX0_copy_69 rfl rfl (by first | rfl | omega) (by decide) (by decide) (hP _ _ _ rfl) ?_
  refine R_iconst 71 rfl dX0_copy_70 ?_
  refine R_iconst 72 rfl dX0_copy_71 ?_
  refine R_aload_n 73 rfl dX0_copy_72 rfl ?_
  refine R_getI 0 76 rfl dX0_copy_73 rfl rfl fl_X0_9 ?_
  refine R_imul 77 rfl dX0_copy_76 ?_
  refine R_acopy 0 0 (2 * B.1) 80 rfl dX0_copy_77 ml_X0_27 rfl rfl (by first | rfl | (simp [cpyI, setI])) (by first | rfl | (simp [cpyI, setI])) (by first | rfl | (simp [cpyI, setI])) (by omega) (by omega) (by decide) (Nat.le_of_ble_eq_true rfl) ⟨Nat.le_of_ble_eq_true rfl, Nat.le_of_ble_eq_true rfl⟩ ?_
  refine R_iinc [_, _, _] 83 rfl dX0_copy_80 rfl rfl (by decide) ?_
  refine R_goto 48 rfl dX0_copy_83 ?_
  refine R_iload_n 49 rfl dX0_copy_48 rfl ?_
  refine R_aload_n 50 rfl dX0_copy_49 rfl ?_
  refine R_getP 2 53 rfl dX0_copy_50 rfl rfl fl_X0_20 (hP _ _ _ rfl) ?_
  refine R_alen 54 rfl dX0_copy_53 rfl rfl ?_
  refine R_icmp_ge 57 86 rfl rfl dX0_copy_54 (by first | assumption | exact ⟨by omega, by omega⟩) (by first | assumption | exact ⟨by omega, by omega⟩) (fun h54 => ?_) (fun h54 => ?_)
  · exact absurd h54 (by omega)
  refine R_aload_n 58 rfl dX0_copy_57 rfl ?_
  refine R_getP 2 61 rfl dX0_copy_58 rfl rfl fl_X0_20 (hP _ _ _ rfl) ?_
  refine R_iload_n 62 rfl dX0_copy_61 rfl ?_
  refine R_aald 2 63 rfl dX0_copy_62 rfl rfl (by first | rfl | omega) (by decide) (by decide) (hP _ _ _ rfl) ?_
  refine R_iconst 64 rfl dX0_copy_63 ?_
  refine R_aload_n 65 rfl dX0_copy_64 rfl ?_
  refine R_getP 2 68 rfl dX0_copy_65 rfl rfl fl_X0_20 (hP _ _ _ rfl) ?_
  refine R_iload_n 69 rfl dX0_copy_68 rfl ?_
  refine R_aald 2 70 rfl dX0_copy_69 rfl rfl (by first | rfl | omega) (by decide) (by decide) (hP _ _ _ rfl) ?_
  refine R_iconst 71 rfl dX0_copy_70 ?_
  refine R_iconst 72 rfl dX0_copy_71 ?_
  refine R_aload_n 73 rfl dX0_copy_72 rfl ?_
  refine R_getI 0 76 rfl dX0_copy_73 rfl rfl fl_X0_9 ?_
  refine R_imul 77 rfl dX0_copy_76 ?_
  refine R_acopy 0 0 (2 * B.1) 80 rfl dX0_copy_77 ml_X0_27 rfl rfl (by first | rfl | (simp [cpyI, setI])) (by first | rfl | (simp [cpyI, setI])) (by first | rfl | (simp [cpyI, setI])) (by omega) (by omega) (by decide) (Nat.le_of_ble_eq_true rfl) ⟨Nat.le_of_ble_eq_true rfl, Nat.le_of_ble_eq_true rfl⟩ ?_
  refine R_iinc [_, _, _] 83 rfl dX0_copy_80 rfl rfl (by decide) ?_
  refine R_goto 48 rfl dX0_copy_83 ?_
  refine R_iload_n 49 rfl dX0_copy_48 rfl ?_
  refine R_aload_n 50 rfl dX0_copy_49 rfl ?_
  refine R_getP 2 53 rfl dX0_copy_50 rfl rfl fl_X0_20 (hP _ _ _ rfl) ?_
  refine R_alen 54 rfl dX0_copy_53 rfl rfl ?_
  refine R_icmp_ge 57 86 rfl rfl dX0_copy_54 (by first | assumption | exact ⟨by omega, by omega⟩) (by first | assumption | exact ⟨by omega, by omega⟩) (fun h54 => ?_) (fun h54 => ?_)
  · exact absurd h54 (by omega)
  refine R_aload_n 58 rfl dX0_copy_57 rfl ?_
  refine R_getP 2 61 rfl dX0_copy_58 rfl rfl fl_X0_20 (hP _ _ _ rfl) ?_
  refine R_iload_n 62 rfl dX0_copy_61 rfl ?_
  refine R_aald 3 63 rfl dX0_copy_62 rfl rfl (by first | rfl | omega) (by decide) (by decide) (hP _ _ _ rfl) ?_
  refine R_iconst 64 rfl dX0_copy_63 ?_
  refine R_aload_n 65 rfl dX0_copy_64 rfl ?_
  refine R_getP 2 68 rfl dX0_copy_65 rfl rfl fl_X0_20 (hP _ _ _ rfl) ?_
  refine R_iload_n 69 rfl dX0_copy_68 rfl ?_
  refine R_aald 3 70 rfl dX0_copy_69 rfl rfl (by first | rfl | omega) (by decide) (by decide) (hP _ _ _ rfl) ?_
  refine R_iconst 71 rfl dX0_copy_70 ?_
  refine R_iconst 72 rfl dX0_copy_71 ?_
  refine R_aload_n 73 rfl dX0_copy_72 rfl ?_
  refine R_getI 0 76 rfl dX0_copy_73 rfl rfl fl_X0_9 ?_
  refine R_imul 77 rfl dX0_copy_76 ?_
  refine R_acopy 0 0 (2 * B.1) 80 rfl dX0_copy_77 ml_X0_27 rfl rfl (by first | rfl | (simp [cpyI, setI])) (by first | rfl | (simp [cpyI, setI])) (by first | rfl | (simp [cpyI, setI])) (by omega) (by omega) (by decide) (Nat.le_of_ble_eq_true rfl) ⟨Nat.le_of_ble_eq_true rfl, Nat.le_of_ble_eq_true rfl⟩ ?_
  refine R_iinc [_, _, _] 83 rfl dX0_copy_80 rfl rfl (by decide) ?_
  refine R_goto 48 rfl dX0_copy_83 ?_
  refine R_iload_n 49 rfl dX0_copy_48 rfl ?_
  refine R_aload_n 50 rfl dX0_copy_49 rfl ?_
  refine R_getP 2 53 rfl dX0_copy_50 rfl rfl fl_X0_20 (hP _ _ _ rfl) ?_
  refine R_alen 54 rfl dX0_copy_53 rfl rfl ?_
  refine R_icmp_ge 57 86 rfl rfl dX0_copy_54 (by first | assumption | exact ⟨by omega, by omega⟩) (by first | assumption | exact ⟨by omega, by omega⟩) (fun h54 => ?_) (fun h54 => ?_)
  · exact absurd h54 (by omega)
  refine R_aload_n 58 rfl dX0_copy_57 rfl ?_
  refine R_getP 2 61 rfl dX0_copy_58 rfl rfl fl_X0_20 (hP _ _ _ rfl) ?_
  refine R_iload_n 62 rfl dX0_copy_61 rfl ?_
  refine R_aald 4 63 rfl dX0_copy_62 rfl rfl (by first | rfl | omega) (by decide) (by decide) (hP _ _ _ rfl) ?_
  refine R_iconst 64 rfl dX0_copy_63 ?_
  refine R_aload_n 65 rfl dX0_copy_64 rfl ?_
  refine R_getP 2 68 rfl dX0_copy_65 rfl rfl fl_X0_20 (hP _ _ _ rfl) ?_
  refine R_iload_n 69 rfl dX0_copy_68 rfl ?_
  refine R_aald 4 70 rfl dX0_copy_69 rfl rfl (by first | rfl | omega) (by decide) (by decide) (hP _ _ _ rfl) ?_
  refine R_iconst 71 rfl dX0_copy_70 ?_
  refine R_iconst 72 rfl dX0_copy_71 ?_
  refine R_aload_n 73 rfl dX0_copy_72 rfl ?_
  refine R_getI 0 76 rfl dX0_copy_73 rfl rfl fl_X0_9 ?_
  refine R_imul 77 rfl dX0_copy_76 ?_
  refine R_acopy 0 0 (2 * B.1) 80 rfl dX0_copy_77 ml_X0_27 rfl rfl (by first | rfl | (simp [cpyI, setI])) (by first | rfl | (simp [cpyI, setI])) (by first | rfl | (simp [cpyI, setI])) (by omega) (by omega) (by decide) (Nat.le_of_ble_eq_true rfl) ⟨Nat.le_of_ble_eq_true rfl, Nat.le_of_ble_eq_true rfl⟩ ?_
  refine R_iinc [_, _, _] 83 rfl dX0_copy_80 rfl rfl (by decide) ?_
  refine R_goto 48 rfl dX0_copy_83 ?_
  refine R_iload_n 49 rfl dX0_copy_48 rfl ?_
  refine R_aload_n 50 rfl dX0_copy_49 rfl ?_
  refine R_getP 2 53 rfl dX0_copy_50 rfl rfl fl_X0_20 (hP _ _ _ rfl) ?_
  refine R_alen 54 rfl dX0_copy_53 rfl rfl ?_
  refine R_icmp_ge 57 86 rfl rfl dX0_copy_54 (by first | assumption | exact ⟨by omega, by omega⟩) (by first | assumption | exact ⟨by omega, by omega⟩) (fun h54 => ?_) (fun h54 => ?_)
  rotate_left
  · exact absurd h54 (by omega)
  refine R_return dX0_copy_86 rfl ?_
  exact Qv_mk rfl
def bkCpb (m : Mem) (n : Nat) : Mem := cpyB (setI m 30 0 (n : Int)) 0 0 n 0 0 (2 * n) 65 66 67 69 70 71 72 73 32 33 34 36 37 38 39 40
theorem bkCpb_ok {m : Mem} {B : Bk} (h : BkC 63 65 66 67 69 70 71 72 73 m B) : BkC 30 32 33 34 36 37 38 39 40 (bkCpb m B.1) B := by
  refine ⟨by simp [bkCpb, cpyB, cpyI, setI], fun k hk => ?_, fun k hk => ?_⟩
  · have h1 := h.2.1 k hk
    simp [bkCpb, cpyB, cpyI, setI, hk]; exact h1
  · have h1 := h.2.2 k hk
    simp [bkCpb, cpyB, cpyI, setI, hk]; exact h1
theorem bkCpb_fr (m : Mem) (n : Nat) : Fr (fun o => decide (30 ≤ o ∧ o ≤ 30 + 10)) m (bkCpb m n) := by
  unfold bkCpb cpyB
  refine Fr.cpy (Fr.cpy (Fr.cpy (Fr.cpy (Fr.cpy (Fr.cpy (Fr.cpy (Fr.cpy (Fr.set Fr.rf ?_) ?_) ?_) ?_) ?_) ?_) ?_) ?_) ?_ <;> rfl
theorem c_X0_copyb {Γ : GX} {m : Mem} {B : Bk} {o d : Nat} (hPO : PO o d m) (hB : BkC 63 65 66 67 69 70 71 72 73 m B) (hn : B.1 ≤ 40) : C Γ mX0_copy 1 60 0 0 [vr 30, vr 63] SH m (Qv SH (bkCpb m B.1)) := by
  refine C_of_R rfl (Nat.le_of_ble_eq_true rfl) ?_
  have h0 := hB.1
  have hP := hPO.2
  refine R_aload_n 1 rfl dX0_copy_0 rfl ?_
  refine R_aload_n 2 rfl dX0_copy_1 rfl ?_
  refine R_getI 0 5 rfl dX0_copy_2 rfl rfl fl_X0_9 ?_
  rw [h0]
  refine R_putI 0 8 rfl dX0_copy_5 rfl rfl fl_X0_9 ?_
  refine R_iconst 9 rfl dX0_copy_8 ?_
  refine R_istore_n [_, _, _] 10 rfl dX0_copy_9 rfl (by decide) ?_
  refine R_iload_n 11 rfl dX0_copy_10 rfl ?_
  refine R_aload_n 12 rfl dX0_copy_11 rfl ?_
  refine R_getP 1 15 rfl dX0_copy_12 rfl rfl fl_X0_17 (hP _ _ _ rfl) ?_
  refine R_alen 16 rfl dX0_copy_15 rfl rfl ?_
  refine R_icmp_ge 19 46 rfl rfl dX0_copy_16 (by first | assumption | exact ⟨by omega, by omega⟩) (by first | assumption | exact ⟨by omega, by omega⟩) (fun h16 => ?_) (fun h16 => ?_)
  · exact absurd h16 (by omega)
  refine R_aload_n 20 rfl dX0_copy_19 rfl ?_
  refine R_getP 1 23 rfl dX0_copy_20 rfl rfl fl_X0_17 (hP _ _ _ rfl) ?_
  refine R_iload_n 24 rfl dX0_copy_23 rfl ?_
  refine R_aald 0 25 rfl dX0_copy_24 rfl rfl (by first | rfl | omega) (by decide) (by decide) (hP _ _ _ rfl) ?_
  refine R_iconst 26 rfl dX0_copy_25 ?_
  refine R_aload_n 27 rfl dX0_copy_26 rfl ?_
  refine R_getP 1 30 rfl dX0_copy_27 rfl rfl fl_X0_17 (hP _ _ _ rfl) ?_
  refine R_iload_n 31 rfl dX0_copy_30 rfl ?_
  refine R_aald 0 32 rfl dX0_copy_31 rfl rfl (by first | rfl | omega) (by decide) (by decide) (hP _ _ _ rfl) ?_
  refine R_iconst 33 rfl dX0_copy_32 ?_
  refine R_aload_n 34 rfl dX0_copy_33 rfl ?_
  refine R_getI 0 37 rfl dX0_copy_34 rfl rfl fl_X0_9 ?_
  refine R_acopy 0 0 B.1 40 rfl dX0_copy_37 ml_X0_27 rfl rfl (by first | rfl | (simp [cpyI, setI])) (by first | rfl | (simp [cpyI, setI])) (by first | rfl | (simp [cpyI, setI])) (by omega) (by omega) (by decide) (Nat.le_of_ble_eq_true rfl) ⟨Nat.le_of_ble_eq_true rfl, Nat.le_of_ble_eq_true rfl⟩ ?_
  refine R_iinc [_, _, _] 43 rfl dX0_copy_40 rfl rfl (by decide) ?_
  refine R_goto 10 rfl dX0_copy_43 ?_
  refine R_iload_n 11 rfl dX0_copy_10 rfl ?_
  refine R_aload_n 12 rfl dX0_copy_11 rfl ?_
  refine R_getP 1 15 rfl dX0_copy_12 rfl rfl fl_X0_17 (hP _ _ _ rfl) ?_
  refine R_alen 16 rfl dX0_copy_15 rfl rfl ?_
  refine R_icmp_ge 19 46 rfl rfl dX0_copy_16 (by first | assumption | exact ⟨by omega, by omega⟩) (by first | assumption | exact ⟨by omega, by omega⟩) (fun h16 => ?_) (fun h16 => ?_)
  · exact absurd h16 (by omega)
  refine R_aload_n 20 rfl dX0_copy_19 rfl ?_
  refine R_getP 1 23 rfl dX0_copy_20 rfl rfl fl_X0_17 (hP _ _ _ rfl) ?_
  refine R_iload_n 24 rfl dX0_copy_23 rfl ?_
  refine R_aald 1 25 rfl dX0_copy_24 rfl rfl (by first | rfl | omega) (by decide) (by decide) (hP _ _ _ rfl) ?_
  refine R_iconst 26 rfl dX0_copy_25 ?_
  refine R_aload_n 27 rfl dX0_copy_26 rfl ?_
  refine R_getP 1 30 rfl dX0_copy_27 rfl rfl fl_X0_17 (hP _ _ _ rfl) ?_
  refine R_iload_n 31 rfl dX0_copy_30 rfl ?_
  refine R_aald 1 32 rfl dX0_copy_31 rfl rfl (by first | rfl | omega) (by decide) (by decide) (hP _ _ _ rfl) ?_
  refine R_iconst 33 rfl dX0_copy_32 ?_
  refine R_aload_n 34 rfl dX0_copy_33 rfl ?_
  refine R_getI 0 37 rfl dX0_copy_34 rfl rfl fl_X0_9 ?_
  refine R_acopy 0 0 B.1 40 rfl dX0_copy_37 ml_X0_27 rfl rfl (by first | rfl | (simp [cpyI, setI])) (by first | rfl | (simp [cpyI, setI])) (by first | rfl | (simp [cpyI, setI])) (by omega) (by omega) (by decide) (Nat.le_of_ble_eq_true rfl) ⟨Nat.le_of_ble_eq_true rfl, Nat.le_of_ble_eq_true rfl⟩ ?_
  refine R_iinc [_, _, _] 43 rfl dX0_copy_40 rfl rfl (by decide) ?_
  refine R_goto 10 rfl dX0_copy_43 ?_
  refine R_iload_n 11 rfl dX0_copy_10 rfl ?_
  refine R_aload_n 12 rfl dX0_copy_11 rfl ?_
  refine R_getP 1 15 rfl dX0_copy_12 rfl rfl fl_X0_17 (hP _ _ _ rfl) ?_
  refine R_alen 16 rfl dX0_copy_15 rfl rfl ?_
  refine R_icmp_ge 19 46 rfl rfl dX0_copy_16 (by first | assumption | exact ⟨by omega, by omega⟩) (by first | assumption | exact ⟨by omega, by omega⟩) (fun h16 => ?_) (fun h16 => ?_)
  · exact absurd h16 (by omega)
  refine R_aload_n 20 rfl dX0_copy_19 rfl ?_
  refine R_getP 1 23 rfl dX0_copy_20 rfl rfl fl_X0_17 (hP _ _ _ rfl) ?_
  refine R_iload_n 24 rfl dX0_copy_23 rfl ?_
  refine R_aald 2 25 rfl dX0_copy_24 rfl rfl (by first | rfl | omega) (by decide) (by decide) (hP _ _ _ rfl) ?_
  refine R_iconst 26 rfl dX0_copy_25 ?_
  refine R_aload_n 27 rfl dX0_copy_26 rfl ?_
  refine R_getP 1 30 rfl dX0_copy_27 rfl rfl fl_X0_17 (hP _ _ _ rfl) ?_
  refine R_iload_n 31 rfl dX0_copy_30 rfl ?_
  refine R_aald 2 32 rfl dX0_copy_31 rfl rfl (by first | rfl | omega) (by decide) (by decide) (hP _ _ _ rfl) ?_
  refine R_iconst 33 rfl dX0_copy_32 ?_
  refine R_aload_n 34 rfl dX0_copy_33 rfl ?_
  refine R_getI 0 37 rfl dX0_copy_34 rfl rfl fl_X0_9 ?_
  refine R_acopy 0 0 B.1 40 rfl dX0_copy_37 ml_X0_27 rfl rfl (by first | rfl | (simp [cpyI, setI])) (by first | rfl | (simp [cpyI, setI])) (by first | rfl | (simp [cpyI, setI])) (by omega) (by omega) (by decide) (Nat.le_of_ble_eq_true rfl) ⟨Nat.le_of_ble_eq_true rfl, Nat.le_of_ble_eq_true rfl⟩ ?_
  refine R_iinc [_, _, _] 43 rfl dX0_copy_40 rfl rfl (by decide) ?_
  refine R_goto 10 rfl dX0_copy_43 ?_
  refine R_iload_n 11 rfl dX0_copy_10 rfl ?_
  refine R_aload_n 12 rfl dX0_copy_11 rfl ?_
  refine R_getP 1 15 rfl dX0_copy_12 rfl rfl fl_X0_17 (hP _ _ _ rfl) ?_
  refine R_alen 16 rfl dX0_copy_15 rfl rfl ?_
  refine R_icmp_ge 19 46 rfl rfl dX0_copy_16 (by first | assumption | exact ⟨by omega, by omega⟩) (by first | assumption | exact ⟨by omega, by omega⟩) (fun h16 => ?_) (fun h16 => ?_)
  rotate_left
  · exact absurd h16 (by omega)
  refine R_iconst 47 rfl dX0_copy_46 ?_
  refine R_istore_n [_, _, _] 48 rfl dX0_copy_47 rfl (by decide) ?_
  refine R_iload_n 49 rfl dX0_copy_48 rfl ?_
  refine R_aload_n 50 rfl dX0_copy_49 rfl ?_
  refine R_getP 2 53 rfl dX0_copy_50 rfl rfl fl_X0_20 (hP _ _ _ rfl) ?_
  refine R_alen 54 rfl dX0_copy_53 rfl rfl ?_
  refine R_icmp_ge 57 86 rfl rfl dX0_copy_54 (by first | assumption | exact ⟨by omega, by omega⟩) (by first | assumption | exact ⟨by omega, by omega⟩) (fun h54 => ?_) (fun h54 => ?_)
  · exact absurd h54 (by omega)
  refine R_aload_n 58 rfl dX0_copy_57 rfl ?_
  refine R_getP 2 61 rfl dX0_copy_58 rfl rfl fl_X0_20 (hP _ _ _ rfl) ?_
  refine R_iload_n 62 rfl dX0_copy_61 rfl ?_
  refine R_aald 0 63 rfl dX0_copy_62 rfl rfl (by first | rfl | omega) (by decide) (by decide) (hP _ _ _ rfl) ?_
  refine R_iconst 64 rfl dX0_copy_63 ?_
  refine R_aload_n 65 rfl dX0_copy_64 rfl ?_
  refine R_getP 2 68 rfl dX0_copy_65 rfl rfl fl_X0_20 (hP _ _ _ rfl) ?_
  refine R_iload_n 69 rfl dX0_copy_68 rfl ?_
  refine R_aald 0 70 rfl dX0_copy_69 rfl rfl (by first | rfl | omega) (by decide) (by decide) (hP _ _ _ rfl) ?_
  refine R_iconst 71 rfl dX0_copy_70 ?_
  refine R_iconst 72 rfl dX0_copy_71 ?_
  refine R_aload_n 73 rfl dX0_copy_72 rfl ?_
  refine R_getI 0 76 rfl dX0_copy_73 rfl rfl fl_X0_9 ?_
  refine R_imul 77 rfl dX0_copy_76 ?_
  refine R_acopy 0 0 (2 * B.1) 80 rfl dX0_copy_77 ml_X0_27 rfl rfl (by first | rfl | (simp [cpyI, setI])) (by first | rfl | (simp [cpyI, setI])) (by first | rfl | (simp [cpyI, setI])) (by omega) (by omega) (by decide) (Nat.le_of_ble_eq_true rfl) ⟨Nat.le_of_ble_eq_true rfl, Nat.le_of_ble_eq_true rfl⟩ ?_
  refine R_iinc [_, _, _] 83 rfl dX0_copy_80 rfl rfl (by decide) ?_
  refine R_goto 48 rfl dX0_copy_83 ?_
  refine R_iload_n 49 rfl dX0_copy_48 rfl ?_
  refine R_aload_n 50 rfl dX0_copy_49 rfl ?_
  refine R_getP 2 53 rfl dX0_copy_50 rfl rfl fl_X0_20 (hP _ _ _ rfl) ?_
  refine R_alen 54 rfl dX0_copy_53 rfl rfl ?_
  refine R_icmp_ge 57 86 rfl rfl dX0_copy_54 (by first | assumption | exact ⟨by omega, by omega⟩) (by first | assumption | exact ⟨by omega, by omega⟩) (fun h54 => ?_) (fun h54 => ?_)
  · exact absurd h54 (by omega)
  refine R_aload_n 58 rfl dX0_copy_57 rfl ?_
  refine R_getP 2 61 rfl dX0_copy_58 rfl rfl fl_X0_20 (hP _ _ _ rfl) ?_
  refine R_iload_n 62 rfl dX0_copy_61 rfl ?_
  refine R_aald 1 63 rfl dX0_copy_62 rfl rfl (by first | rfl | omega) (by decide) (by decide) (hP _ _ _ rfl) ?_
  refine R_iconst 64 rfl dX0_copy_63 ?_
  refine R_aload_n 65 rfl dX0_copy_64 rfl ?_
  refine R_getP 2 68 rfl dX0_copy_65 rfl rfl fl_X0_20 (hP _ _ _ rfl) ?_
  refine R_iload_n 69 rfl dX0_copy_68 rfl ?_
  refine R_aald 1 70 rfl dX0_copy_69 rfl rfl (by first | rfl | omega) (by decide) (by decide) (hP _ _ _ rfl) ?_
  refine R_iconst 71 rfl dX0_copy_70 ?_
  refine R_iconst 72 rfl dX0_copy_71 ?_
  refine R_aload_n 73 rfl dX0_copy_72 rfl ?_
  refine R_getI 0 76 rfl dX0_copy_73 rfl rfl fl_X0_9 ?_
  refine R_imul 77 rfl dX0_copy_76 ?_
  refine R_acopy 0 0 (2 * B.1) 80 rfl dX0_copy_77 ml_X0_27 rfl rfl (by first | rfl | (simp [cpyI, setI])) (by first | rfl | (simp [cpyI, setI])) (by first | rfl | (simp [cpyI, setI])) (by omega) (by omega) (by decide) (Nat.le_of_ble_eq_true rfl) ⟨Nat.le_of_ble_eq_true rfl, Nat.le_of_ble_eq_true rfl⟩ ?_
  refine R_iinc [_, _, _] 83 rfl dX0_copy_80 rfl rfl (by decide) ?_
  refine R_goto 48 rfl dX0_copy_83 ?_
  refine R_iload_n 49 rfl dX0_copy_48 rfl ?_
  refine R_aload_n 50 rfl dX0_copy_49 rfl ?_
  refine R_getP 2 53 rfl dX0_copy_50 rfl rfl fl_X0_20 (hP _ _ _ rfl) ?_
  refine R_alen 54 rfl dX0_copy_53 rfl rfl ?_
  refine R_icmp_ge 57 86 rfl rfl dX0_copy_54 (by first | assumption | exact ⟨by omega, by omega⟩) (by first | assumption | exact ⟨by omega, by omega⟩) (fun h54 => ?_) (fun h54 => ?_)
  · exact absurd h54 (by omega)
  refine R_aload_n 58 rfl dX0_copy_57 rfl ?_
  refine R_getP 2 61 rfl dX0_copy_58 rfl rfl fl_X0_20 (hP _ _ _ rfl) ?_
  refine R_iload_n 62 rfl dX0_copy_61 rfl ?_
  refine R_aald 2 63 rfl dX0_copy_62 rfl rfl (by first | rfl | omega) (by decide) (by decide) (hP _ _ _ rfl) ?_
  refine R_iconst 64 rfl dX0_copy_63 ?_
  refine R_aload_n 65 rfl dX0_copy_64 rfl ?_
  refine R_getP 2 68 rfl dX0_copy_65 rfl rfl fl_X0_20 (hP _ _ _ rfl) ?_
  refine R_iload_n 69 rfl dX0_copy_68 rfl ?_
  refine R_aald 2 70 rfl dX0_copy_69 rfl rfl (by first | rfl | omega) (by decide) (by decide) (hP _ _ _ rfl) ?_
  refine R_iconst 71 rfl dX0_copy_70 ?_
  refine R_iconst 72 rfl dX0_copy_71 ?_
  refine R_aload_n 73 rfl dX0_copy_72 rfl ?_
  refine R_getI 0 76 rfl dX0_copy_73 rfl rfl fl_X0_9 ?_
  refine R_imul 77 rfl dX0_copy_76 ?_
  refine R_acopy 0 0 (2 * B.1) 80 rfl dX0_copy_77 ml_X0_27 rfl rfl (by first | rfl | (simp [cpyI, setI])) (by first | rfl | (simp [cpyI, setI])) (by first | rfl | (simp [cpyI, setI])) (by omega) (by omega) (by decide) (Nat.le_of_ble_eq_true rfl) ⟨Nat.le_of_ble_eq_true rfl, Nat.le_of_ble_eq_true rfl⟩ ?_
  refine R_iinc [_, _, _] 83 rfl dX0_copy_80 rfl rfl (by decide) ?_
  refine R_goto 48 rfl dX0_copy_83 ?_
  refine R_iload_n 49 rfl dX0_copy_48 rfl ?_
  refine R_aload_n 50 rfl dX0_copy_49 rfl ?_
  refine R_getP 2 53 rfl dX0_copy_50 rfl rfl fl_X0_20 (hP _ _ _ rfl) ?_
  refine R_alen 54 rfl dX0_copy_53 rfl rfl ?_
  refine R_icmp_ge 57 86 rfl rfl dX0_copy_54 (by first | assumption | exact ⟨by omega, by omega⟩) (by first | assumption | exact ⟨by omega, by omega⟩) (fun h54 => ?_) (fun h54 => ?_)
  · exact absurd h54 (by omega)
  refine R_aload_n 58 rfl dX0_copy_57 rfl ?_
  refine R_getP 2 61 rfl dX0_copy_58 rfl rfl fl_X0_20 (hP _ _ _ rfl) ?_
  refine R_iload_n 62 rfl dX0_copy_61 rfl ?_
  refine R_aald 3 63 rfl dX0_copy_62 rfl rfl (by first | rfl | omega) (by decide) (by decide) (hP _ _ _ rfl) ?_
  refine R_iconst 64 rfl dX0_copy_63 ?_
  refine R_aload_n 65 rfl dX0_copy_64 rfl ?_
  refine R_getP 2 68 rfl dX0_copy_65 rfl rfl fl_X0_20 (hP _ _ _ rfl) ?_
  refine R_iload_n 69 rfl dX0_copy_68 rfl ?_
  refine R_aald 3 70 rfl dX0_copy_69 rfl rfl (by first | rfl | omega) (by decide) (by decide) (hP _ _ _ rfl) ?_
  refine R_iconst 71 rfl dX0_copy_70 ?_
  refine R_iconst 72 rfl dX0_copy_71 ?_
  refine R_aload_n 73 rfl dX0_copy_72 rfl ?_
  refine R_getI 0 76 rfl dX0_copy_73 rfl rfl fl_X0_9 ?_
  refine R_imul 77 rfl dX0_copy_76 ?_
  refine R_acopy 0 0 (2 * B.1) 80 rfl dX0_copy_77 ml_X0_27 rfl rfl (by first | rfl | (simp [cpyI, setI])) (by first | rfl | (simp [cpyI, setI])) (by first | rfl | (simp [cpyI, setI])) (by omega) (by omega) (by decide) (Nat.le_of_ble_eq_true rfl) ⟨Nat.le_of_ble_eq_true rfl, Nat.le_of_ble_eq_true rfl⟩ ?_
  refine R_iinc [_, _, _] 83 rfl dX0_copy_80 rfl rfl (by decide) ?_
  refine R_goto 48 rfl dX0_copy_83 ?_
  refine R_iload_n 49 rfl dX0_copy_48 rfl ?_
  refine R_aload_n 50 rfl dX0_copy_49 rfl ?_
  refine R_getP 2 53 rfl dX0_copy_50 rfl rfl fl_X0_20 (hP _ _ _ rfl) ?_
  refine R_alen 54 rfl dX0_copy_53 rfl rfl ?_
  refine R_icmp_ge 57 86 rfl rfl dX0_copy_54 (by first | assumption | exact ⟨by omega, by omega⟩) (by first | assumption | exact ⟨by omega, by omega⟩) (fun h54 => ?_) (fun h54 => ?_)
  · exact absurd h54 (by omega)
  refine R_aload_n 58 rfl dX0_copy_57 rfl ?_
  refine R_getP 2 61 rfl dX0_copy_58 rfl rfl fl_X0_20 (hP _ _ _ rfl) ?_
  refine R_iload_n 62 rfl dX0_copy_61 rfl ?_
  refine R_aald 4 63 rfl dX0_copy_62 rfl rfl (by first | rfl | omega) (by decide) (by decide) (hP _ _ _ rfl) ?_
  refine R_iconst 64 rfl dX0_copy_63 ?_
  refine R_aload_n 65 rfl dX0_copy_64 rfl ?_
  refine R_getP 2 68 rfl dX0_copy_65 rfl rfl fl_X0_20 (hP _ _ _ rfl) ?_
  refine R_iload_n 69 rfl dX0_copy_68 rfl ?_
  refine R_aald 4 70 rfl dX0_copy_69 rfl rfl (by first | rfl | omega) (by decide) (by decide) (hP _ _ _ rfl) ?_
  refine R_iconst 71 rfl dX0_copy_70 ?_
  refine R_iconst 72 rfl dX0_copy_71 ?_
  refine R_aload_n 73 rfl dX0_copy_72 rfl ?_
  refine R_getI 0 76 rfl dX0_copy_73 rfl rfl fl_X0_9 ?_
  refine R_imul 77 rfl dX0_copy_76 ?_
  refine R_acopy 0 0 (2 * B.1) 80 rfl dX0_copy_77 ml_X0_27 rfl rfl (by first | rfl | (simp [cpyI, setI])) (by first | rfl | (simp [cpyI, setI])) (by first | rfl | (simp [cpyI, setI])) (by omega) (by omega) (by decide) (Nat.le_of_ble_eq_true rfl) ⟨Nat.le_of_ble_eq_true rfl, Nat.le_of_ble_eq_true rfl⟩ ?_
  refine R_iinc [_, _, _] 83 rfl dX0_copy_80 rfl rfl (by decide) ?_
  refine R_goto 48 rfl dX0_copy_83 ?_
  refine R_iload_n 49 rfl dX0_copy_48 rfl ?_
  refine R_aload_n 50 rfl dX0_copy_49 rfl ?_
  refine R_getP 2 53 rfl dX0_copy_50 rfl rfl fl_X0_20 (hP _ _ _ rfl) ?_
  refine R_alen 54 rfl dX0_copy_53 rfl rfl ?_
  refine R_icmp_ge 57 86 rfl rfl dX0_copy_54 (by first | assumption | exact ⟨by omega, by omega⟩) (by first | assumption | exact ⟨by omega, by omega⟩) (fun h54 => ?_) (fun h54 => ?_)
  rotate_left
  · exact absurd h54 (by omega)
  refine R_return dX0_copy_86 rfl ?_
  exact Qv_mk rfl
def bkCpc (m : Mem) (n : Nat) : Mem := cpyB (setI m 49 0 (n : Int)) 0 0 n 0 0 (2 * n) 32 33 34 36 37 38 39 40 51 52 53 55 56 57 58 59
theorem bkCpc_ok {m : Mem} {B : Bk} (h : BkC 30 32 33 34 36 37 38 39 40 m B) : BkC 49 51 52 53 55 56 57 58 59 (bkCpc m B.1) B := by
  refine ⟨by simp [bkCpc, cpyB, cpyI, setI], fun k hk => ?_, fun k hk => ?_⟩
  · have h1 := h.2.1 k hk
    simp [bkCpc, cpyB, cpyI, setI, hk]; exact h1
  · have h1 := h.2.2 k hk
    simp [bkCpc, cpyB, cpyI, setI, hk]; exact h1
theorem bkCpc_fr (m : Mem) (n : Nat) : Fr (fun o => decide (49 ≤ o ∧ o ≤ 49 + 10)) m (bkCpc m n) := by
  unfold bkCpc cpyB
  refine Fr.cpy (Fr.cpy (Fr.cpy (Fr.cpy (Fr.cpy (Fr.cpy (Fr.cpy (Fr.cpy (Fr.set Fr.rf ?_) ?_) ?_) ?_) ?_) ?_) ?_) ?_) ?_ <;> rfl
theorem c_X0_copyc {Γ : GX} {m : Mem} {B : Bk} {o d : Nat} (hPO : PO o d m) (hB : BkC 30 32 33 34 36 37 38 39 40 m B) (hn : B.1 ≤ 40) : C Γ mX0_copy 1 60 0 0 [vr 49, vr 30] SH m (Qv SH (bkCpc m B.1)) := by
  refine C_of_R rfl (Nat.le_of_ble_eq_true rfl) ?_
  have h0 := hB.1
  have hP := hPO.2
  refine R_aload_n 1 rfl dX0_copy_0 rfl ?_
  refine R_aload_n 2 rfl dX0_copy_1 rfl ?_
  refine R_getI 0 5 rfl dX0_copy_2 rfl rfl fl_X0_9 ?_
  rw [h0]
  refine R_putI 0 8 rfl dX0_copy_5 rfl rfl fl_X0_9 ?_
  refine R_iconst 9 rfl dX0_copy_8 ?_
  refine R_istore_n [_, _, _] 10 rfl dX0_copy_9 rfl (by decide) ?_
  refine R_iload_n 11 rfl dX0_copy_10 rfl ?_
  refine R_aload_n 12 rfl dX0_copy_11 rfl ?_
  refine R_getP 1 15 rfl dX0_copy_12 rfl rfl fl_X0_17 (hP _ _ _ rfl) ?_
  refine R_alen 16 rfl dX0_copy_15 rfl rfl ?_
  refine R_icmp_ge 19 46 rfl rfl dX0_copy_16 (by first | assumption | exact ⟨by omega, by omega⟩) (by first | assumption | exact ⟨by omega, by omega⟩) (fun h16 => ?_) (fun h16 => ?_)
  · exact absurd h16 (by omega)
  refine R_aload_n 20 rfl dX0_copy_19 rfl ?_
  refine R_getP 1 23 rfl dX0_copy_20 rfl rfl fl_X0_17 (hP _ _ _ rfl) ?_
  refine R_iload_n 24 rfl dX0_copy_23 rfl ?_
  refine R_aald 0 25 rfl dX0_copy_24 rfl rfl (by first | rfl | omega) (by decide) (by decide) (hP _ _ _ rfl) ?_
  refine R_iconst 26 rfl dX0_copy_25 ?_
  refine R_aload_n 27 rfl dX0_copy_26 rfl ?_
  refine R_getP 1 30 rfl dX0_copy_27 rfl rfl fl_X0_17 (hP _ _ _ rfl) ?_
  refine R_iload_n 31 rfl dX0_copy_30 rfl ?_
  refine R_aald 0 32 rfl dX0_copy_31 rfl rfl (by first | rfl | omega) (by decide) (by decide) (hP _ _ _ rfl) ?_
  refine R_iconst 33 rfl dX0_copy_32 ?_
  refine R_aload_n 34 rfl dX0_copy_33 rfl ?_
  refine R_getI 0 37 rfl dX0_copy_34 rfl rfl fl_X0_9 ?_
  refine R_acopy 0 0 B.1 40 rfl dX0_copy_37 ml_X0_27 rfl rfl (by first | rfl | (simp [cpyI, setI])) (by first | rfl | (simp [cpyI, setI])) (by first | rfl | (simp [cpyI, setI])) (by omega) (by omega) (by decide) (Nat.le_of_ble_eq_true rfl) ⟨Nat.le_of_ble_eq_true rfl, Nat.le_of_ble_eq_true rfl⟩ ?_
  refine R_iinc [_, _, _] 43 rfl dX0_copy_40 rfl rfl (by decide) ?_
  refine R_goto 10 rfl dX0_copy_43 ?_
  refine R_iload_n 11 rfl dX0_copy_10 rfl ?_
  refine R_aload_n 12 rfl dX0_copy_11 rfl ?_
  refine R_getP 1 15 rfl dX0_copy_12 rfl rfl fl_X0_17 (hP _ _ _ rfl) ?_
  refine R_alen 16 rfl dX0_copy_15 rfl rfl ?_
  refine R_icmp_ge 19 46 rfl rfl dX0_copy_16 (by first | assumption | exact ⟨by omega, by omega⟩) (by first | assumption | exact ⟨by omega, by omega⟩) (fun h16 => ?_) (fun h16 => ?_)
  · exact absurd h16 (by omega)
  refine R_aload_n 20 rfl dX0_copy_19 rfl ?_
  refine R_getP 1 23 rfl dX0_copy_20 rfl rfl fl_X0_17 (hP _ _ _ rfl) ?_
  refine R_iload_n 24 rfl dX0_copy_23 rfl ?_
  refine R_aald 1 25 rfl dX0_copy_24 rfl rfl (by first | rfl | omega) (by decide) (by decide) (hP _ _ _ rfl) ?_
  refine R_iconst 26 rfl dX0_copy_25 ?_
  refine R_aload_n 27 rfl dX0_copy_26 rfl ?_
  refine R_getP 1 30 rfl dX0_copy_27 rfl rfl fl_X0_17 (hP _ _ _ rfl) ?_
  refine R_iload_n 31 rfl dX0_copy_30 rfl ?_
  refine R_aald 1 32 rfl dX0_copy_31 rfl rfl (by first | rfl | omega) (by decide) (by decide) (hP _ _ _ rfl) ?_
  refine R_iconst 33 rfl dX0_copy_32 ?_
  refine R_aload_n 34 rfl dX0_copy_33 rfl ?_
  refine R_getI 0 37 rfl dX0_copy_34 rfl rfl fl_X0_9 ?_
  refine R_acopy 0 0 B.1 40 rfl dX0_copy_37 ml_X0_27 rfl rfl (by first | rfl | (simp [cpyI, setI])) (by first | rfl | (simp [cpyI, setI])) (by first | rfl | (simp [cpyI, setI])) (by omega) (by omega) (by decide) (Nat.le_of_ble_eq_true rfl) ⟨Nat.le_of_ble_eq_true rfl, Nat.le_of_ble_eq_true rfl⟩ ?_
  refine R_iinc [_, _, _] 43 rfl dX0_copy_40 rfl rfl (by decide) ?_
  refine R_goto 10 rfl dX0_copy_43 ?_
  refine R_iload_n 11 rfl dX0_copy_10 rfl ?_
  refine R_aload_n 12 rfl dX0_copy_11 rfl ?_
  refine R_getP 1 15 rfl dX0_copy_12 rfl rfl fl_X0_17 (hP _ _ _ rfl) ?_
  refine R_alen 16 rfl dX0_copy_15 rfl rfl ?_
  refine R_icmp_ge 19 46 rfl rfl dX0_copy_16 (by first | assumption | exact ⟨by omega, by omega⟩) (by first | assumption | exact ⟨by omega, by omega⟩) (fun h16 => ?_) (fun h16 => ?_)
  · exact absurd h16 (by omega)
  refine R_aload_n 20 rfl dX0_copy_19 rfl ?_
  refine R_getP 1 23 rfl dX0_copy_20 rfl rfl fl_X0_17 (hP _ _ _ rfl) ?_
  refine R_iload_n 24 rfl dX0_copy_23 rfl ?_
  refine R_aald 2 25 rfl dX0_copy_24 rfl rfl (by first | rfl | omega) (by decide) (by decide) (hP _ _ _ rfl) ?_
  refine R_iconst 26 rfl dX0_copy_25 ?_
  refine R_aload_n 27 rfl dX0_copy_26 rfl ?_
  refine R_getP 1 30 rfl dX0_copy_27 rfl rfl fl_X0_17 (hP _ _ _ rfl) ?_
  refine R_iload_n 31 rfl dX0_copy_30 rfl ?_
  refine R_aald 2 32 rfl dX0_copy_31 rfl rfl (by first | rfl | omega) (by decide) (by decide) (hP _ _ _ rfl) ?_
  refine R_iconst 33 rfl dX0_copy_32 ?_
  refine R_aload_n 34 rfl dX0_copy_33 rfl ?_
  refine R_getI 0 37 rfl dX0_copy_34 rfl rfl fl_X0_9 ?_
  refine R_acopy 0 0 B.1 40 rfl dX0_copy_37 ml_X0_27 rfl rfl (by first | rfl | (simp [cpyI, setI])) (by first | rfl | (simp [cpyI, setI])) (by first | rfl | (simp [cpyI, setI])) (by omega) (by omega) (by decide) (Nat.le_of_ble_eq_true rfl) ⟨Nat.le_of_ble_eq_true rfl, Nat.le_of_ble_eq_true rfl⟩ ?_
  refine R_iinc [_, _, _] 43 rfl dX0_copy_40 rfl rfl (by decide) ?_
  refine R_goto 10 rfl dX0_copy_43 ?_
  refine R_iload_n 11 rfl dX0_copy_10 rfl ?_
  refine R_aload_n 12 rfl dX0_copy_11 rfl ?_
  refine R_getP 1 15 rfl dX0_copy_12 rfl rfl fl_X0_17 (hP _ _ _ rfl) ?_
  refine R_alen 16 rfl dX0_copy_15 rfl rfl ?_
  refine R_icmp_ge 19 46 rfl rfl dX0_copy_16 (by first | assumption | exact ⟨by omega, by omega⟩) (by first | assumption | exact ⟨by omega, by omega⟩) (fun h16 => ?_) (fun h16 => ?_)
  rotate_left
  · exact absurd h16 (by omega)
  refine R_iconst 47 rfl dX0_copy_46 ?_
  refine R_istore_n [_, _, _] 48 rfl dX0_copy_47 rfl (by decide) ?_
  refine R_iload_n 49 rfl dX0_copy_48 rfl ?_
  refine R_aload_n 50 rfl dX0_copy_49 rfl ?_
  refine R_getP 2 53 rfl dX0_copy_50 rfl rfl fl_X0_20 (hP _ _ _ rfl) ?_
  refine R_alen 54 rfl dX0_copy_53 rfl rfl ?_
  refine R_icmp_ge 57 86 rfl rfl dX0_copy_54 (by first | assumption | exact ⟨by omega, by omega⟩) (by first | assumption | exact ⟨by omega, by omega⟩) (fun h54 => ?_) (fun h54 => ?_)
  · exact absurd h54 (by omega)
  refine R_aload_n 58 rfl dX0_copy_57 rfl ?_
  refine R_getP 2 61 rfl dX0_copy_58 rfl rfl fl_X0_20 (hP _ _ _ rfl) ?_
  refine R_iload_n 62 rfl dX0_copy_61 rfl ?_
  refine R_aald 0 63 rfl dX0_copy_62 rfl rfl (by first | rfl | omega) (by decide) (by decide) (hP _ _ _ rfl) ?_
  refine R_iconst 64 rfl dX0_copy_63 ?_
  refine R_aload_n 65 rfl dX0_copy_64 rfl ?_
  refine R_getP 2 68 rfl dX0_copy_65 rfl rfl fl_X0_20 (hP _ _ _ rfl) ?_
  refine R_iload_n 69 rfl dX0_copy_68 rfl ?_
  refine R_aald 0 70 rfl dX0_copy_69 rfl rfl (by first | rfl | omega) (by decide) (by decide) (hP _ _ _ rfl) ?_
  refine R_iconst 71 rfl dX0_copy_70 ?_
  refine R_iconst 72 rfl dX0_copy_71 ?_
  refine R_aload_n 73 rfl dX0_copy_72 rfl ?_
  refine R_getI 0 76 rfl dX0_copy_73 rfl rfl fl_X0_9 ?_
  refine R_imul 77 rfl dX0_copy_76 ?_
  refine R_acopy 0 0 (2 * B.1) 80 rfl dX0_copy_77 ml_X0_27 rfl rfl (by first | rfl | (simp [cpyI, setI])) (by first | rfl | (simp [cpyI, setI])) (by first | rfl | (simp [cpyI, setI])) (by omega) (by omega) (by decide) (Nat.le_of_ble_eq_true rfl) ⟨Nat.le_of_ble_eq_true rfl, Nat.le_of_ble_eq_true rfl⟩ ?_
  refine R_iinc [_, _, _] 83 rfl dX0_copy_80 rfl rfl (by decide) ?_
  refine R_goto 48 rfl dX0_copy_83 ?_
  refine R_iload_n 49 rfl dX0_copy_48 rfl ?_
  refine R_aload_n 50 rfl dX0_copy_49 rfl ?_
  refine R_getP 2 53 rfl dX0_copy_50 rfl rfl fl_X0_20 (hP _ _ _ rfl) ?_
  refine R_alen 54 rfl dX0_copy_53 rfl rfl ?_
  refine R_icmp_ge 57 86 rfl rfl dX0_copy_54 (by first | assumption | exact ⟨by omega, by omega⟩) (by first | assumption | exact ⟨by omega, by omega⟩) (fun h54 => ?_) (fun h54 => ?_)
  · exact absurd h54 (by omega)
  refine R_aload_n 58 rfl dX0_copy_57 rfl ?_
  refine R_getP 2 61 rfl dX0_copy_58 rfl rfl fl_X0_20 (hP _ _ _ rfl) ?_
  refine R_iload_n 62 rfl dX0_copy_61 rfl ?_
  refine R_aald 1 63 rfl dX0_copy_62 rfl rfl (by first | rfl | omega) (by decide) (by decide) (hP _ _ _ rfl) ?_
  refine R_iconst 64 rfl dX0_copy_63 ?_
  refine R_aload_n 65 rfl dX0_copy_64 rfl ?_
  refine R_getP 2 68 rfl dX0_copy_65 rfl rfl fl_X0_20 (hP _ _ _ rfl) ?_
  refine R_iload_n 69 rfl dX0_copy_68 rfl ?_
  refine R_aald 1 70 rfl dX0_copy_69 rfl rfl (by first | rfl | omega) (by decide) (by decide) (hP _ _ _ rfl) ?_
  refine R_iconst 71 rfl dX0_copy_70 ?_
  refine R_iconst 72 rfl dX0_copy_71 ?_
  refine R_aload_n 73 rfl dX0_copy_72 rfl ?_
  refine R_getI 0 76 rfl dX0_copy_73 rfl rfl fl_X0_9 ?_
  refine R_imul 77 rfl dX0_copy_76 ?_
  refine R_acopy 0 0 (2 * B.1) 80 rfl dX0_copy_77 ml_X0_27 rfl rfl (by first | rfl | (simp [cpyI, setI])) (by first | rfl | (simp [cpyI, setI])) (by first | rfl | (simp [cpyI, setI])) (by omega) (by omega) (by decide) (Nat.le_of_ble_eq_true rfl) ⟨Nat.le_of_ble_eq_true rfl, Nat.le_of_ble_eq_true rfl⟩ ?_
  refine R_iinc [_, _, _] 83 rfl dX0_copy_80 rfl rfl (by decide) ?_
  refine R_goto 48 rfl dX0_copy_83 ?_
  refine R_iload_n 49 rfl dX0_copy_48 rfl ?_
  refine R_aload_n 50 rfl dX0_copy_49 rfl ?_
  refine R_getP 2 53 rfl dX0_copy_50 rfl rfl fl_X0_20 (hP _ _ _ rfl) ?_
  refine R_alen 54 rfl dX0_copy_53 rfl rfl ?_
  refine R_icmp_ge 57 86 rfl rfl dX0_copy_54 (by first | assumption | exact ⟨by omega, by omega⟩) (by first | assumption | exact ⟨by omega, by omega⟩) (fun h54 => ?_) (fun h54 => ?_)
  · exact absurd h54 (by omega)
  refine R_aload_n 58 rfl dX0_copy_57 rfl ?_
  refine R_getP 2 61 rfl dX0_copy_58 rfl rfl fl_X0_20 (hP _ _ _ rfl) ?_
  refine R_iload_n 62 rfl dX0_copy_61 rfl ?_
  refine R_aald 2 63 rfl dX0_copy_62 rfl rfl (by first | rfl | omega) (by decide) (by decide) (hP _ _ _ rfl) ?_
  refine R_iconst 64 rfl dX0_copy_63 ?_
  refine R_aload_n 65 rfl dX0_copy_64 rfl ?_
  refine R_getP 2 68 rfl dX0_copy_65 rfl rfl fl_X0_20 (hP _ _ _ rfl) ?_
  refine R_iload_n 69 rfl dX0_copy_68 rfl ?_
  refine R_aald 2 70 rfl dX0_copy_69 rfl rfl (by first | rfl | omega) (by decide) (by decide) (hP _ _ _ rfl) ?_
  refine R_iconst 71 rfl dX0_copy_70 ?_
  refine R_iconst 72 rfl dX0_copy_71 ?_
  refine R_aload_n 73 rfl dX0_copy_72 rfl ?_
  refine R_getI 0 76 rfl dX0_copy_73 rfl rfl fl_X0_9 ?_
  refine R_imul 77 rfl dX0_copy_76 ?_
  refine R_acopy 0 0 (2 * B.1) 80 rfl dX0_copy_77 ml_X0_27 rfl rfl (by first | rfl | (simp [cpyI, setI])) (by first | rfl | (simp [cpyI, setI])) (by first | rfl | (simp [cpyI, setI])) (by omega) (by omega) (by decide) (Nat.le_of_ble_eq_true rfl) ⟨Nat.le_of_ble_eq_true rfl, Nat.le_of_ble_eq_true rfl⟩ ?_
  refine R_iinc [_, _, _] 83 rfl dX0_copy_80 rfl rfl (by decide) ?_
  refine R_goto 48 rfl dX0_copy_83 ?_
  refine R_iload_n 49 rfl dX0_copy_48 rfl ?_
  refine R_aload_n 50 rfl dX0_copy_49 rfl ?_
  refine R_getP 2 53 rfl dX0_copy_50 rfl rfl fl_X0_20 (hP _ _ _ rfl) ?_
  refine R_alen 54 rfl dX0_copy_53 rfl rfl ?_
  refine R_icmp_ge 57 86 rfl rfl dX0_copy_54 (by first | assumption | exact ⟨by omega, by omega⟩) (by first | assumption | exact ⟨by omega, by omega⟩) (fun h54 => ?_) (fun h54 => ?_)
  · exact absurd h54 (by omega)
  refine R_aload_n 58 rfl dX0_copy_57 rfl ?_
  refine R_getP 2 61 rfl dX0_copy_58 rfl rfl fl_X0_20 (hP _ _ _ rfl) ?_
  refine R_iload_n 62 rfl dX0_copy_61 rfl ?_
  refine R_aald 3 63 rfl dX0_copy_62 rfl rfl (by first | rfl | omega) (by decide) (by decide) (hP _ _ _ rfl) ?_
  refine R_iconst 64 rfl dX0_copy_63 ?_
  refine R_aload_n 65 rfl dX0_copy_64 rfl ?_
  refine R_getP 2 68 rfl dX0_copy_65 rfl rfl fl_X0_20 (hP _ _ _ rfl) ?_
  refine R_iload_n 69 rfl dX0_copy_68 rfl ?_
  refine R_aald 3 70 rfl dX0_copy_69 rfl rfl (by first | rfl | omega) (by decide) (by decide) (hP _ _ _ rfl) ?_
  refine R_iconst 71 rfl dX0_copy_70 ?_
  refine R_iconst 72 rfl dX0_copy_71 ?_
  refine R_aload_n 73 rfl dX0_copy_72 rfl ?_
  refine R_getI 0 76 rfl dX0_copy_73 rfl rfl fl_X0_9 ?_
  refine R_imul 77 rfl dX0_copy_76 ?_
  refine R_acopy 0 0 (2 * B.1) 80 rfl dX0_copy_77 ml_X0_27 rfl rfl (by first | rfl | (simp [cpyI, setI])) (by first | rfl | (simp [cpyI, setI])) (by first | rfl | (simp [cpyI, setI])) (by omega) (by omega) (by decide) (Nat.le_of_ble_eq_true rfl) ⟨Nat.le_of_ble_eq_true rfl, Nat.le_of_ble_eq_true rfl⟩ ?_
  refine R_iinc [_, _, _] 83 rfl dX0_copy_80 rfl rfl (by decide) ?_
  refine R_goto 48 rfl dX0_copy_83 ?_
  refine R_iload_n 49 rfl dX0_copy_48 rfl ?_
  refine R_aload_n 50 rfl dX0_copy_49 rfl ?_
  refine R_getP 2 53 rfl dX0_copy_50 rfl rfl fl_X0_20 (hP _ _ _ rfl) ?_
  refine R_alen 54 rfl dX0_copy_53 rfl rfl ?_
  refine R_icmp_ge 57 86 rfl rfl dX0_copy_54 (by first | assumption | exact ⟨by omega, by omega⟩) (by first | assumption | exact ⟨by omega, by omega⟩) (fun h54 => ?_) (fun h54 => ?_)
  · exact absurd h54 (by omega)
  refine R_aload_n 58 rfl dX0_copy_57 rfl ?_
  refine R_getP 2 61 rfl dX0_copy_58 rfl rfl fl_X0_20 (hP _ _ _ rfl) ?_
  refine R_iload_n 62 rfl dX0_copy_61 rfl ?_
  refine R_aald 4 63 rfl dX0_copy_62 rfl rfl (by first | rfl | omega) (by decide) (by decide) (hP _ _ _ rfl) ?_
  refine R_iconst 64 rfl dX0_copy_63 ?_
  refine R_aload_n 65 rfl dX0_copy_64 rfl ?_
  refine R_getP 2 68 rfl dX0_copy_65 rfl rfl fl_X0_20 (hP _ _ _ rfl) ?_
  refine R_iload_n 69 rfl dX0_copy_68 rfl ?_
  refine R_aald 4 70 rfl dX0_copy_69 rfl rfl (by first | rfl | omega) (by decide) (by decide) (hP _ _ _ rfl) ?_
  refine R_iconst 71 rfl dX0_copy_70 ?_
  refine R_iconst 72 rfl dX0_copy_71 ?_
  refine R_aload_n 73 rfl dX0_copy_72 rfl ?_
  refine R_getI 0 76 rfl dX0_copy_73 rfl rfl fl_X0_9 ?_
  refine R_imul 77 rfl dX0_copy_76 ?_
  refine R_acopy 0 0 (2 * B.1) 80 rfl dX0_copy_77 ml_X0_27 rfl rfl (by first | rfl | (simp [cpyI, setI])) (by first | rfl | (simp [cpyI, setI])) (by first | rfl | (simp [cpyI, setI])) (by omega) (by omega) (by decide) (Nat.le_of_ble_eq_true rfl) ⟨Nat.le_of_ble_eq_true rfl, Nat.le_of_ble_eq_true rfl⟩ ?_
  refine R_iinc [_, _, _] 83 rfl dX0_copy_80 rfl rfl (by decide) ?_
  refine R_goto 48 rfl dX0_copy_83 ?_
  refine R_iload_n 49 rfl dX0_copy_48 rfl ?_
  refine R_aload_n 50 rfl dX0_copy_49 rfl ?_
  refine R_getP 2 53 rfl dX0_copy_50 rfl rfl fl_X0_20 (hP _ _ _ rfl) ?_
  refine R_alen 54 rfl dX0_copy_53 rfl rfl ?_
  refine R_icmp_ge 57 86 rfl rfl dX0_copy_54 (by first | assumption | exact ⟨by omega, by omega⟩) (by first | assumption | exact ⟨by omega, by omega⟩) (fun h54 => ?_) (fun h54 => ?_)
  rotate_left
  · exact absurd h54 (by omega)
  refine R_return dX0_copy_86 rfl ?_
  exact Qv_mk rfl
def bkCpd (m : Mem) (n : Nat) : Mem := cpyB (setI m 63 0 (n : Int)) 0 0 n 0 0 (2 * n) 32 33 34 36 37 38 39 40 65 66 67 69 70 71 72 73
theorem bkCpd_ok {m : Mem} {B : Bk} (h : BkC 30 32 33 34 36 37 38 39 40 m B) : BkC 63 65 66 67 69 70 71 72 73 (bkCpd m B.1) B := by
  refine ⟨by simp [bkCpd, cpyB, cpyI, setI], fun k hk => ?_, fun k hk => ?_⟩
  · have h1 := h.2.1 k hk
    simp [bkCpd, cpyB, cpyI, setI, hk]; exact h1
  · have h1 := h.2.2 k hk
    simp [bkCpd, cpyB, cpyI, setI, hk]; exact h1
theorem bkCpd_fr (m : Mem) (n : Nat) : Fr (fun o => decide (63 ≤ o ∧ o ≤ 63 + 10)) m (bkCpd m n) := by
  unfold bkCpd cpyB
  refine Fr.cpy (Fr.cpy (Fr.cpy (Fr.cpy (Fr.cpy (Fr.cpy (Fr.cpy (Fr.cpy (Fr.set Fr.rf ?_) ?_) ?_) ?_) ?_) ?_) ?_) ?_) ?_ <;> rfl
theorem c_X0_copyd {Γ : GX} {m : Mem} {B : Bk} {o d : Nat} (hPO : PO o d m) (hB : BkC 30 32 33 34 36 37 38 39 40 m B) (hn : B.1 ≤ 40) : C Γ mX0_copy 1 60 0 0 [vr 63, vr 30] SH m (Qv SH (bkCpd m B.1)) := by
  refine C_of_R rfl (Nat.le_of_ble_eq_true rfl) ?_
  have h0 := hB.1
  have hP := hPO.2
  refine R_aload_n 1 rfl dX0_copy_0 rfl ?_
  refine R_aload_n 2 rfl dX0_copy_1 rfl ?_
  refine R_getI 0 5 rfl dX0_copy_2 rfl rfl fl_X0_9 ?_
  rw [h0]
  refine R_putI 0 8 rfl dX0_copy_5 rfl rfl fl_X0_9 ?_
  refine R_iconst 9 rfl dX0_copy_8 ?_
  refine R_istore_n [_, _, _] 10 rfl dX0_copy_9 rfl (by decide) ?_
  refine R_iload_n 11 rfl dX0_copy_10 rfl ?_
  refine R_aload_n 12 rfl dX0_copy_11 rfl ?_
  refine R_getP 1 15 rfl dX0_copy_12 rfl rfl fl_X0_17 (hP _ _ _ rfl) ?_
  refine R_alen 16 rfl dX0_copy_15 rfl rfl ?_
  refine R_icmp_ge 19 46 rfl rfl dX0_copy_16 (by first | assumption | exact ⟨by omega, by omega⟩) (by first | assumption | exact ⟨by omega, by omega⟩) (fun h16 => ?_) (fun h16 => ?_)
  · exact absurd h16 (by omega)
  refine R_aload_n 20 rfl dX0_copy_19 rfl ?_
  refine R_getP 1 23 rfl dX0_copy_20 rfl rfl fl_X0_17 (hP _ _ _ rfl) ?_
  refine R_iload_n 24 rfl dX0_copy_23 rfl ?_
  refine R_aald 0 25 rfl dX0_copy_24 rfl rfl (by first | rfl | omega) (by decide) (by decide) (hP _ _ _ rfl) ?_
  refine R_iconst 26 rfl dX0_copy_25 ?_
  refine R_aload_n 27 rfl dX0_copy_26 rfl ?_
  refine R_getP 1 30 rfl dX0_copy_27 rfl rfl fl_X0_17 (hP _ _ _ rfl) ?_
  refine R_iload_n 31 rfl dX0_copy_30 rfl ?_
  refine R_aald 0 32 rfl dX0_copy_31 rfl rfl (by first | rfl | omega) (by decide) (by decide) (hP _ _ _ rfl) ?_
  refine R_iconst 33 rfl dX0_copy_32 ?_
  refine R_aload_n 34 rfl dX0_copy_33 rfl ?_
  refine R_getI 0 37 rfl dX0_copy_34 rfl rfl fl_X0_9 ?_
  refine R_acopy 0 0 B.1 40 rfl dX0_copy_37 ml_X0_27 rfl rfl (by first | rfl | (simp [cpyI, setI])) (by first | rfl | (simp [cpyI, setI])) (by first | rfl | (simp [cpyI, setI])) (by omega) (by omega) (by decide) (Nat.le_of_ble_eq_true rfl) ⟨Nat.le_of_ble_eq_true rfl, Nat.le_of_ble_eq_true rfl⟩ ?_
  refine R_iinc [_, _, _] 43 rfl dX0_copy_40 rfl rfl (by decide) ?_
  refine R_goto 10 rfl dX0_copy_43 ?_
  refine R_iload_n 11 rfl dX0_copy_10 rfl ?_
  refine R_aload_n 12 rfl dX0_copy_11 rfl ?_
  refine R_getP 1 15 rfl dX0_copy_12 rfl rfl fl_X0_17 (hP _ _ _ rfl) ?_
  refine R_alen 16 rfl dX0_copy_15 rfl rfl ?_
  refine R_icmp_ge 19 46 rfl rfl dX0_copy_16 (by first | assumption | exact ⟨by omega, by omega⟩) (by first | assumption | exact ⟨by omega, by omega⟩) (fun h16 => ?_) (fun h16 => ?_)
  · exact absurd h16 (by omega)
  refine R_aload_n 20 rfl dX0_copy_19 rfl ?_
  refine R_getP 1 23 rfl dX0_copy_20 rfl rfl fl_X0_17 (hP _ _ _ rfl) ?_
  refine R_iload_n 24 rfl dX0_copy_23 rfl ?_
  refine R_aald 1 25 rfl dX0_copy_24 rfl rfl (by first | rfl | omega) (by decide) (by decide) (hP _ _ _ rfl) ?_
  refine R_iconst 26 rfl dX0_copy_25 ?_
  refine R_aload_n 27 rfl dX0_copy_26 rfl ?_
  refine R_getP 1 30 rfl dX0_copy_27 rfl rfl fl_X0_17 (hP _ _ _ rfl) ?_
  refine R_iload_n 31 rfl dX0_copy_30 rfl ?_
  refine R_aald 1 32 rfl dX0_copy_31 rfl rfl (by first | rfl | omega) (by decide) (by decide) (hP _ _ _ rfl) ?_
  refine R_iconst 33 rfl dX0_copy_32 ?_
  refine R_aload_n 34 rfl dX0_copy_33 rfl ?_
  refine R_getI 0 37 rfl dX0_copy_34 rfl rfl fl_X0_9 ?_
  refine R_acopy 0 0 B.1 40 rfl dX0_copy_37 ml_X0_27 rfl rfl (by first | rfl | (simp [cpyI, setI])) (by first | rfl | (simp [cpyI, setI])) (by first | rfl | (simp [cpyI, setI])) (by omega) (by omega) (by decide) (Nat.le_of_ble_eq_true rfl) ⟨Nat.le_of_ble_eq_true rfl, Nat.le_of_ble_eq_true rfl⟩ ?_
  refine R_iinc [_, _, _] 43 rfl dX0_copy_40 rfl rfl (by decide) ?_
  refine R_goto 10 rfl dX0_copy_43 ?_
  refine R_iload_n 11 rfl dX0_copy_10 rfl ?_
  refine R_aload_n 12 rfl dX0_copy_11 rfl ?_
  refine R_getP 1 15 rfl dX0_copy_12 rfl rfl fl_X0_17 (hP _ _ _ rfl) ?_
  refine R_alen 16 rfl dX0_copy_15 rfl rfl ?_
  refine R_icmp_ge 19 46 rfl rfl dX0_copy_16 (by first | assumption | exact ⟨by omega, by omega⟩) (by first | assumption | exact ⟨by omega, by omega⟩) (fun h16 => ?_) (fun h16 => ?_)
  · exact absurd h16 (by omega)
  refine R_aload_n 20 rfl dX0_copy_19 rfl ?_
  refine R_getP 1 23 rfl dX0_copy_20 rfl rfl fl_X0_17 (hP _ _ _ rfl) ?_
  refine R_iload_n 24 rfl dX0_copy_23 rfl ?_
  refine R_aald 2 25 rfl dX0_copy_24 rfl rfl (by first | rfl | omega) (by decide) (by decide) (hP _ _ _ rfl) ?_
  refine R_iconst 26 rfl dX0_copy_25 ?_
  refine R_aload_n 27 rfl dX0_copy_26 rfl ?_
  refine R_getP 1 30 rfl dX0_copy_27 rfl rfl fl_X0_17 (hP _ _ _ rfl) ?_
  refine R_iload_n 31 rfl dX0_copy_30 rfl ?_
  refine R_aald 2 32 rfl dX0_copy_31 rfl rfl (by first | rfl | omega) (by decide) (by decide) (hP _ _ _ rfl) ?_
  refine R_iconst 33 rfl dX0_copy_32 ?_
  refine R_aload_n 34 rfl dX0_copy_33 rfl ?_
  refine R_getI 0 37 rfl dX0_copy_34 rfl rfl fl_X0_9 ?_
  refine R_acopy 0 0 B.1 40 rfl dX0_copy_37 ml_X0_27 rfl rfl (by first | rfl | (simp [cpyI, setI])) (by first | rfl | (simp [cpyI, setI])) (by first | rfl | (simp [cpyI, setI])) (by omega) (by omega) (by decide) (Nat.le_of_ble_eq_true rfl) ⟨Nat.le_of_ble_eq_true rfl, Nat.le_of_ble_eq_true rfl⟩ ?_
  refine R_iinc [_, _, _] 43 rfl dX0_copy_40 rfl rfl (by decide) ?_
  refine R_goto 10 rfl dX0_copy_43 ?_
  refine R_iload_n 11 rfl dX0_copy_10 rfl ?_
  refine R_aload_n 12 rfl dX0_copy_11 rfl ?_
  refine R_getP 1 15 rfl dX0_copy_12 rfl rfl fl_X0_17 (hP _ _ _ rfl) ?_
  refine R_alen 16 rfl dX0_copy_15 rfl rfl ?_
  refine R_icmp_ge 19 46 rfl rfl dX0_copy_16 (by first | assumption | exact ⟨by omega, by omega⟩) (by first | assumption | exact ⟨by omega, by omega⟩) (fun h16 => ?_) (fun h16 => ?_)
  rotate_left
  · exact absurd h16 (by omega)
  refine R_iconst 47 rfl dX0_copy_46 ?_
  refine R_istore_n [_, _, _] 48 rfl dX0_copy_47 rfl (by decide) ?_
  refine R_iload_n 49 rfl dX0_copy_48 rfl ?_
  refine R_aload_n 50 rfl dX0_copy_49 rfl ?_
  refine R_getP 2 53 rfl dX0_copy_50 rfl rfl fl_X0_20 (hP _ _ _ rfl) ?_
  refine R_alen 54 rfl dX0_copy_53 rfl rfl ?_
  refine R_icmp_ge 57 86 rfl rfl dX0_copy_54 (by first | assumption | exact ⟨by omega, by omega⟩) (by first | assumption | exact ⟨by omega, by omega⟩) (fun h54 => ?_) (fun h54 => ?_)
  · exact absurd h54 (by omega)
  refine R_aload_n 58 rfl dX0_copy_57 rfl ?_
  refine R_getP 2 61 rfl dX0_copy_58 rfl rfl fl_X0_20 (hP _ _ _ rfl) ?_
  refine R_iload_n 62 rfl dX0_copy_61 rfl ?_
  refine R_aald 0 63 rfl dX0_copy_62 rfl rfl (by first | rfl | omega) (by decide) (by decide) (hP _ _ _ rfl) ?_
  refine R_iconst 64 rfl dX0_copy_63 ?_
  refine R_aload_n 65 rfl dX0_copy_64 rfl ?_
  refine R_getP 2 68 rfl dX0_copy_65 rfl rfl fl_X0_20 (hP _ _ _ rfl) ?_
  refine R_iload_n 69 rfl dX0_copy_68 rfl ?_
  refine R_aald 0 70 rfl dX0_copy_69 rfl rfl (by first | rfl | omega) (by decide) (by decide) (hP _ _ _ rfl) ?_
  refine R_iconst 71 rfl dX0_copy_70 ?_
  refine R_iconst 72 rfl dX0_copy_71 ?_
  refine R_aload_n 73 rfl dX0_copy_72 rfl ?_
  refine R_getI 0 76 rfl dX0_copy_73 rfl rfl fl_X0_9 ?_
  refine R_imul 77 rfl dX0_copy_76 ?_
  refine R_acopy 0 0 (2 * B.1) 80 rfl dX0_copy_77 ml_X0_27 rfl rfl (by first | rfl | (simp [cpyI, setI])) (by first | rfl | (simp [cpyI, setI])) (by first | rfl | (simp [cpyI, setI])) (by omega) (by omega) (by decide) (Nat.le_of_ble_eq_true rfl) ⟨Nat.le_of_ble_eq_true rfl, Nat.le_of_ble_eq_true rfl⟩ ?_
  refine R_iinc [_, _, _] 83 rfl dX0_copy_80 rfl rfl (by decide) ?_
  refine R_goto 48 rfl dX0_copy_83 ?_
  refine R_iload_n 49 rfl dX0_copy_48 rfl ?_
  refine R_aload_n 50 rfl dX0_copy_49 rfl ?_
  refine R_getP 2 53 rfl dX0_copy_50 rfl rfl fl_X0_20 (hP _ _ _ rfl) ?_
  refine R_alen 54 rfl dX0_copy_53 rfl rfl ?_
  refine R_icmp_ge 57 86 rfl rfl dX0_copy_54 (by first | assumption | exact ⟨by omega, by omega⟩) (by first | assumption | exact ⟨by omega, by omega⟩) (fun h54 => ?_) (fun h54 => ?_)
  · exact absurd h54 (by omega)
  refine R_aload_n 58 rfl dX0_copy_57 rfl ?_
  refine R_getP 2 61 rfl dX0_copy_58 rfl rfl fl_X0_20 (hP _ _ _ rfl) ?_
  refine R_iload_n 62 rfl dX0_copy_61 rfl ?_
  refine R_aald 1 63 rfl dX0_copy_62 rfl rfl (by first | rfl | omega) (by decide) (by decide) (hP _ _ _ rfl) ?_
  refine R_iconst 64 rfl dX0_copy_63 ?_
  refine R_aload_n 65 rfl dX0_copy_64 rfl ?_
  refine R_getP 2 68 rfl dX0_copy_65 rfl rfl fl_X0_20 (hP _ _ _ rfl) ?_
  refine R_iload_n 69 rfl dX0_copy_68 rfl ?_
  refine R_aald 1 70 rfl dX0_copy_69 rfl rfl (by first | rfl | omega) (by decide) (by decide) (hP _ _ _ rfl) ?_
  refine R_iconst 71 rfl dX0_copy_70 ?_
  refine R_iconst 72 rfl dX0_copy_71 ?_
  refine R_aload_n 73 rfl dX0_copy_72 rfl ?_
  refine R_getI 0 76 rfl dX0_copy_73 rfl rfl fl_X0_9 ?_
  refine R_imul 77 rfl dX0_copy_76 ?_
  refine R_acopy 0 0 (2 * B.1) 80 rfl dX0_copy_77 ml_X0_27 rfl rfl (by first | rfl | (simp [cpyI, setI])) (by first | rfl | (simp [cpyI, setI])) (by first | rfl | (simp [cpyI, setI])) (by omega) (by omega) (by decide) (Nat.le_of_ble_eq_true rfl) ⟨Nat.le_of_ble_eq_true rfl, Nat.le_of_ble_eq_true rfl⟩ ?_
  refine R_iinc [_, _, _] 83 rfl dX0_copy_80 rfl rfl (by decide) ?_
  refine R_goto 48 rfl dX0_copy_83 ?_
  refine R_iload_n 49 rfl dX0_copy_48 rfl ?_
  refine R_aload_n 50 rfl dX0_copy_49 rfl ?_
  refine R_getP 2 53 rfl dX0_copy_50 rfl rfl fl_X0_20 (hP _ _ _ rfl) ?_
  refine R_alen 54 rfl dX0_copy_53 rfl rfl ?_
  refine R_icmp_ge 57 86 rfl rfl dX0_copy_54 (by first | assumption | exact ⟨by omega, by omega⟩) (by first | assumption | exact ⟨by omega, by omega⟩) (fun h54 => ?_) (fun h54 => ?_)
  · exact absurd h54 (by omega)
  refine R_aload_n 58 rfl dX0_copy_57 rfl ?_
  refine R_getP 2 61 rfl dX0_copy_58 rfl rfl fl_X0_20 (hP _ _ _ rfl) ?_
  refine R_iload_n 62 rfl dX0_copy_61 rfl ?_
  refine R_aald 2 63 rfl dX0_copy_62 rfl rfl (by first | rfl | omega) (by decide) (by decide) (hP _ _ _ rfl) ?_
  refine R_iconst 64 rfl dX0_copy_63 ?_
  refine R_aload_n 65 rfl dX0_copy_64 rfl ?_
  refine R_getP 2 68 rfl dX0_copy_65 rfl rfl fl_X0_20 (hP _ _ _ rfl) ?_
  refine R_iload_n 69 rfl dX0_copy_68 rfl ?_
  refine R_aald 2 70 rfl dX0_copy_69 rfl rfl (by first | rfl | omega) (by decide) (by decide) (hP _ _ _ rfl) ?_
  refine R_iconst 71 rfl dX0_copy_70 ?_
  refine R_iconst 72 rfl dX0_copy_71 ?_
  refine R_aload_n 73 rfl dX0_copy_72 rfl ?_
  refine R_getI 0 76 rfl dX0_copy_73 rfl rfl fl_X0_9 ?_
  refine R_imul 77 rfl dX0_copy_76 ?_
  refine R_acopy 0 0 (2 * B.1) 80 rfl dX0_copy_77 ml_X0_27 rfl rfl (by first | rfl | (simp [cpyI, setI])) (by first | rfl | (simp [cpyI, setI])) (by first | rfl | (simp [cpyI, setI])) (by omega) (by omega) (by decide) (Nat.le_of_ble_eq_true rfl) ⟨Nat.le_of_ble_eq_true rfl, Nat.le_of_ble_eq_true rfl⟩ ?_
  refine R_iinc [_, _, _] 83 rfl dX0_copy_80 rfl rfl (by decide) ?_
  refine R_goto 48 rfl dX0_copy_83 ?_
  refine R_iload_n 49 rfl dX0_copy_48 rfl ?_
  refine R_aload_n 50 rfl dX0_copy_49 rfl ?_
  refine R_getP 2 53 rfl dX0_copy_50 rfl rfl fl_X0_20 (hP _ _ _ rfl) ?_
  refine R_alen 54 rfl dX0_copy_53 rfl rfl ?_
  refine R_icmp_ge 57 86 rfl rfl dX0_copy_54 (by first | assumption | exact ⟨by omega, by omega⟩) (by first | assumption | exact ⟨by omega, by omega⟩) (fun h54 => ?_) (fun h54 => ?_)
  · exact absurd h54 (by omega)
  refine R_aload_n 58 rfl dX0_copy_57 rfl ?_
  refine R_getP 2 61 rfl dX0_copy_58 rfl rfl fl_X0_20 (hP _ _ _ rfl) ?_
  refine R_iload_n 62 rfl dX0_copy_61 rfl ?_
  refine R_aald 3 63 rfl dX0_copy_62 rfl rfl (by first | rfl | omega) (by decide) (by decide) (hP _ _ _ rfl) ?_
  refine R_iconst 64 rfl dX0_copy_63 ?_
  refine R_aload_n 65 rfl dX0_copy_64 rfl ?_
  refine R_getP 2 68 rfl dX0_copy_65 rfl rfl fl_X0_20 (hP _ _ _ rfl) ?_
  refine R_iload_n 69 rfl dX0_copy_68 rfl ?_
  refine R_aald 3 70 rfl dX0_copy_69 rfl rfl (by first | rfl | omega) (by decide) (by decide) (hP _ _ _ rfl) ?_
  refine R_iconst 71 rfl dX0_copy_70 ?_
  refine R_iconst 72 rfl dX0_copy_71 ?_
  refine R_aload_n 73 rfl dX0_copy_72 rfl ?_
  refine R_getI 0 76 rfl dX0_copy_73 rfl rfl fl_X0_9 ?_
  refine R_imul 77 rfl dX0_copy_76 ?_
  refine R_acopy 0 0 (2 * B.1) 80 rfl dX0_copy_77 ml_X0_27 rfl rfl (by first | rfl | (simp [cpyI, setI])) (by first | rfl | (simp [cpyI, setI])) (by first | rfl | (simp [cpyI, setI])) (by omega) (by omega) (by decide) (Nat.le_of_ble_eq_true rfl) ⟨Nat.le_of_ble_eq_true rfl, Nat.le_of_ble_eq_true rfl⟩ ?_
  refine R_iinc [_, _, _] 83 rfl dX0_copy_80 rfl rfl (by decide) ?_
  refine R_goto 48 rfl dX0_copy_83 ?_
  refine R_iload_n 49 rfl dX0_copy_48 rfl ?_
  refine R_aload_n 50 rfl dX0_copy_49 rfl ?_
  refine R_getP 2 53 rfl dX0_copy_50 rfl rfl fl_X0_20 (hP _ _ _ rfl) ?_
  refine R_alen 54 rfl dX0_copy_53 rfl rfl ?_
  refine R_icmp_ge 57 86 rfl rfl dX0_copy_54 (by first | assumption | exact ⟨by omega, by omega⟩) (by first | assumption | exact ⟨by omega, by omega⟩) (fun h54 => ?_) (fun h54 => ?_)
  · exact absurd h54 (by omega)
  refine R_aload_n 58 rfl dX0_copy_57 rfl ?_
  refine R_getP 2 61 rfl dX0_copy_58 rfl rfl fl_X0_20 (hP _ _ _ rfl) ?_
  refine R_iload_n 62 rfl dX0_copy_61 rfl ?_
  refine R_aald 4 63 rfl dX0_copy_62 rfl rfl (by first | rfl | omega) (by decide) (by decide) (hP _ _ _ rfl) ?_
  refine R_iconst 64 rfl dX0_copy_63 ?_
  refine R_aload_n 65 rfl dX0_copy_64 rfl ?_
  refine R_getP 2 68 rfl dX0_copy_65 rfl rfl fl_X0_20 (hP _ _ _ rfl) ?_
  refine R_iload_n 69 rfl dX0_copy_68 rfl ?_
  refine R_aald 4 70 rfl dX0_copy_69 rfl rfl (by first | rfl | omega) (by decide) (by decide) (hP _ _ _ rfl) ?_
  refine R_iconst 71 rfl dX0_copy_70 ?_
  refine R_iconst 72 rfl dX0_copy_71 ?_
  refine R_aload_n 73 rfl dX0_copy_72 rfl ?_
  refine R_getI 0 76 rfl dX0_copy_73 rfl rfl fl_X0_9 ?_
  refine R_imul 77 rfl dX0_copy_76 ?_
  refine R_acopy 0 0 (2 * B.1) 80 rfl dX0_copy_77 ml_X0_27 rfl rfl (by first | rfl | (simp [cpyI, setI])) (by first | rfl | (simp [cpyI, setI])) (by first | rfl | (simp [cpyI, setI])) (by omega) (by omega) (by decide) (Nat.le_of_ble_eq_true rfl) ⟨Nat.le_of_ble_eq_true rfl, Nat.le_of_ble_eq_true rfl⟩ ?_
  refine R_iinc [_, _, _] 83 rfl dX0_copy_80 rfl rfl (by decide) ?_
  refine R_goto 48 rfl dX0_copy_83 ?_
  refine R_iload_n 49 rfl dX0_copy_48 rfl ?_
  refine R_aload_n 50 rfl dX0_copy_49 rfl ?_
  refine R_getP 2 53 rfl dX0_copy_50 rfl rfl fl_X0_20 (hP _ _ _ rfl) ?_
  refine R_alen 54 rfl dX0_copy_53 rfl rfl ?_
  refine R_icmp_ge 57 86 rfl rfl dX0_copy_54 (by first | assumption | exact ⟨by omega, by omega⟩) (by first | assumption | exact ⟨by omega, by omega⟩) (fun h54 => ?_) (fun h54 => ?_)
  rotate_left
  · exact absurd h54 (by omega)
  refine R_return dX0_copy_86 rfl ?_
  exact Qv_mk rfl
def isNm (B : Bk) (p : Int) (k : Nat) : Bool := decide (B.2.2 3 k = p ∧ B.2.2 0 k = 1)
def wIn (B : Bk) (p : Int) (a : Nat) : Nat → Int → Int
  | 0, v => v
  | b + 1, v => if isNm B p a = true ∧ isNm B p b = true then max (wIn B p a b v) (ap (B.2.2 2 a) (B.2.2 2 b)) else wIn B p a b v
def wOut (B : Bk) (p : Int) : Nat → Int → Int
  | 0, v => v
  | a + 1, v => wIn B p a a (wOut B p a v)
theorem wIn_no {B : Bk} {p : Int} {a : Nat} (h : ¬ isNm B p a = true) : ∀ (b : Nat) (v : Int), wIn B p a b v = v
  | 0, v => rfl
  | b + 1, v => by
    unfold wIn
    rw [if_neg (fun q => h q.1)]
    exact wIn_no h b v
theorem wIn_rg {B : Bk} {p : Int} {a : Nat} : ∀ (b : Nat) (v : Int), v ≤ wIn B p a b v ∧ (wIn B p a b v = v ∨ wIn B p a b v ≤ 12)
  | 0, v => ⟨Int.le_refl v, Or.inl rfl⟩
  | b + 1, v => by
    have h := wIn_rg (B := B) (p := p) (a := a) b v
    have h2 := ap_rg (B.2.2 2 a) (B.2.2 2 b)
    unfold wIn
    split <;> omega
theorem wOut_rg {B : Bk} {p : Int} : ∀ (a : Nat) (v : Int), v ≤ wOut B p a v ∧ (wOut B p a v = v ∨ wOut B p a v ≤ 12)
  | 0, v => ⟨Int.le_refl v, Or.inl rfl⟩
  | a + 1, v => by
    have h := wOut_rg (B := B) (p := p) a v
    have h2 := wIn_rg (B := B) (p := p) (a := a) a (wOut B p a v)
    unfold wOut
    omega
section
variable {Γ : GX} {m : Mem} {B : Bk} {np : Int} {o d : Nat}
theorem c_X0_mostApart (p : Int) (hPO : PO o d m) (hB : Bk0 m B) (hO : BkOk np B) (hp : rg p) : C Γ mX0_mostApart 2 80 0 0 [vr 30, vi p] SH m (Qi SH m (wOut B p (2 * B.1) 0)) := by
  refine C_of_R rfl (Nat.le_of_ble_eq_true rfl) ?_
  have h3 := hO.1
  have hP := hPO.2
  have L1 : ∀ a, a ≤ 2 * B.1 → ∀ v z w4, v = wOut B p a 0 → z = (a : Int) → R Γ mX0_mostApart { frames := 2, cells := 0, slots := 0, locals := 80 } 0 0 (Qi SH m (wOut B p (2 * B.1) 0)) 0 0 4 [some (vr 30), some (vi p), some (vi v), some (vi z), w4] [] SH m := by
    refine up_ind (2 * B.1) (fun a ha ih v z w4 hv hz => ?_)
    have h4 := wOut_rg (B := B) (p := p) a 0
    have L2 : a < 2 * B.1 → ∀ b, b ≤ a → ∀ v y, v = wIn B p a b (wOut B p a 0) → y = (b : Int) → R Γ mX0_mostApart { frames := 2, cells := 0, slots := 0, locals := 80 } 0 0 (Qi SH m (wOut B p (2 * B.1) 0)) 0 0 15 [some (vr 30), some (vi p), some (vi v), some (vi z), some (vi y)] [] SH m := by
      intro hlt
      have h8 := hB.2.2 a hlt
      have h9 := hO.2.2 a hlt
      refine up_ind a (fun b hb ih2 v y hv hy => ?_)
      have h5 := wIn_rg (B := B) (p := p) (a := a) b (wOut B p a 0)
      refine R_iload 17 rfl dX0_mostApart_15 rfl ?_
      refine R_iload_n 18 rfl dX0_mostApart_17 rfl ?_
      refine R_icmp_ge 21 73 rfl rfl dX0_mostApart_18 (by first | assumption | exact ⟨by omega, by omega⟩) (by first | assumption | exact ⟨by omega, by omega⟩) (fun h18 => ?_) (fun h18 => ?_)
      · refine R_iinc [_, _, _, _, _] 76 rfl dX0_mostApart_73 rfl rfl (by decide) ?_
        refine R_goto 4 rfl dX0_mostApart_76 ?_
        first | exact ih (by omega) _ _ _ (by rw [hv, show b = a by omega]; rfl) (by omega) | exact ih (by omega) _ _ _ (by have hw : ¬ isNm B p a = true := (by simp [isNm]; omega); rw [hv, wIn_no hw]; show wOut B p a 0 = wIn B p a a (wOut B p a 0); rw [wIn_no hw]) (by omega)
      · refine R_aload_n 22 rfl dX0_mostApart_21 rfl ?_
        refine R_iload_n 23 rfl dX0_mostApart_22 rfl ?_
        refine R_iload_n 24 rfl dX0_mostApart_23 rfl ?_
        refine R_iconst 25 rfl dX0_mostApart_24 ?_
        refine R_callV_i (M' := mX0_isOf) 28 rfl dX0_mostApart_25 ml_X0_37 kmX0_isOf im_X0_isOf se_X0_isOf rfl ⟨by decide, rfl⟩ (c_X0_isOf _ _ _ a hPO hB hO (by omega) (by omega) hp ⟨by omega, by omega⟩) rfl rfl ⟨Nat.le_of_ble_eq_true rfl, Nat.le_of_ble_eq_true rfl⟩ (Nat.le_of_ble_eq_true rfl) ⟨Nat.le_of_ble_eq_true rfl, Nat.le_of_ble_eq_true rfl⟩ ?_
        refine R_ifp_eq 31 73 rfl rfl dX0_mostApart_28 (fun h28 => ?_) (fun h28 => ?_)
        · refine R_iinc [_, _, _, _, _] 76 rfl dX0_mostApart_73 rfl rfl (by decide) ?_
          refine R_goto 4 rfl dX0_mostApart_76 ?_
          first | exact ih (by omega) _ _ _ (by rw [hv, show b = a by omega]; rfl) (by omega) | exact ih (by omega) _ _ _ (by have hw : ¬ isNm B p a = true := (by simp [isNm]; omega); rw [hv, wIn_no hw]; show wOut B p a 0 = wIn B p a a (wOut B p a 0); rw [wIn_no hw]) (by omega)
        · have h6 := hB.2.2 b (by omega)
          have h7 := hO.2.2 b (by omega)
          refine R_aload_n 32 rfl dX0_mostApart_31 rfl ?_
          refine R_iload 34 rfl dX0_mostApart_32 rfl ?_
          refine R_iload_n 35 rfl dX0_mostApart_34 rfl ?_
          refine R_iconst 36 rfl dX0_mostApart_35 ?_
          refine R_callV_i (M' := mX0_isOf) 39 rfl dX0_mostApart_36 ml_X0_37 kmX0_isOf im_X0_isOf se_X0_isOf rfl ⟨by decide, rfl⟩ (c_X0_isOf _ _ _ b hPO hB hO (by omega) (by omega) hp ⟨by omega, by omega⟩) rfl rfl ⟨Nat.le_of_ble_eq_true rfl, Nat.le_of_ble_eq_true rfl⟩ (Nat.le_of_ble_eq_true rfl) ⟨Nat.le_of_ble_eq_true rfl, Nat.le_of_ble_eq_true rfl⟩ ?_
          refine R_ifp_eq 42 67 rfl rfl dX0_mostApart_39 (fun h39 => ?_) (fun h39 => ?_)
          · refine R_iinc [_, _, _, _, _] 70 rfl dX0_mostApart_67 rfl rfl (by decide) ?_
            refine R_goto 15 rfl dX0_mostApart_70 ?_
            first | exact ih2 (by omega) _ _ (by unfold wIn; rw [if_pos (by simp [isNm]; omega), hv, h8.2.2.1, h6.2.2.1]) (by omega) | exact ih2 (by omega) _ _ (by unfold wIn; rw [if_neg (by simp [isNm]; omega), hv]) (by omega)
          · have h11 := ap_rg (m.1 38 a) (m.1 38 b)
            refine R_iload_n 43 rfl dX0_mostApart_42 rfl ?_
            refine R_aload_n 44 rfl dX0_mostApart_43 rfl ?_
            refine R_getP 2 47 rfl dX0_mostApart_44 rfl rfl fl_X0_20 (hP _ _ _ rfl) ?_
            refine R_iconst 48 rfl dX0_mostApart_47 ?_
            refine R_aald 2 49 rfl dX0_mostApart_48 rfl rfl (by first | rfl | omega) (by decide) (by decide) (hP _ _ _ rfl) ?_
            refine R_iload_n 50 rfl dX0_mostApart_49 rfl ?_
            refine R_iald a 51 rfl dX0_mostApart_50 rfl (by first | rfl | omega) (by omega) (by decide) ?_
            refine R_aload_n 52 rfl dX0_mostApart_51 rfl ?_
            refine R_getP 2 55 rfl dX0_mostApart_52 rfl rfl fl_X0_20 (hP _ _ _ rfl) ?_
            refine R_iconst 56 rfl dX0_mostApart_55 ?_
            refine R_aald 2 57 rfl dX0_mostApart_56 rfl rfl (by first | rfl | omega) (by decide) (by decide) (hP _ _ _ rfl) ?_
            refine R_iload 59 rfl dX0_mostApart_57 rfl ?_
            refine R_iald b 60 rfl dX0_mostApart_59 rfl (by first | rfl | omega) (by omega) (by decide) ?_
            refine R_callN_i (M' := mX10_bitsApart) 63 rfl dX0_mostApart_60 mn_X0_54 kmX10_bitsApart st_X10_bitsApart (c_X10_bitsApart _ _ (by omega) (by omega)) rfl rfl ⟨Nat.le_of_ble_eq_true rfl, Nat.le_of_ble_eq_true rfl⟩ (Nat.le_of_ble_eq_true rfl) ⟨Nat.le_of_ble_eq_true rfl, Nat.le_of_ble_eq_true rfl⟩ ?_
            refine R_max 66 rfl dX0_mostApart_63 ml_X0_51 (by first | assumption | exact ⟨by omega, by omega⟩) (by first | assumption | exact ⟨by omega, by omega⟩) ⟨Nat.le_of_ble_eq_true rfl, Nat.le_of_ble_eq_true rfl⟩ ⟨Nat.le_of_ble_eq_true rfl, Nat.le_of_ble_eq_true rfl⟩ ?_
            refine R_istore_n [_, _, _, _, _] 67 rfl dX0_mostApart_66 rfl (by decide) ?_
            refine R_iinc [_, _, _, _, _] 70 rfl dX0_mostApart_67 rfl rfl (by decide) ?_
            refine R_goto 15 rfl dX0_mostApart_70 ?_
            first | exact ih2 (by omega) _ _ (by unfold wIn; rw [if_pos (by simp [isNm]; omega), hv, h8.2.2.1, h6.2.2.1]) (by omega) | exact ih2 (by omega) _ _ (by unfold wIn; rw [if_neg (by simp [isNm]; omega), hv]) (by omega)
    refine R_iload_n 5 rfl dX0_mostApart_4 rfl ?_
    refine R_aload_n 6 rfl dX0_mostApart_5 rfl ?_
    refine R_callV_i (M' := mX0_marks) 9 rfl dX0_mostApart_6 ml_X0_33 kmX0_marks im_X0_marks se_X0_marks rfl ⟨by decide, rfl⟩ (c_X0_marks hB) rfl rfl ⟨Nat.le_of_ble_eq_true rfl, Nat.le_of_ble_eq_true rfl⟩ (Nat.le_of_ble_eq_true rfl) ⟨Nat.le_of_ble_eq_true rfl, Nat.le_of_ble_eq_true rfl⟩ ?_
    refine R_icmp_ge 12 79 rfl rfl dX0_mostApart_9 (by first | assumption | exact ⟨by omega, by omega⟩) (by first | assumption | exact ⟨by omega, by omega⟩) (fun h9 => ?_) (fun h9 => ?_)
    · refine R_iload_n 80 rfl dX0_mostApart_79 rfl ?_
      refine R_ireturn dX0_mostApart_80 rfl ?_
      exact Qi_mk (by rw [hv, show a = 2 * B.1 by omega])
    · refine R_iconst 13 rfl dX0_mostApart_12 ?_
      refine R_istore [_, _, _, _, _] 15 rfl dX0_mostApart_13 rfl (by decide) ?_
      exact L2 (by omega) 0 (by omega) _ _ hv rfl
  refine R_iconst 1 rfl dX0_mostApart_0 ?_
  refine R_istore_n [_, _, _, _, _] 2 rfl dX0_mostApart_1 rfl (by decide) ?_
  refine R_iconst 3 rfl dX0_mostApart_2 ?_
  refine R_istore_n [_, _, _, _, _] 4 rfl dX0_mostApart_3 rfl (by decide) ?_
  exact L1 0 (by omega) _ _ _ rfl rfl
end
