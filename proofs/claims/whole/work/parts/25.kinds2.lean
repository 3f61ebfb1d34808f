def dP1 (L : Ld) (B : Bk) (k j : Nat) : Bool := sameP L B k j && !decide (j / 2 = k / 2)
def dP2 (L : Ld) (B : Bk) (k j : Nat) : Bool := !sameP L B k j || decide (ap (B.2.2 2 j) (B.2.2 2 k) ≤ L.1 6)
theorem sameP_iff {L : Ld} {B : Bk} {k j : Nat} : sameP L B k j = true ↔ (j ≠ k ∧ B.2.2 3 j = B.2.2 3 k ∧ B.2.2 0 j = 1 ∧ wr L B j = -4) := by
  simp only [sameP, ownN, Bool.and_eq_true, decide_eq_true_eq, Bool.not_eq_true', decide_eq_false_iff_not, and_assoc, ne_eq]
theorem drawn_iff {L : Ld} {B : Bk} {k : Nat} : drawn L B k = true ↔ (B.2.2 3 k ≠ 0 ∧ anyN (dP1 L B k) (2 * B.1) = true ∧ allN (dP2 L B k) (2 * B.1) = true) := by
  unfold drawn
  simp only [Bool.and_eq_true, decide_eq_true_eq, and_assoc]
  rfl
theorem any_s {p : Nat → Bool} {n : Nat} : anyN p (n + 1) = true ↔ (anyN p n = true ∨ p n = true) := by simp [anyN]
theorem all_s {p : Nat → Bool} {n : Nat} : allN p (n + 1) = true ↔ (allN p n = true ∧ p n = true) := by simp [allN]
theorem dP1_iff {L : Ld} {B : Bk} {k j : Nat} : dP1 L B k j = true ↔ (sameP L B k j = true ∧ ¬ j / 2 = k / 2) := by simp [dP1]
theorem dP2_y {L : Ld} {B : Bk} {k j : Nat} (h : sameP L B k j = true) : dP2 L B k j = true ↔ ap (B.2.2 2 j) (B.2.2 2 k) ≤ L.1 6 := by simp [dP2, h]
theorem dP2_n {L : Ld} {B : Bk} {k j : Nat} (h : ¬ sameP L B k j = true) : dP2 L B k j = true := by simp [dP2, h]
section
variable {Γ : GX} {m : Mem} {B : Bk} {L : Ld} {ch : Cs} {np : Int} {o d : Nat}
theorem c_X3_isDrawn (z : Int) (k : Nat) (hPO : PO o d m) (hk3 : m.2 41 3 = some 30) (hk4 : m.2 41 4 = some o) (hB : Bk0 m B) (hO : BkOk np B) (hL : LdC o m L) (hLO : LdOk L) (hW : ∀ j, j < 2 * B.1 → m.1 43 j = wr L B j) (hz : z = (k : Int)) (hk : k < 2 * B.1) : C Γ mX3_isDrawn 2 80 0 0 [vr 41, vi z] SH m (Qi SH m (pI (drawn L B k = true))) := by
  refine C_of_R rfl (Nat.le_of_ble_eq_true rfl) ?_
  subst hz
  have hP := hPO.2
  have h1 := hLO.1
  have h2 := hO.2.2 k hk
  have h5 := hO.1
  obtain ⟨s0, s1, e2, s3, s4⟩ := hB.2.2 k hk
  have Lp : ∀ j, j ≤ 2 * B.1 → ∀ e y, (B.2.2 3 k = 0 → j = 0) → allN (dP2 L B k) j = true → e = pI (anyN (dP1 L B k) j = true) → y = (j : Int) → R Γ mX3_isDrawn { frames := 2, cells := 0, slots := 0, locals := 80 } 0 0 (Qi SH m (pI (drawn L B k = true))) 0 0 17 [some (vr 41), some (vi (k : Int)), some (vi (B.2.2 3 k)), some (vi e), some (vi y)] [] SH m := by
    have hLC := hL
    rcases hL with ⟨rfl, hL⟩ | ⟨rfl, hL⟩
    all_goals
      have h6 := hL.1
      refine up_ind (2 * B.1) (fun j hj ih e y h0 ha he hy => ?_)
      have he01 : e = 0 ∨ e = 1 := by rw [he]; exact pI_01 _
      refine R_iload 19 rfl dX3_isDrawn_17 rfl ?_
      refine R_aload_n 20 rfl dX3_isDrawn_19 rfl ?_
      refine R_getP 3 23 rfl dX3_isDrawn_20 rfl rfl fl_X3_22 hk3 ?_
      refine R_callV_i (M' := mX0_marks) 26 rfl dX3_isDrawn_23 ml_X3_30 kmX0_marks im_X0_marks se_X0_marks rfl ⟨by decide, rfl⟩ (c_X0_marks hB) rfl rfl ⟨Nat.le_of_ble_eq_true rfl, Nat.le_of_ble_eq_true rfl⟩ (Nat.le_of_ble_eq_true rfl) ⟨Nat.le_of_ble_eq_true rfl, Nat.le_of_ble_eq_true rfl⟩ ?_
      refine R_icmp_ge 29 129 rfl rfl dX3_isDrawn_26 (by first | assumption | exact ⟨by omega, by omega⟩) (by first | assumption | exact ⟨by omega, by omega⟩) (fun h26 => ?_) (fun h26 => ?_)
      · refine R_iload_n 130 rfl dX3_isDrawn_129 rfl ?_
        refine R_zreturn dX3_isDrawn_130 rfl he01 ?_
        first | exact Qi_mk (by rw [he]; exact pI_congr ⟨fun q => drawn_iff.mpr ⟨by omega, by rw [show j = 2 * B.1 by omega] at q; exact q, by rw [show j = 2 * B.1 by omega] at ha; exact ha⟩, fun q => by rw [show j = 2 * B.1 by omega]; exact (drawn_iff.mp q).2.1⟩) | exact Qi_mk (by rw [he, h0 (by omega), pI_f (by simp [anyN])]; exact pI_0 (fun q => by have := (drawn_iff.mp q).1; omega))
      · refine R_iload_n 30 rfl dX3_isDrawn_29 rfl ?_
        refine R_if_eq 33 129 rfl rfl dX3_isDrawn_30 (by first | assumption | exact ⟨by omega, by omega⟩) (fun h30 => ?_) (fun h30 => ?_)
        · refine R_iload_n 130 rfl dX3_isDrawn_129 rfl ?_
          refine R_zreturn dX3_isDrawn_130 rfl he01 ?_
          first | exact Qi_mk (by rw [he]; exact pI_congr ⟨fun q => drawn_iff.mpr ⟨by omega, by rw [show j = 2 * B.1 by omega] at q; exact q, by rw [show j = 2 * B.1 by omega] at ha; exact ha⟩, fun q => by rw [show j = 2 * B.1 by omega]; exact (drawn_iff.mp q).2.1⟩) | exact Qi_mk (by rw [he, h0 (by omega), pI_f (by simp [anyN])]; exact pI_0 (fun q => by have := (drawn_iff.mp q).1; omega))
        · have h7 := hO.2.2 j (by omega)
          obtain ⟨t0, t1, t2, t3, t4⟩ := hB.2.2 j (by omega)
          have h8 := hW j (by omega)
          have h9 := wr_rg (L := L) (B := B) j
          refine R_iload 35 rfl dX3_isDrawn_33 rfl ?_
          refine R_iload_n 36 rfl dX3_isDrawn_35 rfl ?_
          refine R_icmp_eq 39 123 rfl rfl dX3_isDrawn_36 (by first | assumption | exact ⟨by omega, by omega⟩) (by first | assumption | exact ⟨by omega, by omega⟩) (fun h36 => ?_) (fun h36 => ?_)
          · refine R_iinc [_, _, _, _, _] 126 rfl dX3_isDrawn_123 rfl rfl (by decide) ?_
            refine R_goto 17 rfl dX3_isDrawn_126 ?_
            first | exact ih (by omega) _ _ (by omega) (all_s.mpr ⟨ha, (dP2_y h11).mpr (by omega)⟩) (pI_1 (any_s.mpr (Or.inr (dP1_iff.mpr ⟨h11, by omega⟩)))) (by omega) | exact ih (by omega) _ _ (by omega) (all_s.mpr ⟨ha, (dP2_y h11).mpr (by omega)⟩) (pI_1 (any_s.mpr (Or.inl (by by_cases q : anyN (dP1 L B k) j = true; exact q; rw [pI_f q] at he; omega)))) (by omega) | exact ih (by omega) _ _ (by omega) (all_s.mpr ⟨ha, (dP2_y h11).mpr (by omega)⟩) (pI_0 (fun q => by rcases any_s.mp q with q | q; (rw [pI_t q] at he; omega); exact absurd (dP1_iff.mp q).2 (by omega))) (by omega) | exact ih (by omega) _ _ (by omega) (all_s.mpr ⟨ha, dP2_n (fun q => by have := sameP_iff.mp q; omega)⟩) (by rw [he]; exact pI_congr ⟨fun q => any_s.mpr (Or.inl q), fun q => by rcases any_s.mp q with q | q; exact q; (have := sameP_iff.mp (dP1_iff.mp q).1; omega)⟩) (by omega)
          · refine R_aload_n 40 rfl dX3_isDrawn_39 rfl ?_
            refine R_getP 3 43 rfl dX3_isDrawn_40 rfl rfl fl_X3_22 hk3 ?_
            refine R_iload 45 rfl dX3_isDrawn_43 rfl ?_
            refine R_iload_n 46 rfl dX3_isDrawn_45 rfl ?_
            refine R_iconst 47 rfl dX3_isDrawn_46 ?_
            refine R_callV_i (M' := mX0_isOf) 50 rfl dX3_isDrawn_47 ml_X3_70 kmX0_isOf im_X0_isOf se_X0_isOf rfl ⟨by decide, rfl⟩ (c_X0_isOf _ _ _ j hPO hB hO (by omega) (by omega) ⟨by omega, by omega⟩ ⟨by omega, by omega⟩) rfl rfl ⟨Nat.le_of_ble_eq_true rfl, Nat.le_of_ble_eq_true rfl⟩ (Nat.le_of_ble_eq_true rfl) ⟨Nat.le_of_ble_eq_true rfl, Nat.le_of_ble_eq_true rfl⟩ ?_
            refine R_ifp_eq 53 123 rfl rfl dX3_isDrawn_50 (fun h50 => ?_) (fun h50 => ?_)
            · refine R_iinc [_, _, _, _, _] 126 rfl dX3_isDrawn_123 rfl rfl (by decide) ?_
              refine R_goto 17 rfl dX3_isDrawn_126 ?_
              first | exact ih (by omega) _ _ (by omega) (all_s.mpr ⟨ha, (dP2_y h11).mpr (by omega)⟩) (pI_1 (any_s.mpr (Or.inr (dP1_iff.mpr ⟨h11, by omega⟩)))) (by omega) | exact ih (by omega) _ _ (by omega) (all_s.mpr ⟨ha, (dP2_y h11).mpr (by omega)⟩) (pI_1 (any_s.mpr (Or.inl (by by_cases q : anyN (dP1 L B k) j = true; exact q; rw [pI_f q] at he; omega)))) (by omega) | exact ih (by omega) _ _ (by omega) (all_s.mpr ⟨ha, (dP2_y h11).mpr (by omega)⟩) (pI_0 (fun q => by rcases any_s.mp q with q | q; (rw [pI_t q] at he; omega); exact absurd (dP1_iff.mp q).2 (by omega))) (by omega) | exact ih (by omega) _ _ (by omega) (all_s.mpr ⟨ha, dP2_n (fun q => by have := sameP_iff.mp q; omega)⟩) (by rw [he]; exact pI_congr ⟨fun q => any_s.mpr (Or.inl q), fun q => by rcases any_s.mp q with q | q; exact q; (have := sameP_iff.mp (dP1_iff.mp q).1; omega)⟩) (by omega)
            · refine R_aload_n 54 rfl dX3_isDrawn_53 rfl ?_
              refine R_getP 2 57 rfl dX3_isDrawn_54 rfl rfl fl_X3_19 (hP _ _ _ rfl) ?_
              refine R_iload 59 rfl dX3_isDrawn_57 rfl ?_
              refine R_iald j 60 rfl dX3_isDrawn_59 rfl (by first | rfl | omega) (by omega) (by decide) ?_
              refine R_bipush 62 rfl dX3_isDrawn_60 (by decide) ?_
              refine R_icmp_ne 65 123 rfl rfl dX3_isDrawn_62 (by first | assumption | exact ⟨by omega, by omega⟩) (by first | assumption | exact ⟨by omega, by omega⟩) (fun h62 => ?_) (fun h62 => ?_)
              · refine R_iinc [_, _, _, _, _] 126 rfl dX3_isDrawn_123 rfl rfl (by decide) ?_
                refine R_goto 17 rfl dX3_isDrawn_126 ?_
                first | exact ih (by omega) _ _ (by omega) (all_s.mpr ⟨ha, (dP2_y h11).mpr (by omega)⟩) (pI_1 (any_s.mpr (Or.inr (dP1_iff.mpr ⟨h11, by omega⟩)))) (by omega) | exact ih (by omega) _ _ (by omega) (all_s.mpr ⟨ha, (dP2_y h11).mpr (by omega)⟩) (pI_1 (any_s.mpr (Or.inl (by by_cases q : anyN (dP1 L B k) j = true; exact q; rw [pI_f q] at he; omega)))) (by omega) | exact ih (by omega) _ _ (by omega) (all_s.mpr ⟨ha, (dP2_y h11).mpr (by omega)⟩) (pI_0 (fun q => by rcases any_s.mp q with q | q; (rw [pI_t q] at he; omega); exact absurd (dP1_iff.mp q).2 (by omega))) (by omega) | exact ih (by omega) _ _ (by omega) (all_s.mpr ⟨ha, dP2_n (fun q => by have := sameP_iff.mp q; omega)⟩) (by rw [he]; exact pI_congr ⟨fun q => any_s.mpr (Or.inl q), fun q => by rcases any_s.mp q with q | q; exact q; (have := sameP_iff.mp (dP1_iff.mp q).1; omega)⟩) (by omega)
              · refine R_aload_n 66 rfl dX3_isDrawn_65 rfl ?_
                refine R_getP 3 69 rfl dX3_isDrawn_66 rfl rfl fl_X3_22 hk3 ?_
                refine R_getP 2 72 rfl dX3_isDrawn_69 rfl rfl fl_X3_40 (hP _ _ _ rfl) ?_
                refine R_iconst 73 rfl dX3_isDrawn_72 ?_
                refine R_aald 2 74 rfl dX3_isDrawn_73 rfl rfl (by first | rfl | omega) (by decide) (by decide) (hP _ _ _ rfl) ?_
                refine R_iload 76 rfl dX3_isDrawn_74 rfl ?_
                refine R_iald j 77 rfl dX3_isDrawn_76 rfl (by first | rfl | omega) (by omega) (by decide) ?_
                refine R_aload_n 78 rfl dX3_isDrawn_77 rfl ?_
                refine R_getP 3 81 rfl dX3_isDrawn_78 rfl rfl fl_X3_22 hk3 ?_
                refine R_getP 2 84 rfl dX3_isDrawn_81 rfl rfl fl_X3_40 (hP _ _ _ rfl) ?_
                refine R_iconst 85 rfl dX3_isDrawn_84 ?_
                refine R_aald 2 86 rfl dX3_isDrawn_85 rfl rfl (by first | rfl | omega) (by decide) (by decide) (hP _ _ _ rfl) ?_
                refine R_iload_n 87 rfl dX3_isDrawn_86 rfl ?_
                refine R_iald k 88 rfl dX3_isDrawn_87 rfl (by first | rfl | omega) (by omega) (by decide) ?_
                rw [t2, e2]
                have h10 := ap_rg (B.2.2 2 j) (B.2.2 2 k)
                have h11 : sameP L B k j = true := sameP_iff.mpr ⟨by omega, by omega, by omega, by omega⟩
                refine R_callN_i (M' := mX10_bitsApart) 91 rfl dX3_isDrawn_88 mn_X3_74 kmX10_bitsApart st_X10_bitsApart (c_X10_bitsApart _ _ (by omega) (by omega)) rfl rfl ⟨Nat.le_of_ble_eq_true rfl, Nat.le_of_ble_eq_true rfl⟩ (Nat.le_of_ble_eq_true rfl) ⟨Nat.le_of_ble_eq_true rfl, Nat.le_of_ble_eq_true rfl⟩ ?_
                refine R_aload_n 92 rfl dX3_isDrawn_91 rfl ?_
                refine R_getP 4 95 rfl dX3_isDrawn_92 rfl rfl fl_X3_26 hk4 ?_
                refine R_getI 6 98 rfl dX3_isDrawn_95 rfl rfl fl_X3_78 ?_
                refine R_icmp_le 101 103 rfl rfl dX3_isDrawn_98 (by first | assumption | exact ⟨by omega, by omega⟩) (by first | assumption | exact ⟨by omega, by omega⟩) (fun h98 => ?_) (fun h98 => ?_)
                · refine R_iload_n 104 rfl dX3_isDrawn_103 rfl ?_
                  refine R_if_ne 107 117 rfl rfl dX3_isDrawn_104 (by first | assumption | exact ⟨by omega, by omega⟩) (fun h104 => ?_) (fun h104 => ?_)
                  · refine R_iconst 118 rfl dX3_isDrawn_117 ?_
                    refine R_goto 122 rfl dX3_isDrawn_118 ?_
                    refine R_istore_n [_, _, _, _, _] 123 rfl dX3_isDrawn_122 rfl (by decide) ?_
                    refine R_iinc [_, _, _, _, _] 126 rfl dX3_isDrawn_123 rfl rfl (by decide) ?_
                    refine R_goto 17 rfl dX3_isDrawn_126 ?_
                    first | exact ih (by omega) _ _ (by omega) (all_s.mpr ⟨ha, (dP2_y h11).mpr (by omega)⟩) (pI_1 (any_s.mpr (Or.inr (dP1_iff.mpr ⟨h11, by omega⟩)))) (by omega) | exact ih (by omega) _ _ (by omega) (all_s.mpr ⟨ha, (dP2_y h11).mpr (by omega)⟩) (pI_1 (any_s.mpr (Or.inl (by by_cases q : anyN (dP1 L B k) j = true; exact q; rw [pI_f q] at he; omega)))) (by omega) | exact ih (by omega) _ _ (by omega) (all_s.mpr ⟨ha, (dP2_y h11).mpr (by omega)⟩) (pI_0 (fun q => by rcases any_s.mp q with q | q; (rw [pI_t q] at he; omega); exact absurd (dP1_iff.mp q).2 (by omega))) (by omega) | exact ih (by omega) _ _ (by omega) (all_s.mpr ⟨ha, dP2_n (fun q => by have := sameP_iff.mp q; omega)⟩) (by rw [he]; exact pI_congr ⟨fun q => any_s.mpr (Or.inl q), fun q => by rcases any_s.mp q with q | q; exact q; (have := sameP_iff.mp (dP1_iff.mp q).1; omega)⟩) (by omega)
                  · refine R_iload 109 rfl dX3_isDrawn_107 rfl ?_
                    refine R_iconst 110 rfl dX3_isDrawn_109 ?_
                    refine R_idiv_p 111 rfl dX3_isDrawn_110 (by first | assumption | exact ⟨by omega, by omega⟩) (by first | assumption | exact ⟨by omega, by omega⟩) (by omega) (by omega) ?_
                    refine R_iload_n 112 rfl dX3_isDrawn_111 rfl ?_
                    refine R_iconst 113 rfl dX3_isDrawn_112 ?_
                    refine R_idiv_p 114 rfl dX3_isDrawn_113 (by first | assumption | exact ⟨by omega, by omega⟩) (by first | assumption | exact ⟨by omega, by omega⟩) (by omega) (by omega) ?_
                    refine R_icmp_eq 117 121 rfl rfl dX3_isDrawn_114 (by first | assumption | exact ⟨by omega, by omega⟩) (by first | assumption | exact ⟨by omega, by omega⟩) (fun h114 => ?_) (fun h114 => ?_)
                    · refine R_iconst 122 rfl dX3_isDrawn_121 ?_
                      refine R_istore_n [_, _, _, _, _] 123 rfl dX3_isDrawn_122 rfl (by decide) ?_
                      refine R_iinc [_, _, _, _, _] 126 rfl dX3_isDrawn_123 rfl rfl (by decide) ?_
                      refine R_goto 17 rfl dX3_isDrawn_126 ?_
                      first | exact ih (by omega) _ _ (by omega) (all_s.mpr ⟨ha, (dP2_y h11).mpr (by omega)⟩) (pI_1 (any_s.mpr (Or.inr (dP1_iff.mpr ⟨h11, by omega⟩)))) (by omega) | exact ih (by omega) _ _ (by omega) (all_s.mpr ⟨ha, (dP2_y h11).mpr (by omega)⟩) (pI_1 (any_s.mpr (Or.inl (by by_cases q : anyN (dP1 L B k) j = true; exact q; rw [pI_f q] at he; omega)))) (by omega) | exact ih (by omega) _ _ (by omega) (all_s.mpr ⟨ha, (dP2_y h11).mpr (by omega)⟩) (pI_0 (fun q => by rcases any_s.mp q with q | q; (rw [pI_t q] at he; omega); exact absurd (dP1_iff.mp q).2 (by omega))) (by omega) | exact ih (by omega) _ _ (by omega) (all_s.mpr ⟨ha, dP2_n (fun q => by have := sameP_iff.mp q; omega)⟩) (by rw [he]; exact pI_congr ⟨fun q => any_s.mpr (Or.inl q), fun q => by rcases any_s.mp q with q | q; exact q; (have := sameP_iff.mp (dP1_iff.mp q).1; omega)⟩) (by omega)
                    · refine R_iconst 118 rfl dX3_isDrawn_117 ?_
                      refine R_goto 122 rfl dX3_isDrawn_118 ?_
                      refine R_istore_n [_, _, _, _, _] 123 rfl dX3_isDrawn_122 rfl (by decide) ?_
                      refine R_iinc [_, _, _, _, _] 126 rfl dX3_isDrawn_123 rfl rfl (by decide) ?_
                      refine R_goto 17 rfl dX3_isDrawn_126 ?_
                      first | exact ih (by omega) _ _ (by omega) (all_s.mpr ⟨ha, (dP2_y h11).mpr (by omega)⟩) (pI_1 (any_s.mpr (Or.inr (dP1_iff.mpr ⟨h11, by omega⟩)))) (by omega) | exact ih (by omega) _ _ (by omega) (all_s.mpr ⟨ha, (dP2_y h11).mpr (by omega)⟩) (pI_1 (any_s.mpr (Or.inl (by by_cases q : anyN (dP1 L B k) j = true; exact q; rw [pI_f q] at he; omega)))) (by omega) | exact ih (by omega) _ _ (by omega) (all_s.mpr ⟨ha, (dP2_y h11).mpr (by omega)⟩) (pI_0 (fun q => by rcases any_s.mp q with q | q; (rw [pI_t q] at he; omega); exact absurd (dP1_iff.mp q).2 (by omega))) (by omega) | exact ih (by omega) _ _ (by omega) (all_s.mpr ⟨ha, dP2_n (fun q => by have := sameP_iff.mp q; omega)⟩) (by rw [he]; exact pI_congr ⟨fun q => any_s.mpr (Or.inl q), fun q => by rcases any_s.mp q with q | q; exact q; (have := sameP_iff.mp (dP1_iff.mp q).1; omega)⟩) (by omega)
                · refine R_iconst 102 rfl dX3_isDrawn_101 ?_
                  refine R_zreturn dX3_isDrawn_102 rfl (by first | decide | exact pI_01 _) ?_
                  exact Qi_mk (pI_0 (fun q => by have h12 := (allN_iff _ _).mp (drawn_iff.mp q).2.2 j (by omega); have := (dP2_y h11).mp h12; omega))
  refine R_aload_n 1 rfl dX3_isDrawn_0 rfl ?_
  refine R_getP 3 4 rfl dX3_isDrawn_1 rfl rfl fl_X3_22 hk3 ?_
  refine R_getP 2 7 rfl dX3_isDrawn_4 rfl rfl fl_X3_40 (hP _ _ _ rfl) ?_
  refine R_iconst 8 rfl dX3_isDrawn_7 ?_
  refine R_aald 3 9 rfl dX3_isDrawn_8 rfl rfl (by first | rfl | omega) (by decide) (by decide) (hP _ _ _ rfl) ?_
  refine R_iload_n 10 rfl dX3_isDrawn_9 rfl ?_
  refine R_iald k 11 rfl dX3_isDrawn_10 rfl (by first | rfl | omega) (by omega) (by decide) ?_
  rw [s3]
  refine R_istore_n [_, _, _, _, _] 12 rfl dX3_isDrawn_11 rfl (by decide) ?_
  refine R_iconst 13 rfl dX3_isDrawn_12 ?_
  refine R_istore_n [_, _, _, _, _] 14 rfl dX3_isDrawn_13 rfl (by decide) ?_
  refine R_iconst 15 rfl dX3_isDrawn_14 ?_
  refine R_istore [_, _, _, _, _] 17 rfl dX3_isDrawn_15 rfl (by decide) ?_
  exact Lp 0 (by omega) _ _ (fun _ => rfl) rfl (pI_0 (by simp [anyN])) rfl
theorem c_X3_kindOfName (z : Int) (k : Nat) (hPO : PO o d m) (hk3 : m.2 41 3 = some 30) (hk4 : m.2 41 4 = some o) (hB : Bk0 m B) (hO : BkOk np B) (hL : LdC o m L) (hLO : LdOk L) (hW : ∀ j, j < 2 * B.1 → m.1 43 j = wr L B j) (hz : z = (k : Int)) (hk : k < 2 * B.1) : C Γ mX3_kindOfName 3 120 0 0 [vr 41, vi z] SH m (Qi SH m (nkd L B k)) := by
  refine C_of_R rfl (Nat.le_of_ble_eq_true rfl) ?_
  subst hz
  have hP := hPO.2
  have h1 := hLO.1
  have h5 := hO.1
  have h8 := hW k hk
  have h9 := wr_rg (L := L) (B := B) k
  refine R_aload_n 1 rfl dX3_kindOfName_0 rfl ?_
  refine R_getP 2 4 rfl dX3_kindOfName_1 rfl rfl fl_X3_19 (hP _ _ _ rfl) ?_
  refine R_iload_n 5 rfl dX3_kindOfName_4 rfl ?_
  refine R_iald k 6 rfl dX3_kindOfName_5 rfl (by first | rfl | omega) (by omega) (by decide) ?_
  refine R_bipush 8 rfl dX3_kindOfName_6 (by decide) ?_
  refine R_icmp_eq 11 13 rfl rfl dX3_kindOfName_8 (by first | assumption | exact ⟨by omega, by omega⟩) (by first | assumption | exact ⟨by omega, by omega⟩) (fun h8 => ?_) (fun h8 => ?_)
  · refine R_aload_n 14 rfl dX3_kindOfName_13 rfl ?_
    refine R_iload_n 15 rfl dX3_kindOfName_14 rfl ?_
    refine R_callV_i (M' := mX3_isDrawn) 18 rfl dX3_kindOfName_15 ml_X3_67 kmX3_isDrawn im_X3_isDrawn se_X3_isDrawn rfl ⟨by decide, rfl⟩ (c_X3_isDrawn _ _ hPO hk3 hk4 hB hO hL hLO hW (by first | rfl | assumption | omega) (by omega)) rfl rfl ⟨Nat.le_of_ble_eq_true rfl, Nat.le_of_ble_eq_true rfl⟩ (Nat.le_of_ble_eq_true rfl) ⟨Nat.le_of_ble_eq_true rfl, Nat.le_of_ble_eq_true rfl⟩ ?_
    refine R_ifp_eq 21 25 rfl rfl dX3_kindOfName_18 (fun h18 => ?_) (fun h18 => ?_)
    · refine R_iconst 26 rfl dX3_kindOfName_25 ?_
      refine R_ireturn dX3_kindOfName_26 rfl ?_
      exact Qi_mk (by unfold nkd; simp_all)
    · refine R_iconst 22 rfl dX3_kindOfName_21 ?_
      refine R_goto 26 rfl dX3_kindOfName_22 ?_
      refine R_ireturn dX3_kindOfName_26 rfl ?_
      exact Qi_mk (by unfold nkd; simp_all)
  · refine R_iconst 12 rfl dX3_kindOfName_11 ?_
    refine R_ireturn dX3_kindOfName_12 rfl ?_
    exact Qi_mk (by unfold nkd; simp_all)
theorem before_iff {L : Ld} {B : Bk} {k : Nat} : before L B k = true ↔ (B.2.2 3 k ≠ 0 ∧ ∃ j, j < 2 * B.1 ∧ (B.2.2 3 j = B.2.2 3 k ∧ B.2.2 0 j = 1 ∧ B.2.1 1 (j / 2) < B.2.1 1 (k / 2) ∧ nkd L B j = 3)) := by
  unfold before
  simp only [Bool.and_eq_true, decide_eq_true_eq, anyN_iff, and_assoc]
theorem c_X3_wasNamedBefore (z : Int) (k : Nat) (hPO : PO o d m) (hk3 : m.2 41 3 = some 30) (hB : Bk0 m B) (hO : BkOk np B) (hK : ∀ j, j < 2 * B.1 → 1 ≤ m.1 42 j ∧ m.1 42 j ≤ 5 ∧ (m.1 42 j = 3 ↔ (B.2.2 0 j = 1 ∧ nkd L B j = 3))) (hz : z = (k : Int)) (hk : k < 2 * B.1) : C Γ mX3_wasNamedBefore 1 40 0 0 [vr 41, vi z] SH m (Qi SH m (pI (before L B k = true))) := by
  refine C_of_R rfl (Nat.le_of_ble_eq_true rfl) ?_
  subst hz
  have hP := hPO.2
  have h2 := hO.2.2 k hk
  have h5 := hO.1
  have h6 := hO.2.1 (k / 2) (by omega)
  obtain ⟨s0, s1, e2, s3, s4⟩ := hB.2.2 k hk
  have Lp : ∀ j, j ≤ 2 * B.1 → ∀ y, (∀ i, i < j → B.2.2 3 k ≠ 0 → ¬ (B.2.2 3 i = B.2.2 3 k ∧ B.2.2 0 i = 1 ∧ B.2.1 1 (i / 2) < B.2.1 1 (k / 2) ∧ nkd L B i = 3)) → y = (j : Int) → R Γ mX3_wasNamedBefore { frames := 1, cells := 0, slots := 0, locals := 40 } 0 0 (Qi SH m (pI (before L B k = true))) 0 0 14 [some (vr 41), some (vi (k : Int)), some (vi (B.2.2 3 k)), some (vi y)] [] SH m := by
    refine up_ind (2 * B.1) (fun j hj ih y ha hy => ?_)
    refine R_iload_n 15 rfl dX3_wasNamedBefore_14 rfl ?_
    refine R_aload_n 16 rfl dX3_wasNamedBefore_15 rfl ?_
    refine R_getP 3 19 rfl dX3_wasNamedBefore_16 rfl rfl fl_X3_22 hk3 ?_
    refine R_callV_i (M' := mX0_marks) 22 rfl dX3_wasNamedBefore_19 ml_X3_30 kmX0_marks im_X0_marks se_X0_marks rfl ⟨by decide, rfl⟩ (c_X0_marks hB) rfl rfl ⟨Nat.le_of_ble_eq_true rfl, Nat.le_of_ble_eq_true rfl⟩ (Nat.le_of_ble_eq_true rfl) ⟨Nat.le_of_ble_eq_true rfl, Nat.le_of_ble_eq_true rfl⟩ ?_
    refine R_icmp_ge 25 81 rfl rfl dX3_wasNamedBefore_22 (by first | assumption | exact ⟨by omega, by omega⟩) (by first | assumption | exact ⟨by omega, by omega⟩) (fun h22 => ?_) (fun h22 => ?_)
    · refine R_iconst 82 rfl dX3_wasNamedBefore_81 ?_
      refine R_zreturn dX3_wasNamedBefore_82 rfl (by first | decide | exact pI_01 _) ?_
      exact Qi_mk (pI_0 (fun q => by obtain ⟨q1, i, q2, q3⟩ := before_iff.mp q; exact ha i (by omega) q1 q3))
    · refine R_iload_n 26 rfl dX3_wasNamedBefore_25 rfl ?_
      refine R_if_eq 29 81 rfl rfl dX3_wasNamedBefore_26 (by first | assumption | exact ⟨by omega, by omega⟩) (fun h26 => ?_) (fun h26 => ?_)
      · refine R_iconst 82 rfl dX3_wasNamedBefore_81 ?_
        refine R_zreturn dX3_wasNamedBefore_82 rfl (by first | decide | exact pI_01 _) ?_
        exact Qi_mk (pI_0 (fun q => by obtain ⟨q1, i, q2, q3⟩ := before_iff.mp q; exact ha i (by omega) q1 q3))
      · have h7 := hO.2.2 j (by omega)
        obtain ⟨t0, t1, t2, t3, t4⟩ := hB.2.2 j (by omega)
        have h8 := hK j (by omega)
        have h9 := hO.2.1 (j / 2) (by omega)
        refine R_aload_n 30 rfl dX3_wasNamedBefore_29 rfl ?_
        refine R_getP 3 33 rfl dX3_wasNamedBefore_30 rfl rfl fl_X3_22 hk3 ?_
        refine R_getP 2 36 rfl dX3_wasNamedBefore_33 rfl rfl fl_X3_40 (hP _ _ _ rfl) ?_
        refine R_iconst 37 rfl dX3_wasNamedBefore_36 ?_
        refine R_aald 3 38 rfl dX3_wasNamedBefore_37 rfl rfl (by first | rfl | omega) (by decide) (by decide) (hP _ _ _ rfl) ?_
        refine R_iload_n 39 rfl dX3_wasNamedBefore_38 rfl ?_
        refine R_iald j 40 rfl dX3_wasNamedBefore_39 rfl (by first | rfl | omega) (by omega) (by decide) ?_
        refine R_iload_n 41 rfl dX3_wasNamedBefore_40 rfl ?_
        refine R_icmp_ne 44 75 rfl rfl dX3_wasNamedBefore_41 (by first | assumption | exact ⟨by omega, by omega⟩) (by first | assumption | exact ⟨by omega, by omega⟩) (fun h41 => ?_) (fun h41 => ?_)
        · refine R_iinc [_, _, _, _] 78 rfl dX3_wasNamedBefore_75 rfl rfl (by decide) ?_
          refine R_goto 14 rfl dX3_wasNamedBefore_78 ?_
          exact ih (by omega) _ (fun i q q1 => by by_cases e : i = j; (subst e; omega); exact ha i (by omega) q1) (by omega)
        · refine R_aload_n 45 rfl dX3_wasNamedBefore_44 rfl ?_
          refine R_getP 1 48 rfl dX3_wasNamedBefore_45 rfl rfl fl_X3_15 (hP _ _ _ rfl) ?_
          refine R_iload_n 49 rfl dX3_wasNamedBefore_48 rfl ?_
          refine R_iald j 50 rfl dX3_wasNamedBefore_49 rfl (by first | rfl | omega) (by omega) (by decide) ?_
          refine R_iconst 51 rfl dX3_wasNamedBefore_50 ?_
          refine R_icmp_ne 54 75 rfl rfl dX3_wasNamedBefore_51 (by first | assumption | exact ⟨by omega, by omega⟩) (by first | assumption | exact ⟨by omega, by omega⟩) (fun h51 => ?_) (fun h51 => ?_)
          · refine R_iinc [_, _, _, _] 78 rfl dX3_wasNamedBefore_75 rfl rfl (by decide) ?_
            refine R_goto 14 rfl dX3_wasNamedBefore_78 ?_
            exact ih (by omega) _ (fun i q q1 => by by_cases e : i = j; (subst e; omega); exact ha i (by omega) q1) (by omega)
          · refine R_aload_n 55 rfl dX3_wasNamedBefore_54 rfl ?_
            refine R_getP 3 58 rfl dX3_wasNamedBefore_55 rfl rfl fl_X3_22 hk3 ?_
            refine R_iload_n 59 rfl dX3_wasNamedBefore_58 rfl ?_
            refine R_callV_i (M' := mX0_yearOf) 62 rfl dX3_wasNamedBefore_59 ml_X3_60 kmX0_yearOf im_X0_yearOf se_X0_yearOf rfl ⟨by decide, rfl⟩ (c_X0_yearOf _ j hPO hB (by omega) (by omega) (by omega)) rfl rfl ⟨Nat.le_of_ble_eq_true rfl, Nat.le_of_ble_eq_true rfl⟩ (Nat.le_of_ble_eq_true rfl) ⟨Nat.le_of_ble_eq_true rfl, Nat.le_of_ble_eq_true rfl⟩ ?_
            refine R_aload_n 63 rfl dX3_wasNamedBefore_62 rfl ?_
            refine R_getP 3 66 rfl dX3_wasNamedBefore_63 rfl rfl fl_X3_22 hk3 ?_
            refine R_iload_n 67 rfl dX3_wasNamedBefore_66 rfl ?_
            refine R_callV_i (M' := mX0_yearOf) 70 rfl dX3_wasNamedBefore_67 ml_X3_60 kmX0_yearOf im_X0_yearOf se_X0_yearOf rfl ⟨by decide, rfl⟩ (c_X0_yearOf _ k hPO hB rfl hk (by omega)) rfl rfl ⟨Nat.le_of_ble_eq_true rfl, Nat.le_of_ble_eq_true rfl⟩ (Nat.le_of_ble_eq_true rfl) ⟨Nat.le_of_ble_eq_true rfl, Nat.le_of_ble_eq_true rfl⟩ ?_
            refine R_icmp_ge 73 75 rfl rfl dX3_wasNamedBefore_70 (by first | assumption | exact ⟨by omega, by omega⟩) (by first | assumption | exact ⟨by omega, by omega⟩) (fun h70 => ?_) (fun h70 => ?_)
            · refine R_iinc [_, _, _, _] 78 rfl dX3_wasNamedBefore_75 rfl rfl (by decide) ?_
              refine R_goto 14 rfl dX3_wasNamedBefore_78 ?_
              exact ih (by omega) _ (fun i q q1 => by by_cases e : i = j; (subst e; omega); exact ha i (by omega) q1) (by omega)
            · refine R_iconst 74 rfl dX3_wasNamedBefore_73 ?_
              refine R_zreturn dX3_wasNamedBefore_74 rfl (by first | decide | exact pI_01 _) ?_
              exact Qi_mk (pI_1 (before_iff.mpr ⟨by omega, j, by omega, by omega, by omega, by omega, by omega⟩))
  refine R_aload_n 1 rfl dX3_wasNamedBefore_0 rfl ?_
  refine R_getP 3 4 rfl dX3_wasNamedBefore_1 rfl rfl fl_X3_22 hk3 ?_
  refine R_getP 2 7 rfl dX3_wasNamedBefore_4 rfl rfl fl_X3_40 (hP _ _ _ rfl) ?_
  refine R_iconst 8 rfl dX3_wasNamedBefore_7 ?_
  refine R_aald 3 9 rfl dX3_wasNamedBefore_8 rfl rfl (by first | rfl | omega) (by decide) (by decide) (hP _ _ _ rfl) ?_
  refine R_iload_n 10 rfl dX3_wasNamedBefore_9 rfl ?_
  refine R_iald k 11 rfl dX3_wasNamedBefore_10 rfl (by first | rfl | omega) (by omega) (by decide) ?_
  rw [s3]
  refine R_istore_n [_, _, _, _] 12 rfl dX3_wasNamedBefore_11 rfl (by decide) ?_
  refine R_iconst 13 rfl dX3_wasNamedBefore_12 ?_
  refine R_istore_n [_, _, _, _] 14 rfl dX3_wasNamedBefore_13 rfl (by decide) ?_
  exact Lp 0 (by omega) _ (fun i q => by omega) rfl
end
