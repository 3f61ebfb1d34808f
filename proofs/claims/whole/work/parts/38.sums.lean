theorem iz_andn (x y : Nat) : iz (x : Int) &&& iz (-1 - (y : Int)) = iz ((x ^^^ (x &&& y) : Nat) : Int) := by
  rw [← iz_not, ← iz_xor, ← iz_and]
  apply Int32.toBitVec_inj.mp
  show (iz (x : Int)).toBitVec &&& ((iz (y : Int)).toBitVec ^^^ (iz (-1)).toBitVec) = (iz (x : Int)).toBitVec ^^^ ((iz (x : Int)).toBitVec &&& (iz (y : Int)).toBitVec)
  rw [show (iz (-1)).toBitVec = BitVec.allOnes 32 by decide]
  generalize (iz (x : Int)).toBitVec = a
  generalize (iz (y : Int)).toBitVec = b
  rw [BitVec.xor_allOnes]
  apply BitVec.eq_of_getLsbD_eq
  intro i hi
  simp only [BitVec.getLsbD_and, BitVec.getLsbD_not, BitVec.getLsbD_xor]
  simp only [hi, decide_true, Bool.true_and]
  cases a.getLsbD i <;> cases b.getLsbD i <;> rfl
section
variable {Γ : GX} {M : MD} {rm : Room} {mc ms : Nat} {Q : Option AV → Shp → Mem → Prop} {k n pc : Nat} {loc : List (Option AV)} {st : List AV} {S : Shp} {m : Mem}
theorem R_iandn {a b : Nat} (q : Nat) (hq : pc + 1 = q) (hd : decode M.2.1 pc = .ok (.iand, 1)) (kk : R Γ M rm mc ms Q k n q loc (vi ((a ^^^ (a &&& b) : Nat) : Int) :: st) S m) : R Γ M rm mc ms Q k n pc loc (vi (-1 - (b : Int)) :: vi (a : Int) :: st) S m := by
  subst hq
  intro p e s mi args below meth c H locs ls hc hZ hS hH hl
  refine lv_iand (x := iz (a : Int)) (y := iz (-1 - (b : Int))) hc.1 hc.2.1 hd ?_
  rw [iz_andn]
  exact kk p e s mi args below meth c H locs ls hc hZ hS hH hl
end
theorem Rt_re {m : Mem} {N D N' D' : Int} (h : Rt m N D) (hD : 0 < D) (hD' : 0 < D') (e : N * D' = N' * D) : Rt m N' D' := by
  have := red_eq hD hD' e
  exact ⟨h.1.trans this.1, h.2.trans this.2⟩
theorem Rt_0 {m : Mem} {D : Int} (h : Rt m 0 1) (hD : 0 < D) : Rt m 0 D := Rt_re h (by decide) hD (by simp)
section
variable {Γ : GX} {m : Mem} {B : Bk} {L : Ld} {ch : Cs} {o d : Nat}
theorem c_X6_becomeR (P Q : Int) (hP : -9223372036854775808 < P ∧ P < 9223372036854775808) (hQ : 0 < Q ∧ Q < 9223372036854775808) : C Γ mX6_become 1 40 0 0 [vr 91, vl P, vl Q] SH m (QV SH (fun m' => Fr is91 m m' ∧ Rt m' P Q)) := by
  refine C_wk (c_X6_become P Q hP hQ) (fun r S' m' q => ?_)
  obtain ⟨q1, q2, q3⟩ := q
  subst q3
  exact ⟨q1, q2, Fr_ra, Rt_ra⟩
theorem c_X6_addM (N D aT aB q : Int) (hr : Rt m N D) (hD : 0 < D ∧ D < 9223372036854775808) (ha : 0 < aB) (he : D = aB * q) (hk : -9223372036854775807 ≤ N + aT * q ∧ N + aT * q ≤ 9223372036854775807) : C Γ mX6_add 2 80 0 0 [vr 91, vl aT, vl aB] SH m (QV SH (fun m' => Fr is91 m m' ∧ Rt m' (N + aT * q) D)) := by
  have e : D / aB = q := by rw [he]; exact Int.mul_ediv_cancel_left _ (by omega)
  have := c_X6_addZ (Γ := Γ) N D aT aB hr hD (Or.inr ⟨ha, ⟨q, he⟩⟩) (by rw [e]; exact hk)
  rw [e] at this
  exact this
theorem rd_bd {t0 t1 t2 t3 a k : Int} (hL : 0 ≤ t0 ∧ t0 ≤ t1 ∧ 1 ≤ t1 ∧ t1 ≤ 999 ∧ 0 ≤ t2 ∧ t2 ≤ t3 ∧ 1 ≤ t3 ∧ t3 ≤ 999) (ha : 0 < a ∧ a ≤ 80) (hk : 0 ≤ k ∧ k ≤ a) :
    (0 < a * t1 * t3 ∧ a * t1 * t3 ≤ 79840080) ∧ 0 < a * t1 ∧ 0 < a * t3 ∧ (0 ≤ k * t0 * t3 ∧ k * t0 * t3 ≤ 79840080) ∧ (0 ≤ (a - k) * t2 * t1 ∧ (a - k) * t2 * t1 ≤ 79840080) := by
  have p1 : 0 < a * t1 := Int.mul_pos (by omega) (by omega)
  have p2 : 0 < a * t3 := Int.mul_pos (by omega) (by omega)
  have p3 : 0 < a * t1 * t3 := Int.mul_pos p1 (by omega)
  have q1 := mulb (mulb (x := a) (y := t1) (X := 80) (Y := 999) (by omega) (by omega)) (y := t3) (Y := 999) (by omega)
  have q2 := mulb (mulb (x := k) (y := t0) (X := 80) (Y := 999) (by omega) (by omega)) (y := t3) (Y := 999) (by omega)
  have q3 := mulb (mulb (x := a - k) (y := t2) (X := 80) (Y := 999) (by omega) (by omega)) (y := t1) (Y := 999) (by omega)
  exact ⟨⟨p3, by omega⟩, p1, p2, ⟨q2.1, by omega⟩, q3.1, by omega⟩
set_option maxHeartbeats 1000000 in
theorem c_X10_reading (c w : Int) (hCS : CS o d L B ch m) (hc : rg c) (hw : rg w) : C Γ mX10_reading 6 240 0 0 [vr 0, vi c, vi w] SH m (QB o d L B ch m (a_reading L B ch c w)) := by
  refine C_of_R rfl (Nat.le_of_ble_eq_true rfl) ?_
  have g1 := hmy_le L B ch c.toNat 2
  have g0 := hmy_le L B ch c.toNat 0
  have g3 : hmy L B ch c.toNat 2 ≤ hmy L B ch c.toNat 0 := cnt_mono (fun k hk q => inS_iff.mpr ⟨(inS_iff.mp q).1, rfl⟩)
  have g2 := hCS.2.2.1.1
  have hPO := hCS.1
  have hP := hPO.2
  have hLO := hCS.2.2.2.2.1.2.1
  rcases hCS.2.2.2.1 with ⟨rfl, -⟩ | ⟨rfl, -⟩
  all_goals
    refine R_iload_n 1 rfl dX10_reading_0 rfl ?_
    refine R_callS_i (M' := mX10_isChoice) 4 rfl dX10_reading_1 ml_X10_218 kmX10_isChoice st_X10_isChoice (c_X10_isChoice _ (by first | assumption | exact ⟨by omega, by omega⟩)) rfl rfl ⟨Nat.le_of_ble_eq_true rfl, Nat.le_of_ble_eq_true rfl⟩ (Nat.le_of_ble_eq_true rfl) ⟨Nat.le_of_ble_eq_true rfl, Nat.le_of_ble_eq_true rfl⟩ ?_
    refine R_ifp_eq 7 16 rfl rfl dX10_reading_4 (fun h4 => ?_) (fun h4 => ?_)
    · refine R_ldc2 (-1) 19 rfl dX10_reading_16 kl_X10_268 (by decide) ?_
      refine R_lreturn dX10_reading_19 rfl ?_
      exact QL_mk ⟨by unfold a_reading; rw [if_neg (by omega)], Fs.rf, hCS⟩
    · refine R_iload_n 8 rfl dX10_reading_7 rfl ?_
      refine R_iconst 9 rfl dX10_reading_8 ?_
      refine R_iconst 10 rfl dX10_reading_9 ?_
      refine R_callS_i (M' := mX10_within) 13 rfl dX10_reading_10 ml_X10_108 kmX10_within st_X10_within (c_X10_within _ _ _ (by first | assumption | exact ⟨by omega, by omega⟩) (by first | assumption | exact ⟨by omega, by omega⟩) (by first | assumption | exact ⟨by omega, by omega⟩)) rfl rfl ⟨Nat.le_of_ble_eq_true rfl, Nat.le_of_ble_eq_true rfl⟩ (Nat.le_of_ble_eq_true rfl) ⟨Nat.le_of_ble_eq_true rfl, Nat.le_of_ble_eq_true rfl⟩ ?_
      refine R_ifp_ne 16 20 rfl rfl dX10_reading_13 (fun h13 => ?_) (fun h13 => ?_)
      · refine R_aload_n 21 rfl dX10_reading_20 rfl ?_
        refine R_iload_n 22 rfl dX10_reading_21 rfl ?_
        refine R_iconst 23 rfl dX10_reading_22 ?_
        refine R_callV_I (M' := mX10_howMany) 26 rfl dX10_reading_23 ml_X10_228 kmX10_howMany im_X10_howMany se_X10_howMany rfl ⟨by decide, rfl⟩ (c_X10_howMany c.toNat _ _ hCS (by omega) (by omega) (by omega)) rfl rfl ⟨Nat.le_of_ble_eq_true rfl, Nat.le_of_ble_eq_true rfl⟩ (Nat.le_of_ble_eq_true rfl) ⟨Nat.le_of_ble_eq_true rfl, Nat.le_of_ble_eq_true rfl⟩ ?_
        rintro z23 m23 h23
        obtain ⟨e23, f23, hCS, hKF⟩ := h23
        clear hPO hP
        have hPO := hCS.1
        have hP := hPO.2
        refine R_istore_n [_, _, _, _, _] 27 rfl dX10_reading_26 rfl (by decide) ?_
        refine R_iload_n 28 rfl dX10_reading_27 rfl ?_
        refine R_if_ne 31 35 rfl rfl dX10_reading_28 (by first | assumption | exact ⟨by omega, by omega⟩) (fun h28 => ?_) (fun h28 => ?_)
        · refine R_aload_n 36 rfl dX10_reading_35 rfl ?_
          refine R_iload_n 37 rfl dX10_reading_36 rfl ?_
          refine R_iconst 38 rfl dX10_reading_37 ?_
          refine R_callV_I (M' := mX10_howMany) 41 rfl dX10_reading_38 ml_X10_228 kmX10_howMany im_X10_howMany se_X10_howMany rfl ⟨by decide, rfl⟩ (c_X10_howMany c.toNat _ _ hCS (by omega) (by omega) (by omega)) rfl rfl ⟨Nat.le_of_ble_eq_true rfl, Nat.le_of_ble_eq_true rfl⟩ (Nat.le_of_ble_eq_true rfl) ⟨Nat.le_of_ble_eq_true rfl, Nat.le_of_ble_eq_true rfl⟩ ?_
          rintro z38 m38 h38
          obtain ⟨e38, f38, hCS, hKF⟩ := h38
          clear hPO hP
          have hPO := hCS.1
          have hP := hPO.2
          obtain ⟨D1, D2, D3, D4, D5⟩ := rd_bd hLO (a := z23) (k := z38) (by omega) (by omega)
          refine R_istore [_, _, _, _, _] 43 rfl dX10_reading_41 rfl (by decide) ?_
          refine R_aload_n 44 rfl dX10_reading_43 rfl ?_
          refine R_getP 13 47 rfl dX10_reading_44 rfl rfl fl_X10_88 (hP _ _ _ rfl) ?_
          refine R_lconst 48 rfl dX10_reading_47 ?_
          refine R_lconst 49 rfl dX10_reading_48 ?_
          refine R_callV_V (M' := mX6_become) 52 rfl dX10_reading_49 ml_X10_281 kmX6_become im_X6_become se_X6_become rfl ⟨by decide, rfl⟩ (c_X6_becomeR _ _ (by omega) (by omega)) rfl rfl ⟨Nat.le_of_ble_eq_true rfl, Nat.le_of_ble_eq_true rfl⟩ (Nat.le_of_ble_eq_true rfl) ⟨Nat.le_of_ble_eq_true rfl, Nat.le_of_ble_eq_true rfl⟩ ?_
          rintro m49 h49
          obtain ⟨f49, r49⟩ := h49
          replace hCS := hCS.fr f49 is91_c
          clear hPO hP
          have hPO := hCS.1
          have hP := hPO.2
          first | have k49 := LdC_4 hCS.2.2.2.1 | have k49 := LdC_17 hCS.2.2.2.1
          obtain ⟨t0, t1, t2, t3⟩ := k49.2.1
          refine R_aload_n 53 rfl dX10_reading_52 rfl ?_
          refine R_getP 13 56 rfl dX10_reading_53 rfl rfl fl_X10_88 (hP _ _ _ rfl) ?_
          refine R_iload 58 rfl dX10_reading_56 rfl ?_
          refine R_i2l 59 rfl dX10_reading_58 (by first | assumption | exact ⟨by omega, by omega⟩) ?_
          refine R_aload_n 60 rfl dX10_reading_59 rfl ?_
          refine R_getP 2 63 rfl dX10_reading_60 rfl rfl fl_X10_26 (PO_o hPO) ?_
          refine R_getP 7 66 rfl dX10_reading_63 rfl rfl fl_X10_146 (hP _ _ _ rfl) ?_
          refine R_iconst 67 rfl dX10_reading_66 ?_
          refine R_iald 0 68 rfl dX10_reading_67 rfl (by first | rfl | omega) (by decide) (by decide) ?_
          refine R_i2l 69 rfl dX10_reading_68 (by first | assumption | exact ⟨by omega, by omega⟩) ?_
          refine R_topL (b := L.1 7) t0 ?_
          refine R_lmul 70 rfl dX10_reading_69 ?_
          refine R_iload_n 71 rfl dX10_reading_70 rfl ?_
          refine R_i2l 72 rfl dX10_reading_71 (by first | assumption | exact ⟨by omega, by omega⟩) ?_
          refine R_aload_n 73 rfl dX10_reading_72 rfl ?_
          refine R_getP 2 76 rfl dX10_reading_73 rfl rfl fl_X10_26 (PO_o hPO) ?_
          refine R_getP 7 79 rfl dX10_reading_76 rfl rfl fl_X10_146 (hP _ _ _ rfl) ?_
          refine R_iconst 80 rfl dX10_reading_79 ?_
          refine R_iald 1 81 rfl dX10_reading_80 rfl (by first | rfl | omega) (by decide) (by decide) ?_
          refine R_i2l 82 rfl dX10_reading_81 (by first | assumption | exact ⟨by omega, by omega⟩) ?_
          refine R_topL (b := L.1 8) t1 ?_
          refine R_lmul 83 rfl dX10_reading_82 ?_
          refine R_callV_V (M' := mX6_add) 86 rfl dX10_reading_83 ml_X10_287 kmX6_add im_X6_add se_X6_add rfl ⟨by decide, rfl⟩ (c_X6_addM 0 (z23 * L.1 8 * L.1 10) (z38 * L.1 7) (z23 * L.1 8) (L.1 10) (Rt_0 r49 D1.1) ⟨D1.1, by omega⟩ D2 rfl ⟨by omega, by omega⟩) rfl rfl ⟨Nat.le_of_ble_eq_true rfl, Nat.le_of_ble_eq_true rfl⟩ (Nat.le_of_ble_eq_true rfl) ⟨Nat.le_of_ble_eq_true rfl, Nat.le_of_ble_eq_true rfl⟩ ?_
          rintro m83 h83
          obtain ⟨f83, r83⟩ := h83
          replace hCS := hCS.fr f83 is91_c
          clear hPO hP
          have hPO := hCS.1
          have hP := hPO.2
          first | have k83 := LdC_4 hCS.2.2.2.1 | have k83 := LdC_17 hCS.2.2.2.1
          clear t0 t1 t2 t3
          obtain ⟨t0, t1, t2, t3⟩ := k83.2.1
          refine R_aload_n 87 rfl dX10_reading_86 rfl ?_
          refine R_getP 13 90 rfl dX10_reading_87 rfl rfl fl_X10_88 (hP _ _ _ rfl) ?_
          refine R_iload_n 91 rfl dX10_reading_90 rfl ?_
          refine R_iload 93 rfl dX10_reading_91 rfl ?_
          refine R_isub 94 rfl dX10_reading_93 ?_
          refine R_i2l 95 rfl dX10_reading_94 (by first | assumption | exact ⟨by omega, by omega⟩) ?_
          refine R_aload_n 96 rfl dX10_reading_95 rfl ?_
          refine R_getP 2 99 rfl dX10_reading_96 rfl rfl fl_X10_26 (PO_o hPO) ?_
          refine R_getP 7 102 rfl dX10_reading_99 rfl rfl fl_X10_146 (hP _ _ _ rfl) ?_
          refine R_iconst 103 rfl dX10_reading_102 ?_
          refine R_iald 2 104 rfl dX10_reading_103 rfl (by first | rfl | omega) (by decide) (by decide) ?_
          refine R_i2l 105 rfl dX10_reading_104 (by first | assumption | exact ⟨by omega, by omega⟩) ?_
          refine R_topL (b := L.1 9) t2 ?_
          refine R_lmul 106 rfl dX10_reading_105 ?_
          refine R_iload_n 107 rfl dX10_reading_106 rfl ?_
          refine R_i2l 108 rfl dX10_reading_107 (by first | assumption | exact ⟨by omega, by omega⟩) ?_
          refine R_aload_n 109 rfl dX10_reading_108 rfl ?_
          refine R_getP 2 112 rfl dX10_reading_109 rfl rfl fl_X10_26 (PO_o hPO) ?_
          refine R_getP 7 115 rfl dX10_reading_112 rfl rfl fl_X10_146 (hP _ _ _ rfl) ?_
          refine R_iconst 116 rfl dX10_reading_115 ?_
          refine R_iald 3 117 rfl dX10_reading_116 rfl (by first | rfl | omega) (by decide) (by decide) ?_
          refine R_i2l 118 rfl dX10_reading_117 (by first | assumption | exact ⟨by omega, by omega⟩) ?_
          refine R_topL (b := L.1 10) t3 ?_
          refine R_lmul 119 rfl dX10_reading_118 ?_
          refine R_callV_V (M' := mX6_add) 122 rfl dX10_reading_119 ml_X10_287 kmX6_add im_X6_add se_X6_add rfl ⟨by decide, rfl⟩ (c_X6_addM _ (z23 * L.1 8 * L.1 10) ((z23 - z38) * L.1 9) (z23 * L.1 10) (L.1 8) r83 ⟨D1.1, by omega⟩ D3 (by rw [Int.mul_assoc, Int.mul_comm (L.1 8), ← Int.mul_assoc]) ⟨by omega, by omega⟩) rfl rfl ⟨Nat.le_of_ble_eq_true rfl, Nat.le_of_ble_eq_true rfl⟩ (Nat.le_of_ble_eq_true rfl) ⟨Nat.le_of_ble_eq_true rfl, Nat.le_of_ble_eq_true rfl⟩ ?_
          rintro m119 h119
          obtain ⟨f119, r119⟩ := h119
          replace hCS := hCS.fr f119 is91_c
          clear hPO hP
          have hPO := hCS.1
          have hP := hPO.2
          first | have k119 := LdC_4 hCS.2.2.2.1 | have k119 := LdC_17 hCS.2.2.2.1
          refine R_aload_n 123 rfl dX10_reading_122 rfl ?_
          refine R_getP 13 126 rfl dX10_reading_123 rfl rfl fl_X10_88 (hP _ _ _ rfl) ?_
          refine R_iload_n 127 rfl dX10_reading_126 rfl ?_
          refine R_callV_l (M' := mX6_part) 130 rfl dX10_reading_127 ml_X10_297 kmX6_part im_X6_part se_X6_part rfl ⟨by decide, rfl⟩ (c_X6_part _ (by omega)) rfl rfl ⟨Nat.le_of_ble_eq_true rfl, Nat.le_of_ble_eq_true rfl⟩ (Nat.le_of_ble_eq_true rfl) ⟨Nat.le_of_ble_eq_true rfl, Nat.le_of_ble_eq_true rfl⟩ ?_
          refine R_lreturn dX10_reading_130 rfl ?_
          have eN : 0 + z38 * L.1 7 * L.1 10 + (z23 - z38) * L.1 9 * L.1 8 = rdN L B ch c.toNat := by unfold rdN; rw [← e23, ← e38, Int.zero_add]
          have eD : z23 * L.1 8 * L.1 10 = rdD L B ch c.toNat := by unfold rdD; rw [← e23]
          rw [eN, eD] at r119
          refine QL_mk ⟨Eq.symm ?_, (f23.s.tr f38.s).tr (((f49.tr f83).tr f119).s is91_q), hCS⟩
          rw [a_reading, if_pos (by omega), if_neg (by omega), ← r119.1, ← r119.2]
          rcases (show w = 0 ∨ w = 1 by omega) with rfl | rfl
          · rfl
          · rfl
        · refine R_ldc2 (-4) 34 rfl dX10_reading_31 kl_X10_279 (by decide) ?_
          refine R_lreturn dX10_reading_34 rfl ?_
          exact QL_mk ⟨by unfold a_reading; rw [if_pos (by omega), if_pos (by omega)], f23.s, hCS⟩
      · refine R_ldc2 (-1) 19 rfl dX10_reading_16 kl_X10_268 (by decide) ?_
        refine R_lreturn dX10_reading_19 rfl ?_
        exact QL_mk ⟨by unfold a_reading; rw [if_neg (by omega)], Fs.rf, hCS⟩
theorem c_X10_next (b : Int) (hCS : CS o d L B ch m) (hb : rg b) : C Γ mX10_next 6 240 0 0 [vr 0, vi b] SH m (QA o d L B ch m (if (0 ≤ b ∧ b ≤ allB L) ∧ aHM (tgM B ch 0 0) b (npN L) = true then (if lgB (tgM B ch 0 0) (L.2.1 0) b (npN L) < 0 then -4 else lgB (tgM B ch 0 0) (L.2.1 0) b (npN L)) else -1)) := by
  refine C_of_R rfl (Nat.le_of_ble_eq_true rfl) ?_
  have hPO := hCS.1
  have hP := hPO.2
  have hr := tg_rg L B ch 0 0 hCS.2.2.1.1
  have hr' : ∀ g, g < 15 → 0 ≤ tgM B ch 0 0 g ∧ tgM B ch 0 0 g ≤ 80 := fun g h => ⟨(hr g h).1, (hr g h).2.1⟩
  have h9 := lgB_rg (tgM B ch 0 0) (L.2.1 0) b (npN L)
  have hLO := npN_le hCS.2.2.2.2.1
  rcases hCS.2.2.2.1 with ⟨rfl, -⟩ | ⟨rfl, -⟩
  all_goals
    refine R_aload_n 1 rfl dX10_next_0 rfl ?_
    refine R_iload_n 2 rfl dX10_next_1 rfl ?_
    refine R_callV_i (M' := mX10_areParishes) 5 rfl dX10_next_2 ml_X10_221 kmX10_areParishes im_X10_areParishes se_X10_areParishes rfl ⟨by decide, rfl⟩ (c_X10_areParishes _ hCS (by first | assumption | exact ⟨by omega, by omega⟩)) rfl rfl ⟨Nat.le_of_ble_eq_true rfl, Nat.le_of_ble_eq_true rfl⟩ (Nat.le_of_ble_eq_true rfl) ⟨Nat.le_of_ble_eq_true rfl, Nat.le_of_ble_eq_true rfl⟩ ?_
    refine R_ifp_ne 8 10 rfl rfl dX10_next_5 (fun h5 => ?_) (fun h5 => ?_)
    · refine R_aload_n 11 rfl dX10_next_10 rfl ?_
      refine R_aload_n 12 rfl dX10_next_11 rfl ?_
      refine R_getP 12 15 rfl dX10_next_12 rfl rfl fl_X10_82 (hP _ _ _ rfl) ?_
      refine R_iconst 16 rfl dX10_next_15 ?_
      refine R_iconst 17 rfl dX10_next_16 ?_
      refine R_callV_V (M' := mX10_tallyGroups) 20 rfl dX10_next_17 ml_X10_235 kmX10_tallyGroups im_X10_tallyGroups se_X10_tallyGroups rfl ⟨by decide, rfl⟩ (c_X10_tallyGroups88 0 _ _ hCS rfl (by omega) (by omega)) rfl rfl ⟨Nat.le_of_ble_eq_true rfl, Nat.le_of_ble_eq_true rfl⟩ (Nat.le_of_ble_eq_true rfl) ⟨Nat.le_of_ble_eq_true rfl, Nat.le_of_ble_eq_true rfl⟩ ?_
      rintro m17 h17
      obtain ⟨f17, hCS, hKF, hT⟩ := h17
      clear hPO hP
      have hPO := hCS.1
      have hP := hPO.2
      first | have k17 := (LdC_4 hCS.2.2.2.1).1.1 | have k17 := (LdC_17 hCS.2.2.2.1).1.1
      refine R_aload_n 21 rfl dX10_next_20 rfl ?_
      refine R_iload_n 22 rfl dX10_next_21 rfl ?_
      refine R_callV_i (M' := mX10_allHaveMarks) 25 rfl dX10_next_22 ml_X10_270 kmX10_allHaveMarks im_X10_allHaveMarks se_X10_allHaveMarks rfl ⟨by decide, rfl⟩ (c_X10_allHaveMarks _ hCS hT hr' hb) rfl rfl ⟨Nat.le_of_ble_eq_true rfl, Nat.le_of_ble_eq_true rfl⟩ (Nat.le_of_ble_eq_true rfl) ⟨Nat.le_of_ble_eq_true rfl, Nat.le_of_ble_eq_true rfl⟩ ?_
      refine R_ifp_ne 28 30 rfl rfl dX10_next_25 (fun h25 => ?_) (fun h25 => ?_)
      · refine R_aload_n 31 rfl dX10_next_30 rfl ?_
        refine R_aload_n 32 rfl dX10_next_31 rfl ?_
        refine R_getP 2 35 rfl dX10_next_32 rfl rfl fl_X10_26 (PO_o hPO) ?_
        refine R_getI 0 38 rfl dX10_next_35 rfl rfl fl_X10_125 ?_
        refine R_iload_n 39 rfl dX10_next_38 rfl ?_
        refine R_callV_i (M' := mX10_largestBelow) 42 rfl dX10_next_39 ml_X10_301 kmX10_largestBelow im_X10_largestBelow se_X10_largestBelow rfl ⟨by decide, rfl⟩ (c_X10_largestBelow _ _ (npN L) hCS hT hr' (by omega) (by omega) hb) rfl rfl ⟨Nat.le_of_ble_eq_true rfl, Nat.le_of_ble_eq_true rfl⟩ (Nat.le_of_ble_eq_true rfl) ⟨Nat.le_of_ble_eq_true rfl, Nat.le_of_ble_eq_true rfl⟩ ?_
        refine R_istore_n [_, _, _] 43 rfl dX10_next_42 rfl (by decide) ?_
        refine R_iload_n 44 rfl dX10_next_43 rfl ?_
        refine R_if_ge 47 52 rfl rfl dX10_next_44 (by first | assumption | exact ⟨by omega, by omega⟩) (fun h44 => ?_) (fun h44 => ?_)
        · refine R_iload_n 53 rfl dX10_next_52 rfl ?_
          refine R_ireturn dX10_next_53 rfl ?_
          first
            | exact QI_mk ⟨by rw [if_pos ⟨h5, h25⟩, if_pos (by omega)], f17.s88, hCS⟩
            | exact QI_mk ⟨by rw [if_pos ⟨h5, h25⟩, if_neg (by omega)], f17.s88, hCS⟩
        · refine R_bipush 49 rfl dX10_next_47 (by decide) ?_
          refine R_goto 53 rfl dX10_next_49 ?_
          refine R_ireturn dX10_next_53 rfl ?_
          first
            | exact QI_mk ⟨by rw [if_pos ⟨h5, h25⟩, if_pos (by omega)], f17.s88, hCS⟩
            | exact QI_mk ⟨by rw [if_pos ⟨h5, h25⟩, if_neg (by omega)], f17.s88, hCS⟩
      · refine R_iconst 29 rfl dX10_next_28 ?_
        refine R_ireturn dX10_next_29 rfl ?_
        exact QI_mk ⟨by rw [if_neg (fun q => h25 q.2)], f17.s88, hCS⟩
    · refine R_iconst 9 rfl dX10_next_8 ?_
      refine R_ireturn dX10_next_9 rfl ?_
      exact QI_mk ⟨by rw [if_neg (fun q => by omega)], Fs.rf, hCS⟩
end
