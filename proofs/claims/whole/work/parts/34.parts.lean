def oE (x a b : Int) : Int := if 0 < x then a else b
def pD0 (mk0 mk1 : Nat → Int) (g : Nat) : Int := oE (mk0 g) (mk0 g) (mk1 g)
def pU0 (mk0 ab0 ab1 : Nat → Int) (g : Nat) : Int := oE (mk0 g) (ab0 g) (ab1 g)
def pDn (mk0 mk1 : Nat → Int) (n0 n1 : Int) (g : Nat) : Int := 2 * n0 * n1 * pD0 mk0 mk1 g * pD0 mk1 mk0 g
def pMr (mk0 ab0 mk1 ab1 : Nat → Int) (n0 n1 : Int) (g : Nat) : Int := (mk1 g * n0 - mk0 g * n1) * (pU0 mk0 ab0 ab1 g * pD0 mk1 mk0 g + pU0 mk1 ab1 ab0 g * pD0 mk0 mk1 g)
def pBt (mk0 ab0 mk1 ab1 : Nat → Int) (n0 n1 : Int) (g : Nat) : Int := (mk1 g * n0 + mk0 g * n1) * (pU0 mk1 ab1 ab0 g * pD0 mk0 mk1 g - pU0 mk0 ab0 ab1 g * pD0 mk1 mk0 g)
def Rt (m : Mem) (N D : Int) : Prop := m.1 91 0 = rT N D ∧ m.1 91 1 = rB N D
theorem Rt_ra {m : Mem} {N D : Int} : Rt (raM m N D) N D := ⟨by simp [raM, setI], by simp [raM, setI]⟩
def is91 (a : Nat) : Bool := decide (a = 91)
theorem Fr_ra {m : Mem} {N D : Int} : Fr is91 m (raM m N D) := (Fr.rf.set rfl).set rfl
section
variable {Γ : GX} {S : Shp} {m : Mem} {o d : Nat} {mk0 ab0 mk1 ab1 : Nat → Int} {n0 n1 : Int}
theorem c_X6_add0 (N D aT : Int) (hr : Rt m N D) (hD : 0 < D ∧ D < 9223372036854775808) : C Γ mX6_add 2 80 0 0 [vr 91, vl aT, vl 0] SH m (Qv SH m) := by
  refine C_of_R rfl (Nat.le_of_ble_eq_true rfl) ?_
  have b1 := rB_pos (n := N) hD.1
  have b2 := rB_le (n := N) hD.1
  have h1 := hr.2
  refine R_aload_n 1 rfl dX6_add_0 rfl ?_
  refine R_getL 1 4 rfl dX6_add_1 rfl rfl fl_X6_13 ?_
  rw [h1]
  refine R_lload_n 5 rfl dX6_add_4 rfl ?_
  refine R_callS_l (M' := mX6_commonOf) 8 rfl dX6_add_5 ml_X6_22 kmX6_commonOf st_X6_commonOf (c_X6_commonOf _ _ (rB N D).natAbs 0 (by omega) (by omega) (by omega) (by omega)) rfl rfl ⟨Nat.le_of_ble_eq_true rfl, Nat.le_of_ble_eq_true rfl⟩ (Nat.le_of_ble_eq_true rfl) ⟨Nat.le_of_ble_eq_true rfl, Nat.le_of_ble_eq_true rfl⟩ ?_
  refine R_lstore [_, _, _, _, _, _, _] 10 rfl dX6_add_8 rfl (by decide) ?_
  refine R_lload_n 11 rfl dX6_add_10 rfl ?_
  refine R_lconst 12 rfl dX6_add_11 ?_
  refine R_lif_lt 13 16 23 rfl rfl rfl dX6_add_12 dX6_add_13 ⟨by decide, by decide⟩ ⟨by decide, by decide⟩ (fun h13 => ?_) (fun h13 => ?_)
  · refine R_return dX6_add_23 rfl ?_
    exact Qv_mk rfl
  · exfalso; omega
/-- a sum goes on, also by nothing -/
theorem c_X6_addZ (N D aT aB : Int) (hr : Rt m N D) (hD : 0 < D ∧ D < 9223372036854775808) (ha : aB = 0 ∨ 0 < aB ∧ aB ∣ D) (hk : -9223372036854775807 ≤ N + aT * (D / aB) ∧ N + aT * (D / aB) ≤ 9223372036854775807) : C Γ mX6_add 2 80 0 0 [vr 91, vl aT, vl aB] SH m (QV SH (fun m' => Fr is91 m m' ∧ Rt m' (N + aT * (D / aB)) D)) := by
  rcases ha with rfl | ⟨h1, h2⟩
  · refine C_wk (c_X6_add0 N D aT hr hD) (fun r S' m' q => ?_)
    obtain ⟨q1, q2, q3⟩ := q
    subst q3
    exact ⟨q1, q2, Fr.rf, by rw [Int.ediv_zero, Int.mul_zero, Int.add_zero]; exact hr⟩
  · refine C_wk (c_X6_add N D aT aB hr.1 hr.2 hD h1 h2 hk) (fun r S' m' q => ?_)
    obtain ⟨q1, q2, q3⟩ := q
    subst q3
    exact ⟨q1, q2, Fr_ra, Rt_ra⟩
theorem c_X10_ableOf85 (z : Int) (g : Nat) (hPO : PO o d m) (hz : z = (g : Int)) (hg : g < 15) (hT : Tl 85 86 87 m mk0 ab0 n0) (hU : Tl 88 89 90 m mk1 ab1 n1) (hr : ∀ g, g < 15 → 0 ≤ mk0 g ∧ mk0 g ≤ 80) : C Γ mX10_ableOf 0 0 0 0 [vr 85, vr 88, vi z] SH m (Qi SH m (pU0 mk0 ab0 ab1 g)) := by
  refine C_of_R rfl (Nat.le_of_ble_eq_true rfl) ?_
  have hP := hPO.2
  have h1 := hT.2 g hg
  have h2 := hU.2 g hg
  have h3 := hr g hg
  refine R_aload_n 1 rfl dX10_ableOf_0 rfl ?_
  refine R_getP 0 4 rfl dX10_ableOf_1 rfl rfl fl_X10_242 (hP _ _ _ rfl) ?_
  refine R_iload_n 5 rfl dX10_ableOf_4 rfl ?_
  refine R_iald g 6 rfl dX10_ableOf_5 rfl (by first | rfl | omega) (by omega) (by decide) ?_
  refine R_if_le 9 18 rfl rfl dX10_ableOf_6 (by first | assumption | exact ⟨by omega, by omega⟩) (fun h6 => ?_) (fun h6 => ?_)
  · refine R_aload_n 19 rfl dX10_ableOf_18 rfl ?_
    refine R_getP 1 22 rfl dX10_ableOf_19 rfl rfl fl_X10_244 (hP _ _ _ rfl) ?_
    refine R_iload_n 23 rfl dX10_ableOf_22 rfl ?_
    refine R_iald g 24 rfl dX10_ableOf_23 rfl (by first | rfl | omega) (by omega) (by decide) ?_
    refine R_ireturn dX10_ableOf_24 rfl ?_
    first | exact Qi_mk (by unfold pU0 oE; rw [if_pos (by omega)]; omega) | exact Qi_mk (by unfold pU0 oE; rw [if_neg (by omega)]; omega)
  · refine R_aload_n 10 rfl dX10_ableOf_9 rfl ?_
    refine R_getP 1 13 rfl dX10_ableOf_10 rfl rfl fl_X10_244 (hP _ _ _ rfl) ?_
    refine R_iload_n 14 rfl dX10_ableOf_13 rfl ?_
    refine R_iald g 15 rfl dX10_ableOf_14 rfl (by first | rfl | omega) (by omega) (by decide) ?_
    refine R_goto 24 rfl dX10_ableOf_15 ?_
    refine R_ireturn dX10_ableOf_24 rfl ?_
    first | exact Qi_mk (by unfold pU0 oE; rw [if_pos (by omega)]; omega) | exact Qi_mk (by unfold pU0 oE; rw [if_neg (by omega)]; omega)
theorem c_X10_marksOf85 (z : Int) (g : Nat) (hPO : PO o d m) (hz : z = (g : Int)) (hg : g < 15) (hT : Tl 85 86 87 m mk0 ab0 n0) (hU : Tl 88 89 90 m mk1 ab1 n1) (hr : ∀ g, g < 15 → 0 ≤ mk0 g ∧ mk0 g ≤ 80) : C Γ mX10_marksOf 0 0 0 0 [vr 85, vr 88, vi z] SH m (Qi SH m (pD0 mk0 mk1 g)) := by
  refine C_of_R rfl (Nat.le_of_ble_eq_true rfl) ?_
  have hP := hPO.2
  have h1 := hT.2 g hg
  have h2 := hU.2 g hg
  have h3 := hr g hg
  refine R_aload_n 1 rfl dX10_marksOf_0 rfl ?_
  refine R_getP 0 4 rfl dX10_marksOf_1 rfl rfl fl_X10_242 (hP _ _ _ rfl) ?_
  refine R_iload_n 5 rfl dX10_marksOf_4 rfl ?_
  refine R_iald g 6 rfl dX10_marksOf_5 rfl (by first | rfl | omega) (by omega) (by decide) ?_
  refine R_if_le 9 18 rfl rfl dX10_marksOf_6 (by first | assumption | exact ⟨by omega, by omega⟩) (fun h6 => ?_) (fun h6 => ?_)
  · refine R_aload_n 19 rfl dX10_marksOf_18 rfl ?_
    refine R_getP 0 22 rfl dX10_marksOf_19 rfl rfl fl_X10_242 (hP _ _ _ rfl) ?_
    refine R_iload_n 23 rfl dX10_marksOf_22 rfl ?_
    refine R_iald g 24 rfl dX10_marksOf_23 rfl (by first | rfl | omega) (by omega) (by decide) ?_
    refine R_ireturn dX10_marksOf_24 rfl ?_
    first | exact Qi_mk (by unfold pD0 oE; rw [if_pos (by omega)]; omega) | exact Qi_mk (by unfold pD0 oE; rw [if_neg (by omega)]; omega)
  · refine R_aload_n 10 rfl dX10_marksOf_9 rfl ?_
    refine R_getP 0 13 rfl dX10_marksOf_10 rfl rfl fl_X10_242 (hP _ _ _ rfl) ?_
    refine R_iload_n 14 rfl dX10_marksOf_13 rfl ?_
    refine R_iald g 15 rfl dX10_marksOf_14 rfl (by first | rfl | omega) (by omega) (by decide) ?_
    refine R_goto 24 rfl dX10_marksOf_15 ?_
    refine R_ireturn dX10_marksOf_24 rfl ?_
    first | exact Qi_mk (by unfold pD0 oE; rw [if_pos (by omega)]; omega) | exact Qi_mk (by unfold pD0 oE; rw [if_neg (by omega)]; omega)
theorem c_X10_ableOf88 (z : Int) (g : Nat) (hPO : PO o d m) (hz : z = (g : Int)) (hg : g < 15) (hT : Tl 88 89 90 m mk1 ab1 n1) (hU : Tl 85 86 87 m mk0 ab0 n0) (hr : ∀ g, g < 15 → 0 ≤ mk1 g ∧ mk1 g ≤ 80) : C Γ mX10_ableOf 0 0 0 0 [vr 88, vr 85, vi z] SH m (Qi SH m (pU0 mk1 ab1 ab0 g)) := by
  refine C_of_R rfl (Nat.le_of_ble_eq_true rfl) ?_
  have hP := hPO.2
  have h1 := hT.2 g hg
  have h2 := hU.2 g hg
  have h3 := hr g hg
  refine R_aload_n 1 rfl dX10_ableOf_0 rfl ?_
  refine R_getP 0 4 rfl dX10_ableOf_1 rfl rfl fl_X10_242 (hP _ _ _ rfl) ?_
  refine R_iload_n 5 rfl dX10_ableOf_4 rfl ?_
  refine R_iald g 6 rfl dX10_ableOf_5 rfl (by first | rfl | omega) (by omega) (by decide) ?_
  refine R_if_le 9 18 rfl rfl dX10_ableOf_6 (by first | assumption | exact ⟨by omega, by omega⟩) (fun h6 => ?_) (fun h6 => ?_)
  · refine R_aload_n 19 rfl dX10_ableOf_18 rfl ?_
    refine R_getP 1 22 rfl dX10_ableOf_19 rfl rfl fl_X10_244 (hP _ _ _ rfl) ?_
    refine R_iload_n 23 rfl dX10_ableOf_22 rfl ?_
    refine R_iald g 24 rfl dX10_ableOf_23 rfl (by first | rfl | omega) (by omega) (by decide) ?_
    refine R_ireturn dX10_ableOf_24 rfl ?_
    first | exact Qi_mk (by unfold pU0 oE; rw [if_pos (by omega)]; omega) | exact Qi_mk (by unfold pU0 oE; rw [if_neg (by omega)]; omega)
  · refine R_aload_n 10 rfl dX10_ableOf_9 rfl ?_
    refine R_getP 1 13 rfl dX10_ableOf_10 rfl rfl fl_X10_244 (hP _ _ _ rfl) ?_
    refine R_iload_n 14 rfl dX10_ableOf_13 rfl ?_
    refine R_iald g 15 rfl dX10_ableOf_14 rfl (by first | rfl | omega) (by omega) (by decide) ?_
    refine R_goto 24 rfl dX10_ableOf_15 ?_
    refine R_ireturn dX10_ableOf_24 rfl ?_
    first | exact Qi_mk (by unfold pU0 oE; rw [if_pos (by omega)]; omega) | exact Qi_mk (by unfold pU0 oE; rw [if_neg (by omega)]; omega)
theorem c_X10_marksOf88 (z : Int) (g : Nat) (hPO : PO o d m) (hz : z = (g : Int)) (hg : g < 15) (hT : Tl 88 89 90 m mk1 ab1 n1) (hU : Tl 85 86 87 m mk0 ab0 n0) (hr : ∀ g, g < 15 → 0 ≤ mk1 g ∧ mk1 g ≤ 80) : C Γ mX10_marksOf 0 0 0 0 [vr 88, vr 85, vi z] SH m (Qi SH m (pD0 mk1 mk0 g)) := by
  refine C_of_R rfl (Nat.le_of_ble_eq_true rfl) ?_
  have hP := hPO.2
  have h1 := hT.2 g hg
  have h2 := hU.2 g hg
  have h3 := hr g hg
  refine R_aload_n 1 rfl dX10_marksOf_0 rfl ?_
  refine R_getP 0 4 rfl dX10_marksOf_1 rfl rfl fl_X10_242 (hP _ _ _ rfl) ?_
  refine R_iload_n 5 rfl dX10_marksOf_4 rfl ?_
  refine R_iald g 6 rfl dX10_marksOf_5 rfl (by first | rfl | omega) (by omega) (by decide) ?_
  refine R_if_le 9 18 rfl rfl dX10_marksOf_6 (by first | assumption | exact ⟨by omega, by omega⟩) (fun h6 => ?_) (fun h6 => ?_)
  · refine R_aload_n 19 rfl dX10_marksOf_18 rfl ?_
    refine R_getP 0 22 rfl dX10_marksOf_19 rfl rfl fl_X10_242 (hP _ _ _ rfl) ?_
    refine R_iload_n 23 rfl dX10_marksOf_22 rfl ?_
    refine R_iald g 24 rfl dX10_marksOf_23 rfl (by first | rfl | omega) (by omega) (by decide) ?_
    refine R_ireturn dX10_marksOf_24 rfl ?_
    first | exact Qi_mk (by unfold pD0 oE; rw [if_pos (by omega)]; omega) | exact Qi_mk (by unfold pD0 oE; rw [if_neg (by omega)]; omega)
  · refine R_aload_n 10 rfl dX10_marksOf_9 rfl ?_
    refine R_getP 0 13 rfl dX10_marksOf_10 rfl rfl fl_X10_242 (hP _ _ _ rfl) ?_
    refine R_iload_n 14 rfl dX10_marksOf_13 rfl ?_
    refine R_iald g 15 rfl dX10_marksOf_14 rfl (by first | rfl | omega) (by omega) (by decide) ?_
    refine R_goto 24 rfl dX10_marksOf_15 ?_
    refine R_ireturn dX10_marksOf_24 rfl ?_
    first | exact Qi_mk (by unfold pD0 oE; rw [if_pos (by omega)]; omega) | exact Qi_mk (by unfold pD0 oE; rw [if_neg (by omega)]; omega)
theorem oE_rg {x a b : Int} (ha : 0 ≤ a ∧ a ≤ 80) (hb : 0 ≤ b ∧ b ≤ 80) : 0 ≤ oE x a b ∧ oE x a b ≤ 80 := by unfold oE; split <;> assumption
theorem c_X10_bottomOf (z : Int) (g : Nat) (hPO : PO o d m) (hz : z = (g : Int)) (hg : g < 15) (hT : Tl 85 86 87 m mk0 ab0 n0) (hU : Tl 88 89 90 m mk1 ab1 n1) (hr0 : ∀ g, g < 15 → 0 ≤ mk0 g ∧ mk0 g ≤ 80) (hr1 : ∀ g, g < 15 → 0 ≤ mk1 g ∧ mk1 g ≤ 80) (hn : (0 ≤ n0 ∧ n0 ≤ 80) ∧ 0 ≤ n1 ∧ n1 ≤ 80) : C Γ mX10_bottomOf 1 40 0 0 [vr 0, vi z] SH m (Ql SH m (pDn mk0 mk1 n0 n1 g)) := by
  refine C_of_R rfl (Nat.le_of_ble_eq_true rfl) ?_
  have hP := hPO.2
  have h0 := hT.1
  have h1 := hU.1
  have h3 : 0 ≤ pD0 mk0 mk1 g ∧ pD0 mk0 mk1 g ≤ 80 := oE_rg (hr0 g hg) (hr1 g hg)
  have h4 : 0 ≤ pD0 mk1 mk0 g ∧ pD0 mk1 mk0 g ≤ 80 := oE_rg (hr1 g hg) (hr0 g hg)
  refine R_ldc2 (2) 3 rfl dX10_bottomOf_0 kl_X10_430 (by decide) ?_
  refine R_aload_n 4 rfl dX10_bottomOf_3 rfl ?_
  refine R_getP 11 7 rfl dX10_bottomOf_4 rfl rfl fl_X10_78 (hP _ _ _ rfl) ?_
  refine R_getI 2 10 rfl dX10_bottomOf_7 rfl rfl fl_X10_313 ?_
  refine R_i2l 11 rfl dX10_bottomOf_10 (by first | assumption | exact ⟨by omega, by omega⟩) ?_
  refine R_lmul 12 rfl dX10_bottomOf_11 ?_
  refine R_aload_n 13 rfl dX10_bottomOf_12 rfl ?_
  refine R_getP 12 16 rfl dX10_bottomOf_13 rfl rfl fl_X10_82 (hP _ _ _ rfl) ?_
  refine R_getI 2 19 rfl dX10_bottomOf_16 rfl rfl fl_X10_313 ?_
  refine R_i2l 20 rfl dX10_bottomOf_19 (by first | assumption | exact ⟨by omega, by omega⟩) ?_
  refine R_lmul 21 rfl dX10_bottomOf_20 ?_
  refine R_aload_n 22 rfl dX10_bottomOf_21 rfl ?_
  refine R_getP 11 25 rfl dX10_bottomOf_22 rfl rfl fl_X10_78 (hP _ _ _ rfl) ?_
  refine R_aload_n 26 rfl dX10_bottomOf_25 rfl ?_
  refine R_getP 12 29 rfl dX10_bottomOf_26 rfl rfl fl_X10_82 (hP _ _ _ rfl) ?_
  refine R_iload_n 30 rfl dX10_bottomOf_29 rfl ?_
  refine R_callS_i (M' := mX10_marksOf) 33 rfl dX10_bottomOf_30 ml_X10_432 kmX10_marksOf st_X10_marksOf (c_X10_marksOf85 _ g hPO hz hg hT hU hr0) rfl rfl ⟨Nat.le_of_ble_eq_true rfl, Nat.le_of_ble_eq_true rfl⟩ (Nat.le_of_ble_eq_true rfl) ⟨Nat.le_of_ble_eq_true rfl, Nat.le_of_ble_eq_true rfl⟩ ?_
  refine R_i2l 34 rfl dX10_bottomOf_33 (by first | assumption | exact ⟨by omega, by omega⟩) ?_
  refine R_lmul 35 rfl dX10_bottomOf_34 ?_
  refine R_aload_n 36 rfl dX10_bottomOf_35 rfl ?_
  refine R_getP 12 39 rfl dX10_bottomOf_36 rfl rfl fl_X10_82 (hP _ _ _ rfl) ?_
  refine R_aload_n 40 rfl dX10_bottomOf_39 rfl ?_
  refine R_getP 11 43 rfl dX10_bottomOf_40 rfl rfl fl_X10_78 (hP _ _ _ rfl) ?_
  refine R_iload_n 44 rfl dX10_bottomOf_43 rfl ?_
  refine R_callS_i (M' := mX10_marksOf) 47 rfl dX10_bottomOf_44 ml_X10_432 kmX10_marksOf st_X10_marksOf (c_X10_marksOf88 _ g hPO hz hg hU hT hr1) rfl rfl ⟨Nat.le_of_ble_eq_true rfl, Nat.le_of_ble_eq_true rfl⟩ (Nat.le_of_ble_eq_true rfl) ⟨Nat.le_of_ble_eq_true rfl, Nat.le_of_ble_eq_true rfl⟩ ?_
  refine R_i2l 48 rfl dX10_bottomOf_47 (by first | assumption | exact ⟨by omega, by omega⟩) ?_
  refine R_lmul 49 rfl dX10_bottomOf_48 ?_
  refine R_lreturn dX10_bottomOf_49 rfl ?_
  exact Ql_mk (by rw [h0, h1]; rfl)
theorem c_X10_addMore (z : Int) (g : Nat) (N D : Int) (hPO : PO o d m) (hz : z = (g : Int)) (hg : g < 15) (hT : Tl 85 86 87 m mk0 ab0 n0) (hU : Tl 88 89 90 m mk1 ab1 n1) (hr0 : ∀ g, g < 15 → (0 ≤ mk0 g ∧ mk0 g ≤ 80) ∧ 0 ≤ ab0 g ∧ ab0 g ≤ 80) (hr1 : ∀ g, g < 15 → (0 ≤ mk1 g ∧ mk1 g ≤ 80) ∧ 0 ≤ ab1 g ∧ ab1 g ≤ 80) (hn : (0 ≤ n0 ∧ n0 ≤ 80) ∧ 0 ≤ n1 ∧ n1 ≤ 80)
    (hR : Rt m N D) (hD : 0 < D ∧ D < 9223372036854775808) (ha : pDn mk0 mk1 n0 n1 g = 0 ∨ 0 < pDn mk0 mk1 n0 n1 g ∧ pDn mk0 mk1 n0 n1 g ∣ D) (hk : -9223372036854775807 ≤ N + pMr mk0 ab0 mk1 ab1 n0 n1 g * (D / pDn mk0 mk1 n0 n1 g) ∧ N + pMr mk0 ab0 mk1 ab1 n0 n1 g * (D / pDn mk0 mk1 n0 n1 g) ≤ 9223372036854775807) :
    C Γ mX10_addMore 3 120 0 0 [vr 0, vi z] SH m (QV SH (fun m' => Fr is91 m m' ∧ Rt m' (N + pMr mk0 ab0 mk1 ab1 n0 n1 g * (D / pDn mk0 mk1 n0 n1 g)) D)) := by
  refine C_of_R rfl (Nat.le_of_ble_eq_true rfl) ?_
  have hP := hPO.2
  have h0 := hT.1
  have h1 := hU.1
  have h5 := hT.2 g hg
  have h6 := hU.2 g hg
  have r0 := hr0 g hg
  have r1 := hr1 g hg
  have q0 : ∀ g, g < 15 → 0 ≤ mk0 g ∧ mk0 g ≤ 80 := fun g h => (hr0 g h).1
  have q1 : ∀ g, g < 15 → 0 ≤ mk1 g ∧ mk1 g ≤ 80 := fun g h => (hr1 g h).1
  have h3 : 0 ≤ pD0 mk0 mk1 g ∧ pD0 mk0 mk1 g ≤ 80 := oE_rg r0.1 r1.1
  have h4 : 0 ≤ pD0 mk1 mk0 g ∧ pD0 mk1 mk0 g ≤ 80 := oE_rg r1.1 r0.1
  have u3 : 0 ≤ pU0 mk0 ab0 ab1 g ∧ pU0 mk0 ab0 ab1 g ≤ 80 := oE_rg r0.2 r1.2
  have u4 : 0 ≤ pU0 mk1 ab1 ab0 g ∧ pU0 mk1 ab1 ab0 g ≤ 80 := oE_rg r1.2 r0.2
  have M85 := fun (z : Int) (hz : z = (g : Int)) => c_X10_marksOf85 (Γ := Γ) z g hPO hz hg hT hU q0
  have M88 := fun (z : Int) (hz : z = (g : Int)) => c_X10_marksOf88 (Γ := Γ) z g hPO hz hg hU hT q1
  have A85 := fun (z : Int) (hz : z = (g : Int)) => c_X10_ableOf85 (Γ := Γ) z g hPO hz hg hT hU q0
  have A88 := fun (z : Int) (hz : z = (g : Int)) => c_X10_ableOf88 (Γ := Γ) z g hPO hz hg hU hT q1
  refine R_aload_n 1 rfl dX10_addMore_0 rfl ?_
  refine R_getP 12 4 rfl dX10_addMore_1 rfl rfl fl_X10_82 (hP _ _ _ rfl) ?_
  refine R_getP 0 7 rfl dX10_addMore_4 rfl rfl fl_X10_242 (hP _ _ _ rfl) ?_
  refine R_iload_n 8 rfl dX10_addMore_7 rfl ?_
  refine R_iald g 9 rfl dX10_addMore_8 rfl (by first | rfl | omega) (by omega) (by decide) ?_
  refine R_i2l 10 rfl dX10_addMore_9 (by first | assumption | exact ⟨by omega, by omega⟩) ?_
  refine R_aload_n 11 rfl dX10_addMore_10 rfl ?_
  refine R_getP 11 14 rfl dX10_addMore_11 rfl rfl fl_X10_78 (hP _ _ _ rfl) ?_
  refine R_getI 2 17 rfl dX10_addMore_14 rfl rfl fl_X10_313 ?_
  refine R_i2l 18 rfl dX10_addMore_17 (by first | assumption | exact ⟨by omega, by omega⟩) ?_
  refine R_lmul 19 rfl dX10_addMore_18 ?_
  refine R_aload_n 20 rfl dX10_addMore_19 rfl ?_
  refine R_getP 11 23 rfl dX10_addMore_20 rfl rfl fl_X10_78 (hP _ _ _ rfl) ?_
  refine R_getP 0 26 rfl dX10_addMore_23 rfl rfl fl_X10_242 (hP _ _ _ rfl) ?_
  refine R_iload_n 27 rfl dX10_addMore_26 rfl ?_
  refine R_iald g 28 rfl dX10_addMore_27 rfl (by first | rfl | omega) (by omega) (by decide) ?_
  refine R_i2l 29 rfl dX10_addMore_28 (by first | assumption | exact ⟨by omega, by omega⟩) ?_
  refine R_aload_n 30 rfl dX10_addMore_29 rfl ?_
  refine R_getP 12 33 rfl dX10_addMore_30 rfl rfl fl_X10_82 (hP _ _ _ rfl) ?_
  refine R_getI 2 36 rfl dX10_addMore_33 rfl rfl fl_X10_313 ?_
  refine R_i2l 37 rfl dX10_addMore_36 (by first | assumption | exact ⟨by omega, by omega⟩) ?_
  refine R_lmul 38 rfl dX10_addMore_37 ?_
  refine R_lsub 39 rfl dX10_addMore_38 ?_
  refine R_lstore_n [_, _, _, _, _, _] 40 rfl dX10_addMore_39 rfl (by decide) ?_
  refine R_aload_n 41 rfl dX10_addMore_40 rfl ?_
  refine R_getP 11 44 rfl dX10_addMore_41 rfl rfl fl_X10_78 (hP _ _ _ rfl) ?_
  refine R_aload_n 45 rfl dX10_addMore_44 rfl ?_
  refine R_getP 12 48 rfl dX10_addMore_45 rfl rfl fl_X10_82 (hP _ _ _ rfl) ?_
  refine R_iload_n 49 rfl dX10_addMore_48 rfl ?_
  refine R_callS_i (M' := mX10_ableOf) 52 rfl dX10_addMore_49 ml_X10_435 kmX10_ableOf st_X10_ableOf (A85 _ hz) rfl rfl ⟨Nat.le_of_ble_eq_true rfl, Nat.le_of_ble_eq_true rfl⟩ (Nat.le_of_ble_eq_true rfl) ⟨Nat.le_of_ble_eq_true rfl, Nat.le_of_ble_eq_true rfl⟩ ?_
  refine R_i2l 53 rfl dX10_addMore_52 (by first | assumption | exact ⟨by omega, by omega⟩) ?_
  refine R_aload_n 54 rfl dX10_addMore_53 rfl ?_
  refine R_getP 12 57 rfl dX10_addMore_54 rfl rfl fl_X10_82 (hP _ _ _ rfl) ?_
  refine R_aload_n 58 rfl dX10_addMore_57 rfl ?_
  refine R_getP 11 61 rfl dX10_addMore_58 rfl rfl fl_X10_78 (hP _ _ _ rfl) ?_
  refine R_iload_n 62 rfl dX10_addMore_61 rfl ?_
  refine R_callS_i (M' := mX10_marksOf) 65 rfl dX10_addMore_62 ml_X10_432 kmX10_marksOf st_X10_marksOf (M88 _ hz) rfl rfl ⟨Nat.le_of_ble_eq_true rfl, Nat.le_of_ble_eq_true rfl⟩ (Nat.le_of_ble_eq_true rfl) ⟨Nat.le_of_ble_eq_true rfl, Nat.le_of_ble_eq_true rfl⟩ ?_
  refine R_i2l 66 rfl dX10_addMore_65 (by first | assumption | exact ⟨by omega, by omega⟩) ?_
  refine R_lmul 67 rfl dX10_addMore_66 ?_
  refine R_aload_n 68 rfl dX10_addMore_67 rfl ?_
  refine R_getP 12 71 rfl dX10_addMore_68 rfl rfl fl_X10_82 (hP _ _ _ rfl) ?_
  refine R_aload_n 72 rfl dX10_addMore_71 rfl ?_
  refine R_getP 11 75 rfl dX10_addMore_72 rfl rfl fl_X10_78 (hP _ _ _ rfl) ?_
  refine R_iload_n 76 rfl dX10_addMore_75 rfl ?_
  refine R_callS_i (M' := mX10_ableOf) 79 rfl dX10_addMore_76 ml_X10_435 kmX10_ableOf st_X10_ableOf (A88 _ hz) rfl rfl ⟨Nat.le_of_ble_eq_true rfl, Nat.le_of_ble_eq_true rfl⟩ (Nat.le_of_ble_eq_true rfl) ⟨Nat.le_of_ble_eq_true rfl, Nat.le_of_ble_eq_true rfl⟩ ?_
  refine R_i2l 80 rfl dX10_addMore_79 (by first | assumption | exact ⟨by omega, by omega⟩) ?_
  refine R_aload_n 81 rfl dX10_addMore_80 rfl ?_
  refine R_getP 11 84 rfl dX10_addMore_81 rfl rfl fl_X10_78 (hP _ _ _ rfl) ?_
  refine R_aload_n 85 rfl dX10_addMore_84 rfl ?_
  refine R_getP 12 88 rfl dX10_addMore_85 rfl rfl fl_X10_82 (hP _ _ _ rfl) ?_
  refine R_iload_n 89 rfl dX10_addMore_88 rfl ?_
  refine R_callS_i (M' := mX10_marksOf) 92 rfl dX10_addMore_89 ml_X10_432 kmX10_marksOf st_X10_marksOf (M85 _ hz) rfl rfl ⟨Nat.le_of_ble_eq_true rfl, Nat.le_of_ble_eq_true rfl⟩ (Nat.le_of_ble_eq_true rfl) ⟨Nat.le_of_ble_eq_true rfl, Nat.le_of_ble_eq_true rfl⟩ ?_
  refine R_i2l 93 rfl dX10_addMore_92 (by first | assumption | exact ⟨by omega, by omega⟩) ?_
  refine R_lmul 94 rfl dX10_addMore_93 ?_
  refine R_ladd 95 rfl dX10_addMore_94 ?_
  refine R_lstore [_, _, _, _, _, _] 97 rfl dX10_addMore_95 rfl (by decide) ?_
  refine R_aload_n 98 rfl dX10_addMore_97 rfl ?_
  refine R_getP 13 101 rfl dX10_addMore_98 rfl rfl fl_X10_88 (hP _ _ _ rfl) ?_
  refine R_lload_n 102 rfl dX10_addMore_101 rfl ?_
  refine R_lload 104 rfl dX10_addMore_102 rfl ?_
  refine R_lmul 105 rfl dX10_addMore_104 ?_
  refine R_topL (b := pMr mk0 ab0 mk1 ab1 n0 n1 g) (by rw [h0, h1, h5.1, h6.1]; rfl) ?_
  refine R_aload_n 106 rfl dX10_addMore_105 rfl ?_
  refine R_iload_n 107 rfl dX10_addMore_106 rfl ?_
  refine R_callV_l (M' := mX10_bottomOf) 110 rfl dX10_addMore_107 ml_X10_438 kmX10_bottomOf im_X10_bottomOf se_X10_bottomOf rfl ⟨by decide, rfl⟩ (c_X10_bottomOf _ g hPO hz hg hT hU q0 q1 hn) rfl rfl ⟨Nat.le_of_ble_eq_true rfl, Nat.le_of_ble_eq_true rfl⟩ (Nat.le_of_ble_eq_true rfl) ⟨Nat.le_of_ble_eq_true rfl, Nat.le_of_ble_eq_true rfl⟩ ?_
  refine R_callV_V (M' := mX6_add) 113 rfl dX10_addMore_110 ml_X10_287 kmX6_add im_X6_add se_X6_add rfl ⟨by decide, rfl⟩ (c_X6_addZ N D _ _ hR hD ha hk) rfl rfl ⟨Nat.le_of_ble_eq_true rfl, Nat.le_of_ble_eq_true rfl⟩ (Nat.le_of_ble_eq_true rfl) ⟨Nat.le_of_ble_eq_true rfl, Nat.le_of_ble_eq_true rfl⟩ ?_
  rintro m110 h110
  refine R_return dX10_addMore_113 rfl ?_
  exact QV_mk h110
theorem c_X10_addBetter (z : Int) (g : Nat) (N D : Int) (hPO : PO o d m) (hz : z = (g : Int)) (hg : g < 15) (hT : Tl 85 86 87 m mk0 ab0 n0) (hU : Tl 88 89 90 m mk1 ab1 n1) (hr0 : ∀ g, g < 15 → (0 ≤ mk0 g ∧ mk0 g ≤ 80) ∧ 0 ≤ ab0 g ∧ ab0 g ≤ 80) (hr1 : ∀ g, g < 15 → (0 ≤ mk1 g ∧ mk1 g ≤ 80) ∧ 0 ≤ ab1 g ∧ ab1 g ≤ 80) (hn : (0 ≤ n0 ∧ n0 ≤ 80) ∧ 0 ≤ n1 ∧ n1 ≤ 80)
    (hR : Rt m N D) (hD : 0 < D ∧ D < 9223372036854775808) (ha : pDn mk0 mk1 n0 n1 g = 0 ∨ 0 < pDn mk0 mk1 n0 n1 g ∧ pDn mk0 mk1 n0 n1 g ∣ D) (hk : -9223372036854775807 ≤ N + pBt mk0 ab0 mk1 ab1 n0 n1 g * (D / pDn mk0 mk1 n0 n1 g) ∧ N + pBt mk0 ab0 mk1 ab1 n0 n1 g * (D / pDn mk0 mk1 n0 n1 g) ≤ 9223372036854775807) :
    C Γ mX10_addBetter 3 120 0 0 [vr 0, vi z] SH m (QV SH (fun m' => Fr is91 m m' ∧ Rt m' (N + pBt mk0 ab0 mk1 ab1 n0 n1 g * (D / pDn mk0 mk1 n0 n1 g)) D)) := by
  refine C_of_R rfl (Nat.le_of_ble_eq_true rfl) ?_
  have hP := hPO.2
  have h0 := hT.1
  have h1 := hU.1
  have h5 := hT.2 g hg
  have h6 := hU.2 g hg
  have r0 := hr0 g hg
  have r1 := hr1 g hg
  have q0 : ∀ g, g < 15 → 0 ≤ mk0 g ∧ mk0 g ≤ 80 := fun g h => (hr0 g h).1
  have q1 : ∀ g, g < 15 → 0 ≤ mk1 g ∧ mk1 g ≤ 80 := fun g h => (hr1 g h).1
  have h3 : 0 ≤ pD0 mk0 mk1 g ∧ pD0 mk0 mk1 g ≤ 80 := oE_rg r0.1 r1.1
  have h4 : 0 ≤ pD0 mk1 mk0 g ∧ pD0 mk1 mk0 g ≤ 80 := oE_rg r1.1 r0.1
  have u3 : 0 ≤ pU0 mk0 ab0 ab1 g ∧ pU0 mk0 ab0 ab1 g ≤ 80 := oE_rg r0.2 r1.2
  have u4 : 0 ≤ pU0 mk1 ab1 ab0 g ∧ pU0 mk1 ab1 ab0 g ≤ 80 := oE_rg r1.2 r0.2
  have M85 := fun (z : Int) (hz : z = (g : Int)) => c_X10_marksOf85 (Γ := Γ) z g hPO hz hg hT hU q0
  have M88 := fun (z : Int) (hz : z = (g : Int)) => c_X10_marksOf88 (Γ := Γ) z g hPO hz hg hU hT q1
  have A85 := fun (z : Int) (hz : z = (g : Int)) => c_X10_ableOf85 (Γ := Γ) z g hPO hz hg hT hU q0
  have A88 := fun (z : Int) (hz : z = (g : Int)) => c_X10_ableOf88 (Γ := Γ) z g hPO hz hg hU hT q1
  refine R_aload_n 1 rfl dX10_addBetter_0 rfl ?_
  refine R_getP 12 4 rfl dX10_addBetter_1 rfl rfl fl_X10_82 (hP _ _ _ rfl) ?_
  refine R_getP 0 7 rfl dX10_addBetter_4 rfl rfl fl_X10_242 (hP _ _ _ rfl) ?_
  refine R_iload_n 8 rfl dX10_addBetter_7 rfl ?_
  refine R_iald g 9 rfl dX10_addBetter_8 rfl (by first | rfl | omega) (by omega) (by decide) ?_
  refine R_i2l 10 rfl dX10_addBetter_9 (by first | assumption | exact ⟨by omega, by omega⟩) ?_
  refine R_aload_n 11 rfl dX10_addBetter_10 rfl ?_
  refine R_getP 11 14 rfl dX10_addBetter_11 rfl rfl fl_X10_78 (hP _ _ _ rfl) ?_
  refine R_getI 2 17 rfl dX10_addBetter_14 rfl rfl fl_X10_313 ?_
  refine R_i2l 18 rfl dX10_addBetter_17 (by first | assumption | exact ⟨by omega, by omega⟩) ?_
  refine R_lmul 19 rfl dX10_addBetter_18 ?_
  refine R_aload_n 20 rfl dX10_addBetter_19 rfl ?_
  refine R_getP 11 23 rfl dX10_addBetter_20 rfl rfl fl_X10_78 (hP _ _ _ rfl) ?_
  refine R_getP 0 26 rfl dX10_addBetter_23 rfl rfl fl_X10_242 (hP _ _ _ rfl) ?_
  refine R_iload_n 27 rfl dX10_addBetter_26 rfl ?_
  refine R_iald g 28 rfl dX10_addBetter_27 rfl (by first | rfl | omega) (by omega) (by decide) ?_
  refine R_i2l 29 rfl dX10_addBetter_28 (by first | assumption | exact ⟨by omega, by omega⟩) ?_
  refine R_aload_n 30 rfl dX10_addBetter_29 rfl ?_
  refine R_getP 12 33 rfl dX10_addBetter_30 rfl rfl fl_X10_82 (hP _ _ _ rfl) ?_
  refine R_getI 2 36 rfl dX10_addBetter_33 rfl rfl fl_X10_313 ?_
  refine R_i2l 37 rfl dX10_addBetter_36 (by first | assumption | exact ⟨by omega, by omega⟩) ?_
  refine R_lmul 38 rfl dX10_addBetter_37 ?_
  refine R_ladd 39 rfl dX10_addBetter_38 ?_
  refine R_lstore_n [_, _, _, _, _, _] 40 rfl dX10_addBetter_39 rfl (by decide) ?_
  refine R_aload_n 41 rfl dX10_addBetter_40 rfl ?_
  refine R_getP 12 44 rfl dX10_addBetter_41 rfl rfl fl_X10_82 (hP _ _ _ rfl) ?_
  refine R_aload_n 45 rfl dX10_addBetter_44 rfl ?_
  refine R_getP 11 48 rfl dX10_addBetter_45 rfl rfl fl_X10_78 (hP _ _ _ rfl) ?_
  refine R_iload_n 49 rfl dX10_addBetter_48 rfl ?_
  refine R_callS_i (M' := mX10_ableOf) 52 rfl dX10_addBetter_49 ml_X10_435 kmX10_ableOf st_X10_ableOf (A88 _ hz) rfl rfl ⟨Nat.le_of_ble_eq_true rfl, Nat.le_of_ble_eq_true rfl⟩ (Nat.le_of_ble_eq_true rfl) ⟨Nat.le_of_ble_eq_true rfl, Nat.le_of_ble_eq_true rfl⟩ ?_
  refine R_i2l 53 rfl dX10_addBetter_52 (by first | assumption | exact ⟨by omega, by omega⟩) ?_
  refine R_aload_n 54 rfl dX10_addBetter_53 rfl ?_
  refine R_getP 11 57 rfl dX10_addBetter_54 rfl rfl fl_X10_78 (hP _ _ _ rfl) ?_
  refine R_aload_n 58 rfl dX10_addBetter_57 rfl ?_
  refine R_getP 12 61 rfl dX10_addBetter_58 rfl rfl fl_X10_82 (hP _ _ _ rfl) ?_
  refine R_iload_n 62 rfl dX10_addBetter_61 rfl ?_
  refine R_callS_i (M' := mX10_marksOf) 65 rfl dX10_addBetter_62 ml_X10_432 kmX10_marksOf st_X10_marksOf (M85 _ hz) rfl rfl ⟨Nat.le_of_ble_eq_true rfl, Nat.le_of_ble_eq_true rfl⟩ (Nat.le_of_ble_eq_true rfl) ⟨Nat.le_of_ble_eq_true rfl, Nat.le_of_ble_eq_true rfl⟩ ?_
  refine R_i2l 66 rfl dX10_addBetter_65 (by first | assumption | exact ⟨by omega, by omega⟩) ?_
  refine R_lmul 67 rfl dX10_addBetter_66 ?_
  refine R_aload_n 68 rfl dX10_addBetter_67 rfl ?_
  refine R_getP 11 71 rfl dX10_addBetter_68 rfl rfl fl_X10_78 (hP _ _ _ rfl) ?_
  refine R_aload_n 72 rfl dX10_addBetter_71 rfl ?_
  refine R_getP 12 75 rfl dX10_addBetter_72 rfl rfl fl_X10_82 (hP _ _ _ rfl) ?_
  refine R_iload_n 76 rfl dX10_addBetter_75 rfl ?_
  refine R_callS_i (M' := mX10_ableOf) 79 rfl dX10_addBetter_76 ml_X10_435 kmX10_ableOf st_X10_ableOf (A85 _ hz) rfl rfl ⟨Nat.le_of_ble_eq_true rfl, Nat.le_of_ble_eq_true rfl⟩ (Nat.le_of_ble_eq_true rfl) ⟨Nat.le_of_ble_eq_true rfl, Nat.le_of_ble_eq_true rfl⟩ ?_
  refine R_i2l 80 rfl dX10_addBetter_79 (by first | assumption | exact ⟨by omega, by omega⟩) ?_
  refine R_aload_n 81 rfl dX10_addBetter_80 rfl ?_
  refine R_getP 12 84 rfl dX10_addBetter_81 rfl rfl fl_X10_82 (hP _ _ _ rfl) ?_
  refine R_aload_n 85 rfl dX10_addBetter_84 rfl ?_
  refine R_getP 11 88 rfl dX10_addBetter_85 rfl rfl fl_X10_78 (hP _ _ _ rfl) ?_
  refine R_iload_n 89 rfl dX10_addBetter_88 rfl ?_
  refine R_callS_i (M' := mX10_marksOf) 92 rfl dX10_addBetter_89 ml_X10_432 kmX10_marksOf st_X10_marksOf (M88 _ hz) rfl rfl ⟨Nat.le_of_ble_eq_true rfl, Nat.le_of_ble_eq_true rfl⟩ (Nat.le_of_ble_eq_true rfl) ⟨Nat.le_of_ble_eq_true rfl, Nat.le_of_ble_eq_true rfl⟩ ?_
  refine R_i2l 93 rfl dX10_addBetter_92 (by first | assumption | exact ⟨by omega, by omega⟩) ?_
  refine R_lmul 94 rfl dX10_addBetter_93 ?_
  refine R_lsub 95 rfl dX10_addBetter_94 ?_
  refine R_lstore [_, _, _, _, _, _] 97 rfl dX10_addBetter_95 rfl (by decide) ?_
  refine R_aload_n 98 rfl dX10_addBetter_97 rfl ?_
  refine R_getP 13 101 rfl dX10_addBetter_98 rfl rfl fl_X10_88 (hP _ _ _ rfl) ?_
  refine R_lload_n 102 rfl dX10_addBetter_101 rfl ?_
  refine R_lload 104 rfl dX10_addBetter_102 rfl ?_
  refine R_lmul 105 rfl dX10_addBetter_104 ?_
  refine R_topL (b := pBt mk0 ab0 mk1 ab1 n0 n1 g) (by rw [h0, h1, h5.1, h6.1]; rfl) ?_
  refine R_aload_n 106 rfl dX10_addBetter_105 rfl ?_
  refine R_iload_n 107 rfl dX10_addBetter_106 rfl ?_
  refine R_callV_l (M' := mX10_bottomOf) 110 rfl dX10_addBetter_107 ml_X10_438 kmX10_bottomOf im_X10_bottomOf se_X10_bottomOf rfl ⟨by decide, rfl⟩ (c_X10_bottomOf _ g hPO hz hg hT hU q0 q1 hn) rfl rfl ⟨Nat.le_of_ble_eq_true rfl, Nat.le_of_ble_eq_true rfl⟩ (Nat.le_of_ble_eq_true rfl) ⟨Nat.le_of_ble_eq_true rfl, Nat.le_of_ble_eq_true rfl⟩ ?_
  refine R_callV_V (M' := mX6_add) 113 rfl dX10_addBetter_110 ml_X10_287 kmX6_add im_X6_add se_X6_add rfl ⟨by decide, rfl⟩ (c_X6_addZ N D _ _ hR hD ha hk) rfl rfl ⟨Nat.le_of_ble_eq_true rfl, Nat.le_of_ble_eq_true rfl⟩ (Nat.le_of_ble_eq_true rfl) ⟨Nat.le_of_ble_eq_true rfl, Nat.le_of_ble_eq_true rfl⟩ ?_
  rintro m110 h110
  refine R_return dX10_addBetter_113 rfl ?_
  exact QV_mk h110
end
