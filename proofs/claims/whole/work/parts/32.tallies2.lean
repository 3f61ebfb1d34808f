theorem Ft.mk {t : Nat} {m m1 m2 : Mem} (h : Fk m m1) (h2 : Fr (isT t) m1 m2) : Ft t m m2 := ⟨fun a k q1 q2 => (h2.1 a k q2).trans (h.1 a k q1), fun a k q => by rw [h2.2]; exact h.2 a k q⟩
theorem Ft.s88 {m m2 : Mem} (h : Ft 88 m m2) : Fs m m2 := ⟨fun a k q => h.1 a k (by simp [isQ] at q; simp [isK]; omega) (isT_88 a q), h.2⟩
theorem Ft.s85 {m m2 : Mem} (h : Ft 85 m m2) : Fs m m2 := ⟨fun a k q => h.1 a k (by simp [isQ] at q; simp [isK]; omega) (isT_85 a q), h.2⟩
theorem Tl.fr {t t1 t2 : Nat} {F : Nat → Bool} {m m' : Mem} {mk ab : Nat → Int} {al : Int} (h : Tl t t1 t2 m mk ab al) (hf : Fr F m m') (h0 : F t = false) (h1 : F t1 = false) (h2 : F t2 = false) : Tl t t1 t2 m' mk ab al := ⟨by rw [hf.1 t 2 h0]; exact h.1, fun g hg => by rw [hf.1 t1 g h1, hf.1 t2 g h2]; exact h.2 g hg⟩
theorem Tl.ft {m m' : Mem} {mk ab : Nat → Int} {al : Int} (h : Tl 85 86 87 m mk ab al) (hf : Ft 88 m m') : Tl 85 86 87 m' mk ab al := ⟨by rw [hf.1 85 2 rfl rfl]; exact h.1, fun g hg => by rw [hf.1 86 g rfl rfl, hf.1 87 g rfl rfl]; exact h.2 g hg⟩
def tnY (L : Ld) (B : Bk) (k : Nat) : Int := B.2.1 1 (k / 2) - B.2.2 1 k + L.1 2
def tnA (L : Ld) (B : Bk) (ch : Cs) (c k : Nat) : Bool := decide (B.2.2 1 k ≠ 0) && decide (-60 ≤ tnY L B k ∧ tnY L B k ≤ 89) && inC B ch c k
theorem tnA_iff {L : Ld} {B : Bk} {ch : Cs} {c k : Nat} : tnA L B ch c k = true ↔ (B.2.2 1 k ≠ 0 ∧ (-60 ≤ tnY L B k ∧ tnY L B k ≤ 89) ∧ inC B ch c k = true) := by simp [tnA, and_assoc]
def tnP (L : Ld) (B : Bk) (ch : Cs) (c g k : Nat) : Bool := tnA L B ch c k && decide ((tnY L B k + 60) / 10 = (g : Int))
def tnQ (L : Ld) (B : Bk) (ch : Cs) (c g k : Nat) : Bool := tnP L B ch c g k && abl L B k
def tnM (L : Ld) (B : Bk) (ch : Cs) (c g : Nat) : Int := (cnt (tnP L B ch c g) (2 * B.1) : Int)
def tnB (L : Ld) (B : Bk) (ch : Cs) (c g : Nat) : Int := (cnt (tnQ L B ch c g) (2 * B.1) : Int)
def qtG (L : Ld) (B : Bk) (kn : Nat) (yr : Int) (k : Nat) : Int := (if 0 ≤ L.2.1 (2 + kn) (B.2.1 0 (k / 2)).toNat ∧ L.2.1 (2 + kn) (B.2.1 0 (k / 2)).toNat ≤ yr then 2 else 0) + (if yr ≤ B.2.1 1 (k / 2) then 1 else 0)
theorem qtG_rg {L : Ld} {B : Bk} {kn k : Nat} {yr : Int} : 0 ≤ qtG L B kn yr k ∧ qtG L B kn yr k < 4 := by unfold qtG; split <;> split <;> omega
def qtP (L : Ld) (B : Bk) (ch : Cs) (kn : Nat) (yr : Int) (g k : Nat) : Bool := inC B ch 0 k && decide (qtG L B kn yr k = (g : Int))
def qtQ (L : Ld) (B : Bk) (ch : Cs) (kn : Nat) (yr : Int) (g k : Nat) : Bool := qtP L B ch kn yr g k && abl L B k
def qtM (L : Ld) (B : Bk) (ch : Cs) (kn : Nat) (yr : Int) (g : Nat) : Int := (cnt (qtP L B ch kn yr g) (2 * B.1) : Int)
def qtB (L : Ld) (B : Bk) (ch : Cs) (kn : Nat) (yr : Int) (g : Nat) : Int := (cnt (qtQ L B ch kn yr g) (2 * B.1) : Int)
theorem cnt_01 (p : Nat → Bool) : ((0 : Int)) = (cnt p 0 : Int) := rfl
section
variable {Γ : GX} {m : Mem} {B : Bk} {L : Ld} {ch : Cs} {o d : Nat} {Q : Option AV → Shp → Mem → Prop}
theorem c_X10_tallyGroups85 (c : Nat) (gr cz : Int) (hCS : CS o d L B ch m) (hcz : cz = (c : Int)) (hc : c < 2) (hg : 0 ≤ gr ∧ gr ≤ 3) : C Γ mX10_tallyGroups 5 200 0 0 [vr 0, vr 85, vi cz, vi gr] SH m (QV SH (fun m' => Ft 85 m m' ∧ CS o d L B ch m' ∧ KF L B m' ∧ Tl 85 86 87 m' (tgM B ch c gr) (tgA L B ch c gr) (tgN B ch c))) := by
  refine C_of_R rfl (Nat.le_of_ble_eq_true rfl) ?_
  have hPO := hCS.1
  have hP := hPO.2
  refine R_aload_n 1 rfl dX10_tallyGroups_0 rfl ?_
  refine R_getP 6 4 rfl dX10_tallyGroups_1 rfl rfl fl_X10_47 (hP _ _ _ rfl) ?_
  refine R_aload_n 5 rfl dX10_tallyGroups_4 rfl ?_
  refine R_getP 5 8 rfl dX10_tallyGroups_5 rfl rfl fl_X10_40 (hP _ _ _ rfl) ?_
  refine R_aload_n 9 rfl dX10_tallyGroups_8 rfl ?_
  refine R_getP 2 12 rfl dX10_tallyGroups_9 rfl rfl fl_X10_26 (PO_o hPO) ?_
  refine R_callV_V (M' := mX3_renew) 15 rfl dX10_tallyGroups_12 ml_X10_163 kmX3_renew im_X3_renew se_X3_renew rfl ⟨by decide, rfl⟩ (c_renew hCS) rfl rfl ⟨Nat.le_of_ble_eq_true rfl, Nat.le_of_ble_eq_true rfl⟩ (Nat.le_of_ble_eq_true rfl) ⟨Nat.le_of_ble_eq_true rfl, Nat.le_of_ble_eq_true rfl⟩ ?_
  rintro m12 h12
  obtain ⟨hf, hCS, hKF⟩ := h12
  clear hPO hP
  have hPO := hCS.1
  refine R_aload_n 16 rfl dX10_tallyGroups_15 rfl ?_
  refine R_callV_V (M' := mX8_clear) 19 rfl dX10_tallyGroups_16 ml_X10_422 kmX8_clear im_X8_clear se_X8_clear rfl ⟨by decide, rfl⟩ (c_X8_clear85 hPO) rfl rfl ⟨Nat.le_of_ble_eq_true rfl, Nat.le_of_ble_eq_true rfl⟩ (Nat.le_of_ble_eq_true rfl) ⟨Nat.le_of_ble_eq_true rfl, Nat.le_of_ble_eq_true rfl⟩ ?_
  rintro m16 h16
  obtain ⟨hf2, hT⟩ := h16
  have hCS2 := hCS.fr hf2 (fun a q1 q2 => by simp [isT]; omega)
  have hKF2 := hKF.fr hf2 rfl rfl rfl
  refine R_iconst 20 rfl dX10_tallyGroups_19 ?_
  refine R_istore [_, _, _, _, _] 22 rfl dX10_tallyGroups_20 rfl (by decide) ?_
  exact l_X10_tallyGroups85 c gr cz hCS2 hKF2 hcz hc hg (fun mm q1 q2 => QV_mk ⟨Ft.mk hf (hf2.tr q1), hCS2.fr q1 (fun a q1 q2 => by simp [isT]; omega), hKF2.fr q1 rfl rfl rfl, q2⟩) 0 (by omega) _ _ Fr.rf hT rfl
theorem c_X10_tallyGroups88 (c : Nat) (gr cz : Int) (hCS : CS o d L B ch m) (hcz : cz = (c : Int)) (hc : c < 2) (hg : 0 ≤ gr ∧ gr ≤ 3) : C Γ mX10_tallyGroups 5 200 0 0 [vr 0, vr 88, vi cz, vi gr] SH m (QV SH (fun m' => Ft 88 m m' ∧ CS o d L B ch m' ∧ KF L B m' ∧ Tl 88 89 90 m' (tgM B ch c gr) (tgA L B ch c gr) (tgN B ch c))) := by
  refine C_of_R rfl (Nat.le_of_ble_eq_true rfl) ?_
  have hPO := hCS.1
  have hP := hPO.2
  refine R_aload_n 1 rfl dX10_tallyGroups_0 rfl ?_
  refine R_getP 6 4 rfl dX10_tallyGroups_1 rfl rfl fl_X10_47 (hP _ _ _ rfl) ?_
  refine R_aload_n 5 rfl dX10_tallyGroups_4 rfl ?_
  refine R_getP 5 8 rfl dX10_tallyGroups_5 rfl rfl fl_X10_40 (hP _ _ _ rfl) ?_
  refine R_aload_n 9 rfl dX10_tallyGroups_8 rfl ?_
  refine R_getP 2 12 rfl dX10_tallyGroups_9 rfl rfl fl_X10_26 (PO_o hPO) ?_
  refine R_callV_V (M' := mX3_renew) 15 rfl dX10_tallyGroups_12 ml_X10_163 kmX3_renew im_X3_renew se_X3_renew rfl ⟨by decide, rfl⟩ (c_renew hCS) rfl rfl ⟨Nat.le_of_ble_eq_true rfl, Nat.le_of_ble_eq_true rfl⟩ (Nat.le_of_ble_eq_true rfl) ⟨Nat.le_of_ble_eq_true rfl, Nat.le_of_ble_eq_true rfl⟩ ?_
  rintro m12 h12
  obtain ⟨hf, hCS, hKF⟩ := h12
  clear hPO hP
  have hPO := hCS.1
  refine R_aload_n 16 rfl dX10_tallyGroups_15 rfl ?_
  refine R_callV_V (M' := mX8_clear) 19 rfl dX10_tallyGroups_16 ml_X10_422 kmX8_clear im_X8_clear se_X8_clear rfl ⟨by decide, rfl⟩ (c_X8_clear88 hPO) rfl rfl ⟨Nat.le_of_ble_eq_true rfl, Nat.le_of_ble_eq_true rfl⟩ (Nat.le_of_ble_eq_true rfl) ⟨Nat.le_of_ble_eq_true rfl, Nat.le_of_ble_eq_true rfl⟩ ?_
  rintro m16 h16
  obtain ⟨hf2, hT⟩ := h16
  have hCS2 := hCS.fr hf2 (fun a q1 q2 => by simp [isT]; omega)
  have hKF2 := hKF.fr hf2 rfl rfl rfl
  refine R_iconst 20 rfl dX10_tallyGroups_19 ?_
  refine R_istore [_, _, _, _, _] 22 rfl dX10_tallyGroups_20 rfl (by decide) ?_
  exact l_X10_tallyGroups88 c gr cz hCS2 hKF2 hcz hc hg (fun mm q1 q2 => QV_mk ⟨Ft.mk hf (hf2.tr q1), hCS2.fr q1 (fun a q1 q2 => by simp [isT]; omega), hKF2.fr q1 rfl rfl rfl, q2⟩) 0 (by omega) _ _ Fr.rf hT rfl
theorem l_X10_tallyTens {m0 : Mem} (c : Nat) (cz : Int) (hCS0 : CS o d L B ch m0) (hKF0 : KF L B m0) (hcz : cz = (c : Int)) (hc : c < 2) (hQ : ∀ mm, Fr (isT 88) m0 mm → Tl 88 89 90 mm (tnM L B ch c) (tnB L B ch c) (cnt (tnA L B ch c) (2 * B.1) : Int) → Q none SH mm) : ∀ k, k ≤ 2 * B.1 → ∀ m z (l3 l4 : Option AV), Fr (isT 88) m0 m → Tl 88 89 90 m (fun g => (cnt (tnP L B ch c g) k : Int)) (fun g => (cnt (tnQ L B ch c g) k : Int)) (cnt (tnA L B ch c) k : Int) → z = (k : Int) → R Γ mX10_tallyTens { frames := 5, cells := 0, slots := 0, locals := 200 } 0 0 Q 0 0 24 [some (vr 0), some (vi cz), some (vi z), l3, l4] [] SH m := by
  refine up_ind (2 * B.1) (fun k hk ih m z l3 l4 hf hT hz => ?_)
  have hCS := hCS0.fr hf (fun a q1 q2 => by simp [isT]; omega)
  have hKF := hKF0.fr hf rfl rfl rfl
  obtain ⟨hPO, hB, hO, hL, hLO, hC, hCO, hst, hkc⟩ := id hCS
  have hP := hPO.2
  have h5 := hO.1
  have h6 := hLO.1
  have hK : ∀ j, j < 2 * B.1 → m.1 42 j = kd L B j := fun j hj => (hKF.2 j hj).1
  have hL2 := hL
  have e1 : tnY L B k = B.2.1 1 (k / 2) - B.2.2 1 k + L.1 2 := rfl
  rcases hL with ⟨rfl, hL⟩ | ⟨rfl, hL⟩
  all_goals
    have h8 := hL.1
    refine R_iload_n 25 rfl dX10_tallyTens_24 rfl ?_
    refine R_aload_n 26 rfl dX10_tallyTens_25 rfl ?_
    refine R_getP 5 29 rfl dX10_tallyTens_26 rfl rfl fl_X10_40 (hP _ _ _ rfl) ?_
    refine R_callV_i (M' := mX0_marks) 32 rfl dX10_tallyTens_29 ml_X10_167 kmX0_marks im_X0_marks se_X0_marks rfl ⟨by decide, rfl⟩ (c_X0_marks hB) rfl rfl ⟨Nat.le_of_ble_eq_true rfl, Nat.le_of_ble_eq_true rfl⟩ (Nat.le_of_ble_eq_true rfl) ⟨Nat.le_of_ble_eq_true rfl, Nat.le_of_ble_eq_true rfl⟩ ?_
    refine R_icmp_ge 35 129 rfl rfl dX10_tallyTens_32 (by first | assumption | exact ⟨by omega, by omega⟩) (by first | assumption | exact ⟨by omega, by omega⟩) (fun h32 => ?_) (fun h32 => ?_)
    · refine R_return dX10_tallyTens_129 rfl ?_
      exact hQ _ hf (by rw [show k = 2 * B.1 by omega] at hT; exact hT)
    · have r1 := hO.2.1 (k / 2) (by omega)
      have r2 := hO.2.2 k (by omega)
      obtain ⟨s0, s1, s2, s3, s4⟩ := hB.2.2 k (by omega)
      refine R_aload_n 36 rfl dX10_tallyTens_35 rfl ?_
      refine R_getP 5 39 rfl dX10_tallyTens_36 rfl rfl fl_X10_40 (hP _ _ _ rfl) ?_
      refine R_getP 2 42 rfl dX10_tallyTens_39 rfl rfl fl_X10_196 (hP _ _ _ rfl) ?_
      refine R_iconst 43 rfl dX10_tallyTens_42 ?_
      refine R_aald 1 44 rfl dX10_tallyTens_43 rfl rfl (by first | rfl | omega) (by decide) (by decide) (hP _ _ _ rfl) ?_
      refine R_iload_n 45 rfl dX10_tallyTens_44 rfl ?_
      refine R_iald k 46 rfl dX10_tallyTens_45 rfl (by first | rfl | omega) (by omega) (by decide) ?_
      refine R_istore_n [_, _, _, _, _] 47 rfl dX10_tallyTens_46 rfl (by decide) ?_
      refine R_aload_n 48 rfl dX10_tallyTens_47 rfl ?_
      refine R_getP 5 51 rfl dX10_tallyTens_48 rfl rfl fl_X10_40 (hP _ _ _ rfl) ?_
      refine R_iload_n 52 rfl dX10_tallyTens_51 rfl ?_
      refine R_callV_i (M' := mX0_yearOf) 55 rfl dX10_tallyTens_52 ml_X10_419 kmX0_yearOf im_X0_yearOf se_X0_yearOf rfl ⟨by decide, rfl⟩ (c_X0_yearOf _ k hPO hB (by omega) (by omega) (by omega)) rfl rfl ⟨Nat.le_of_ble_eq_true rfl, Nat.le_of_ble_eq_true rfl⟩ (Nat.le_of_ble_eq_true rfl) ⟨Nat.le_of_ble_eq_true rfl, Nat.le_of_ble_eq_true rfl⟩ ?_
      refine R_iload_n 56 rfl dX10_tallyTens_55 rfl ?_
      refine R_isub 57 rfl dX10_tallyTens_56 ?_
      refine R_aload_n 58 rfl dX10_tallyTens_57 rfl ?_
      refine R_getP 2 61 rfl dX10_tallyTens_58 rfl rfl fl_X10_26 (PO_o hPO) ?_
      refine R_getI 2 64 rfl dX10_tallyTens_61 rfl rfl fl_X10_131 ?_
      refine R_iadd 65 rfl dX10_tallyTens_64 ?_
      refine R_istore [_, _, _, _, _] 67 rfl dX10_tallyTens_65 rfl (by decide) ?_
      refine R_iload_n 68 rfl dX10_tallyTens_67 rfl ?_
      refine R_if_eq 71 123 rfl rfl dX10_tallyTens_68 (by first | assumption | exact ⟨by omega, by omega⟩) (fun h68 => ?_) (fun h68 => ?_)
      · refine R_iinc [_, _, _, _, _] 126 rfl dX10_tallyTens_123 rfl rfl (by decide) ?_
        refine R_goto 24 rfl dX10_tallyTens_126 ?_
        first | exact ih (by omega) _ _ _ _ (hf.tr h120.1) (Tl_yes (P := tnP L B ch c) (Qa := tnQ L B ch c) (A := tnA L B ch c) ((tnY L B k + 60) / 10).toNat h120.2 (tnA_iff.mpr ⟨by omega, by omega, h97⟩) (by unfold tnP; rw [tnA_iff.mpr ⟨by omega, by omega, h97⟩]; simp; omega) (fun g e => by simp [tnP]; omega) (pI_congr (by unfold tnQ tnP; rw [tnA_iff.mpr ⟨by omega, by omega, h97⟩]; simp; omega)) (fun g e => by simp [tnQ, tnP]; omega)) (by omega) | exact ih (by omega) _ _ _ _ hf (Tl_no (P := tnP L B ch c) (Qa := tnQ L B ch c) (A := tnA L B ch c) hT (fun q => by have := tnA_iff.mp q; first | omega | exact absurd this.2.2 h97) (fun g q => by simp [tnP] at q; exact q.1) (fun g q => by simp [tnQ, tnP] at q; exact q.1.1)) (by omega)
      · refine R_iload 73 rfl dX10_tallyTens_71 rfl ?_
        refine R_bipush 75 rfl dX10_tallyTens_73 (by decide) ?_
        refine R_bipush 77 rfl dX10_tallyTens_75 (by decide) ?_
        refine R_callS_i (M' := mX10_within) 80 rfl dX10_tallyTens_77 ml_X10_108 kmX10_within st_X10_within (c_X10_within _ _ _ (by first | assumption | exact ⟨by omega, by omega⟩) (by first | assumption | exact ⟨by omega, by omega⟩) (by first | assumption | exact ⟨by omega, by omega⟩)) rfl rfl ⟨Nat.le_of_ble_eq_true rfl, Nat.le_of_ble_eq_true rfl⟩ (Nat.le_of_ble_eq_true rfl) ⟨Nat.le_of_ble_eq_true rfl, Nat.le_of_ble_eq_true rfl⟩ ?_
        refine R_ifp_eq 83 123 rfl rfl dX10_tallyTens_80 (fun h80 => ?_) (fun h80 => ?_)
        · refine R_iinc [_, _, _, _, _] 126 rfl dX10_tallyTens_123 rfl rfl (by decide) ?_
          refine R_goto 24 rfl dX10_tallyTens_126 ?_
          first | exact ih (by omega) _ _ _ _ (hf.tr h120.1) (Tl_yes (P := tnP L B ch c) (Qa := tnQ L B ch c) (A := tnA L B ch c) ((tnY L B k + 60) / 10).toNat h120.2 (tnA_iff.mpr ⟨by omega, by omega, h97⟩) (by unfold tnP; rw [tnA_iff.mpr ⟨by omega, by omega, h97⟩]; simp; omega) (fun g e => by simp [tnP]; omega) (pI_congr (by unfold tnQ tnP; rw [tnA_iff.mpr ⟨by omega, by omega, h97⟩]; simp; omega)) (fun g e => by simp [tnQ, tnP]; omega)) (by omega) | exact ih (by omega) _ _ _ _ hf (Tl_no (P := tnP L B ch c) (Qa := tnQ L B ch c) (A := tnA L B ch c) hT (fun q => by have := tnA_iff.mp q; first | omega | exact absurd this.2.2 h97) (fun g q => by simp [tnP] at q; exact q.1) (fun g q => by simp [tnQ, tnP] at q; exact q.1.1)) (by omega)
        · refine R_aload_n 84 rfl dX10_tallyTens_83 rfl ?_
          refine R_getP 7 87 rfl dX10_tallyTens_84 rfl rfl fl_X10_54 (hP _ _ _ rfl) ?_
          refine R_iload_n 88 rfl dX10_tallyTens_87 rfl ?_
          refine R_aald c 89 rfl dX10_tallyTens_88 rfl rfl (by first | rfl | omega) (by omega) (by decide) (PO_ch hPO hc) ?_
          refine R_aload_n 90 rfl dX10_tallyTens_89 rfl ?_
          refine R_getP 5 93 rfl dX10_tallyTens_90 rfl rfl fl_X10_40 (hP _ _ _ rfl) ?_
          refine R_iload_n 94 rfl dX10_tallyTens_93 rfl ?_
          refine R_callV_i (M' := mX1_takes) 97 rfl dX10_tallyTens_94 ml_X10_406 kmX1_takes im_X1_takes se_X1_takes (sh_ch hc) ⟨by decide, rfl⟩ (c_X1_takes _ c k hPO hB hO (by omega) hC hCO hc (by omega) (by omega)) rfl rfl ⟨Nat.le_of_ble_eq_true rfl, Nat.le_of_ble_eq_true rfl⟩ (Nat.le_of_ble_eq_true rfl) ⟨Nat.le_of_ble_eq_true rfl, Nat.le_of_ble_eq_true rfl⟩ ?_
          refine R_ifp_eq 100 123 rfl rfl dX10_tallyTens_97 (fun h97 => ?_) (fun h97 => ?_)
          · refine R_iinc [_, _, _, _, _] 126 rfl dX10_tallyTens_123 rfl rfl (by decide) ?_
            refine R_goto 24 rfl dX10_tallyTens_126 ?_
            first | exact ih (by omega) _ _ _ _ (hf.tr h120.1) (Tl_yes (P := tnP L B ch c) (Qa := tnQ L B ch c) (A := tnA L B ch c) ((tnY L B k + 60) / 10).toNat h120.2 (tnA_iff.mpr ⟨by omega, by omega, h97⟩) (by unfold tnP; rw [tnA_iff.mpr ⟨by omega, by omega, h97⟩]; simp; omega) (fun g e => by simp [tnP]; omega) (pI_congr (by unfold tnQ tnP; rw [tnA_iff.mpr ⟨by omega, by omega, h97⟩]; simp; omega)) (fun g e => by simp [tnQ, tnP]; omega)) (by omega) | exact ih (by omega) _ _ _ _ hf (Tl_no (P := tnP L B ch c) (Qa := tnQ L B ch c) (A := tnA L B ch c) hT (fun q => by have := tnA_iff.mp q; first | omega | exact absurd this.2.2 h97) (fun g q => by simp [tnP] at q; exact q.1) (fun g q => by simp [tnQ, tnP] at q; exact q.1.1)) (by omega)
          · refine R_aload_n 101 rfl dX10_tallyTens_100 rfl ?_
            refine R_getP 12 104 rfl dX10_tallyTens_101 rfl rfl fl_X10_82 (hP _ _ _ rfl) ?_
            refine R_iload 106 rfl dX10_tallyTens_104 rfl ?_
            refine R_bipush 108 rfl dX10_tallyTens_106 (by decide) ?_
            refine R_isub 109 rfl dX10_tallyTens_108 ?_
            refine R_bipush 111 rfl dX10_tallyTens_109 (by decide) ?_
            refine R_idiv_p 112 rfl dX10_tallyTens_111 (by first | assumption | exact ⟨by omega, by omega⟩) (by first | assumption | exact ⟨by omega, by omega⟩) (by omega) (by omega) ?_
            refine R_aload_n 113 rfl dX10_tallyTens_112 rfl ?_
            refine R_getP 6 116 rfl dX10_tallyTens_113 rfl rfl fl_X10_47 (hP _ _ _ rfl) ?_
            refine R_iload_n 117 rfl dX10_tallyTens_116 rfl ?_
            refine R_callV_i (M' := mX3_isAble) 120 rfl dX10_tallyTens_117 ml_X10_413 kmX3_isAble im_X3_isAble se_X3_isAble rfl ⟨by decide, rfl⟩ (c_X3_isAble _ k hPO hK (by omega) (by omega) (by omega)) rfl rfl ⟨Nat.le_of_ble_eq_true rfl, Nat.le_of_ble_eq_true rfl⟩ (Nat.le_of_ble_eq_true rfl) ⟨Nat.le_of_ble_eq_true rfl, Nat.le_of_ble_eq_true rfl⟩ ?_
            refine R_callV_V (M' := mX8_add) 123 rfl dX10_tallyTens_120 ml_X10_427 kmX8_add im_X8_add se_X8_add rfl ⟨by decide, rfl⟩ (c_X8_add88 _ _ ((tnY L B k + 60) / 10).toNat hPO hT (by omega) (by omega) (pI_01 _)) rfl rfl ⟨Nat.le_of_ble_eq_true rfl, Nat.le_of_ble_eq_true rfl⟩ (Nat.le_of_ble_eq_true rfl) ⟨Nat.le_of_ble_eq_true rfl, Nat.le_of_ble_eq_true rfl⟩ ?_
            rintro m120 h120
            refine R_iinc [_, _, _, _, _] 126 rfl dX10_tallyTens_123 rfl rfl (by decide) ?_
            refine R_goto 24 rfl dX10_tallyTens_126 ?_
            first | exact ih (by omega) _ _ _ _ (hf.tr h120.1) (Tl_yes (P := tnP L B ch c) (Qa := tnQ L B ch c) (A := tnA L B ch c) ((tnY L B k + 60) / 10).toNat h120.2 (tnA_iff.mpr ⟨by omega, by omega, h97⟩) (by unfold tnP; rw [tnA_iff.mpr ⟨by omega, by omega, h97⟩]; simp; omega) (fun g e => by simp [tnP]; omega) (pI_congr (by unfold tnQ tnP; rw [tnA_iff.mpr ⟨by omega, by omega, h97⟩]; simp; omega)) (fun g e => by simp [tnQ, tnP]; omega)) (by omega) | exact ih (by omega) _ _ _ _ hf (Tl_no (P := tnP L B ch c) (Qa := tnQ L B ch c) (A := tnA L B ch c) hT (fun q => by have := tnA_iff.mp q; first | omega | exact absurd this.2.2 h97) (fun g q => by simp [tnP] at q; exact q.1) (fun g q => by simp [tnQ, tnP] at q; exact q.1.1)) (by omega)
theorem c_X10_tallyTens (c : Nat) (cz : Int) (hCS : CS o d L B ch m) (hcz : cz = (c : Int)) (hc : c < 2) : C Γ mX10_tallyTens 5 200 0 0 [vr 0, vi cz] SH m (QV SH (fun m' => Fs m m' ∧ CS o d L B ch m' ∧ KF L B m' ∧ Tl 88 89 90 m' (tnM L B ch c) (tnB L B ch c) (cnt (tnA L B ch c) (2 * B.1) : Int))) := by
  refine C_of_R rfl (Nat.le_of_ble_eq_true rfl) ?_
  have hPO := hCS.1
  have hP := hPO.2
  refine R_aload_n 1 rfl dX10_tallyTens_0 rfl ?_
  refine R_getP 6 4 rfl dX10_tallyTens_1 rfl rfl fl_X10_47 (hP _ _ _ rfl) ?_
  refine R_aload_n 5 rfl dX10_tallyTens_4 rfl ?_
  refine R_getP 5 8 rfl dX10_tallyTens_5 rfl rfl fl_X10_40 (hP _ _ _ rfl) ?_
  refine R_aload_n 9 rfl dX10_tallyTens_8 rfl ?_
  refine R_getP 2 12 rfl dX10_tallyTens_9 rfl rfl fl_X10_26 (PO_o hPO) ?_
  refine R_callV_V (M' := mX3_renew) 15 rfl dX10_tallyTens_12 ml_X10_163 kmX3_renew im_X3_renew se_X3_renew rfl ⟨by decide, rfl⟩ (c_renew hCS) rfl rfl ⟨Nat.le_of_ble_eq_true rfl, Nat.le_of_ble_eq_true rfl⟩ (Nat.le_of_ble_eq_true rfl) ⟨Nat.le_of_ble_eq_true rfl, Nat.le_of_ble_eq_true rfl⟩ ?_
  rintro m12 h12
  obtain ⟨hf, hCS, hKF⟩ := h12
  clear hPO hP
  have hPO := hCS.1
  have hP := hPO.2
  refine R_aload_n 16 rfl dX10_tallyTens_15 rfl ?_
  refine R_getP 12 19 rfl dX10_tallyTens_16 rfl rfl fl_X10_82 (hP _ _ _ rfl) ?_
  refine R_callV_V (M' := mX8_clear) 22 rfl dX10_tallyTens_19 ml_X10_422 kmX8_clear im_X8_clear se_X8_clear rfl ⟨by decide, rfl⟩ (c_X8_clear88 hPO) rfl rfl ⟨Nat.le_of_ble_eq_true rfl, Nat.le_of_ble_eq_true rfl⟩ (Nat.le_of_ble_eq_true rfl) ⟨Nat.le_of_ble_eq_true rfl, Nat.le_of_ble_eq_true rfl⟩ ?_
  rintro m19 h19
  obtain ⟨hf2, hT⟩ := h19
  have hCS2 := hCS.fr hf2 (fun a q1 q2 => by simp [isT]; omega)
  have hKF2 := hKF.fr hf2 rfl rfl rfl
  refine R_iconst 23 rfl dX10_tallyTens_22 ?_
  refine R_istore_n [_, _, _, _, _] 24 rfl dX10_tallyTens_23 rfl (by decide) ?_
  exact l_X10_tallyTens c cz hCS2 hKF2 hcz hc (fun mm q1 q2 => QV_mk ⟨(Ft.mk hf (hf2.tr q1)).s88, hCS2.fr q1 (fun a q1 q2 => by simp [isT]; omega), hKF2.fr q1 rfl rfl rfl, q2⟩) 0 (by omega) _ _ _ _ Fr.rf hT rfl
theorem l_X10_tallyQuarters {m0 : Mem} (kn : Nat) (kz yr : Int) (hCS0 : CS o d L B ch m0) (hKF0 : KF L B m0) (hkz : kz = (kn : Int)) (hkn : kn < 2) (hy : 0 ≤ yr ∧ yr ≤ 89) (hQ : ∀ mm, Fr (isT 88) m0 mm → Tl 88 89 90 mm (qtM L B ch kn yr) (qtB L B ch kn yr) (tgN B ch 0) → Q none SH mm) : ∀ k, k ≤ 2 * B.1 → ∀ m z (l4 l5 : Option AV), Fr (isT 88) m0 m → Tl 88 89 90 m (fun g => (cnt (qtP L B ch kn yr g) k : Int)) (fun g => (cnt (qtQ L B ch kn yr g) k : Int)) (cnt (inC B ch 0) k : Int) → z = (k : Int) → R Γ mX10_tallyQuarters { frames := 5, cells := 0, slots := 0, locals := 200 } 0 0 Q 0 0 24 [some (vr 0), some (vi kz), some (vi yr), some (vi z), l4, l5] [] SH m := by
  refine up_ind (2 * B.1) (fun k hk ih m z l4 l5 hf hT hz => ?_)
  have hCS := hCS0.fr hf (fun a q1 q2 => by simp [isT]; omega)
  have hKF := hKF0.fr hf rfl rfl rfl
  obtain ⟨hPO, hB, hO, hL, hLO, hC, hCO, hst, hkc⟩ := id hCS
  have hP := hPO.2
  have h5 := hO.1
  have h6 := hLO.1
  have hK : ∀ j, j < 2 * B.1 → m.1 42 j = kd L B j := fun j hj => (hKF.2 j hj).1
  have hL2 := hL
  have e1 := qtG_rg (L := L) (B := B) (kn := kn) (yr := yr) (k := k)
  rcases (show kn = 0 ∨ kn = 1 by omega) with rfl | rfl
  · have e0 : qtG L B 0 yr k = (if 0 ≤ L.2.1 2 (B.2.1 0 (k / 2)).toNat ∧ L.2.1 2 (B.2.1 0 (k / 2)).toNat ≤ yr then 2 else 0) + (if yr ≤ B.2.1 1 (k / 2) then 1 else 0) := rfl
    rcases hL with ⟨rfl, hL⟩ | ⟨rfl, hL⟩
    all_goals
      have h8 := hL.1
      refine R_iload_n 25 rfl dX10_tallyQuarters_24 rfl ?_
      refine R_aload_n 26 rfl dX10_tallyQuarters_25 rfl ?_
      refine R_getP 5 29 rfl dX10_tallyQuarters_26 rfl rfl fl_X10_40 (hP _ _ _ rfl) ?_
      refine R_callV_i (M' := mX0_marks) 32 rfl dX10_tallyQuarters_29 ml_X10_167 kmX0_marks im_X0_marks se_X0_marks rfl ⟨by decide, rfl⟩ (c_X0_marks hB) rfl rfl ⟨Nat.le_of_ble_eq_true rfl, Nat.le_of_ble_eq_true rfl⟩ (Nat.le_of_ble_eq_true rfl) ⟨Nat.le_of_ble_eq_true rfl, Nat.le_of_ble_eq_true rfl⟩ ?_
      refine R_icmp_ge 35 137 rfl rfl dX10_tallyQuarters_32 (by first | assumption | exact ⟨by omega, by omega⟩) (by first | assumption | exact ⟨by omega, by omega⟩) (fun h32 => ?_) (fun h32 => ?_)
      · refine R_return dX10_tallyQuarters_137 rfl ?_
        exact hQ _ hf (by rw [show k = 2 * B.1 by omega] at hT; exact hT)
      · have r1 := hO.2.1 (k / 2) (by omega)
        have r2 := hB.2.1 (k / 2) (by omega)
        have r3 := hL.2.2.1 (B.2.1 0 (k / 2)).toNat (by omega)
        have r4 := hLO.2.2.1 (B.2.1 0 (k / 2)).toNat (by omega)
        refine R_aload_n 36 rfl dX10_tallyQuarters_35 rfl ?_
        refine R_getP 7 39 rfl dX10_tallyQuarters_36 rfl rfl fl_X10_54 (hP _ _ _ rfl) ?_
        refine R_iconst 40 rfl dX10_tallyQuarters_39 ?_
        refine R_aald 0 41 rfl dX10_tallyQuarters_40 rfl rfl (by first | rfl | omega) (by decide) (by decide) (PO_ch hPO (by decide)) ?_
        refine R_aload_n 42 rfl dX10_tallyQuarters_41 rfl ?_
        refine R_getP 5 45 rfl dX10_tallyQuarters_42 rfl rfl fl_X10_40 (hP _ _ _ rfl) ?_
        refine R_iload_n 46 rfl dX10_tallyQuarters_45 rfl ?_
        refine R_callV_i (M' := mX1_takes) 49 rfl dX10_tallyQuarters_46 ml_X10_406 kmX1_takes im_X1_takes se_X1_takes (sh_ch (by decide)) ⟨by decide, rfl⟩ (c_X1_takes _ 0 k hPO hB hO (by omega) hC hCO (by decide) (by omega) (by omega)) rfl rfl ⟨Nat.le_of_ble_eq_true rfl, Nat.le_of_ble_eq_true rfl⟩ (Nat.le_of_ble_eq_true rfl) ⟨Nat.le_of_ble_eq_true rfl, Nat.le_of_ble_eq_true rfl⟩ ?_
        refine R_ifp_eq 52 131 rfl rfl dX10_tallyQuarters_49 (fun h49 => ?_) (fun h49 => ?_)
        · refine R_iinc [_, _, _, _, _, _] 134 rfl dX10_tallyQuarters_131 rfl rfl (by decide) ?_
          refine R_goto 24 rfl dX10_tallyQuarters_134 ?_
          first | exact ih (by omega) _ _ _ _ (hf.tr h128.1) (Tl_yes (P := qtP L B ch 0 yr) (Qa := qtQ L B ch 0 yr) (A := inC B ch 0) (qtG L B 0 yr k).toNat h128.2 h49 (by simp [qtP, h49]; omega) (fun g e => by simp [qtP]; omega) (pI_congr (by simp [qtQ, qtP, h49]; omega)) (fun g e => by simp [qtQ, qtP]; omega)) (by omega) | exact ih (by omega) _ _ _ _ hf (Tl_no (P := qtP L B ch 0 yr) (Qa := qtQ L B ch 0 yr) (A := inC B ch 0) hT h49 (fun g q => by simp [qtP] at q; exact q.1) (fun g q => by simp [qtQ, qtP] at q; exact q.1.1)) (by omega)
        · refine R_aload_n 53 rfl dX10_tallyQuarters_52 rfl ?_
          refine R_getP 2 56 rfl dX10_tallyQuarters_53 rfl rfl fl_X10_26 (PO_o hPO) ?_
          refine R_getP 8 59 rfl dX10_tallyQuarters_56 rfl rfl fl_X10_157 (hP _ _ _ rfl) ?_
          refine R_iconst 60 rfl dX10_tallyQuarters_59 ?_
          refine R_iload_n 61 rfl dX10_tallyQuarters_60 rfl ?_
          refine R_iadd 62 rfl dX10_tallyQuarters_61 ?_
          refine R_aald 2 63 rfl dX10_tallyQuarters_62 rfl rfl (by first | rfl | omega) (by omega) (by decide) (hP _ _ _ rfl) ?_
          refine R_aload_n 64 rfl dX10_tallyQuarters_63 rfl ?_
          refine R_getP 5 67 rfl dX10_tallyQuarters_64 rfl rfl fl_X10_40 (hP _ _ _ rfl) ?_
          refine R_getP 1 70 rfl dX10_tallyQuarters_67 rfl rfl fl_X10_202 (hP _ _ _ rfl) ?_
          refine R_iconst 71 rfl dX10_tallyQuarters_70 ?_
          refine R_aald 0 72 rfl dX10_tallyQuarters_71 rfl rfl (by first | rfl | omega) (by decide) (by decide) (hP _ _ _ rfl) ?_
          refine R_iload_n 73 rfl dX10_tallyQuarters_72 rfl ?_
          refine R_iconst 74 rfl dX10_tallyQuarters_73 ?_
          refine R_idiv_p 75 rfl dX10_tallyQuarters_74 (by first | assumption | exact ⟨by omega, by omega⟩) (by first | assumption | exact ⟨by omega, by omega⟩) (by omega) (by omega) ?_
          refine R_iald (k / 2) 76 rfl dX10_tallyQuarters_75 rfl (by first | rfl | omega) (by omega) (by decide) ?_
          refine R_iald (B.2.1 0 (k / 2)).toNat 77 rfl dX10_tallyQuarters_76 rfl (by first | rfl | omega) (by omega) (by decide) ?_
          refine R_istore [_, _, _, _, _, _] 79 rfl dX10_tallyQuarters_77 rfl (by decide) ?_
          refine R_iload 81 rfl dX10_tallyQuarters_79 rfl ?_
          refine R_iconst 82 rfl dX10_tallyQuarters_81 ?_
          refine R_iload_n 83 rfl dX10_tallyQuarters_82 rfl ?_
          refine R_callS_i (M' := mX10_within) 86 rfl dX10_tallyQuarters_83 ml_X10_108 kmX10_within st_X10_within (c_X10_within _ _ _ (by first | assumption | exact ⟨by omega, by omega⟩) (by first | assumption | exact ⟨by omega, by omega⟩) (by first | assumption | exact ⟨by omega, by omega⟩)) rfl rfl ⟨Nat.le_of_ble_eq_true rfl, Nat.le_of_ble_eq_true rfl⟩ (Nat.le_of_ble_eq_true rfl) ⟨Nat.le_of_ble_eq_true rfl, Nat.le_of_ble_eq_true rfl⟩ ?_
          refine R_ifp_eq 89 93 rfl rfl dX10_tallyQuarters_86 (fun h86 => ?_) (fun h86 => ?_)
          · refine R_iconst 94 rfl dX10_tallyQuarters_93 ?_
            refine R_istore [_, _, _, _, _, _] 96 rfl dX10_tallyQuarters_94 rfl (by decide) ?_
            refine R_aload_n 97 rfl dX10_tallyQuarters_96 rfl ?_
            refine R_getP 12 100 rfl dX10_tallyQuarters_97 rfl rfl fl_X10_82 (hP _ _ _ rfl) ?_
            refine R_iload 102 rfl dX10_tallyQuarters_100 rfl ?_
            refine R_aload_n 103 rfl dX10_tallyQuarters_102 rfl ?_
            refine R_getP 5 106 rfl dX10_tallyQuarters_103 rfl rfl fl_X10_40 (hP _ _ _ rfl) ?_
            refine R_iload_n 107 rfl dX10_tallyQuarters_106 rfl ?_
            refine R_callV_i (M' := mX0_yearOf) 110 rfl dX10_tallyQuarters_107 ml_X10_419 kmX0_yearOf im_X0_yearOf se_X0_yearOf rfl ⟨by decide, rfl⟩ (c_X0_yearOf _ k hPO hB (by omega) (by omega) (by omega)) rfl rfl ⟨Nat.le_of_ble_eq_true rfl, Nat.le_of_ble_eq_true rfl⟩ (Nat.le_of_ble_eq_true rfl) ⟨Nat.le_of_ble_eq_true rfl, Nat.le_of_ble_eq_true rfl⟩ ?_
            refine R_iload_n 111 rfl dX10_tallyQuarters_110 rfl ?_
            refine R_icmp_lt 114 118 rfl rfl dX10_tallyQuarters_111 (by first | assumption | exact ⟨by omega, by omega⟩) (by first | assumption | exact ⟨by omega, by omega⟩) (fun h111 => ?_) (fun h111 => ?_)
            · refine R_iconst 119 rfl dX10_tallyQuarters_118 ?_
              refine R_iadd 120 rfl dX10_tallyQuarters_119 ?_
              refine R_aload_n 121 rfl dX10_tallyQuarters_120 rfl ?_
              refine R_getP 6 124 rfl dX10_tallyQuarters_121 rfl rfl fl_X10_47 (hP _ _ _ rfl) ?_
              refine R_iload_n 125 rfl dX10_tallyQuarters_124 rfl ?_
              refine R_callV_i (M' := mX3_isAble) 128 rfl dX10_tallyQuarters_125 ml_X10_413 kmX3_isAble im_X3_isAble se_X3_isAble rfl ⟨by decide, rfl⟩ (c_X3_isAble _ k hPO hK (by omega) (by omega) (by omega)) rfl rfl ⟨Nat.le_of_ble_eq_true rfl, Nat.le_of_ble_eq_true rfl⟩ (Nat.le_of_ble_eq_true rfl) ⟨Nat.le_of_ble_eq_true rfl, Nat.le_of_ble_eq_true rfl⟩ ?_
              refine R_callV_V (M' := mX8_add) 131 rfl dX10_tallyQuarters_128 ml_X10_427 kmX8_add im_X8_add se_X8_add rfl ⟨by decide, rfl⟩ (c_X8_add88 _ _ (qtG L B 0 yr k).toNat hPO hT (by omega) (by omega) (pI_01 _)) rfl rfl ⟨Nat.le_of_ble_eq_true rfl, Nat.le_of_ble_eq_true rfl⟩ (Nat.le_of_ble_eq_true rfl) ⟨Nat.le_of_ble_eq_true rfl, Nat.le_of_ble_eq_true rfl⟩ ?_
              rintro m128 h128
              refine R_iinc [_, _, _, _, _, _] 134 rfl dX10_tallyQuarters_131 rfl rfl (by decide) ?_
              refine R_goto 24 rfl dX10_tallyQuarters_134 ?_
              first | exact ih (by omega) _ _ _ _ (hf.tr h128.1) (Tl_yes (P := qtP L B ch 0 yr) (Qa := qtQ L B ch 0 yr) (A := inC B ch 0) (qtG L B 0 yr k).toNat h128.2 h49 (by simp [qtP, h49]; omega) (fun g e => by simp [qtP]; omega) (pI_congr (by simp [qtQ, qtP, h49]; omega)) (fun g e => by simp [qtQ, qtP]; omega)) (by omega) | exact ih (by omega) _ _ _ _ hf (Tl_no (P := qtP L B ch 0 yr) (Qa := qtQ L B ch 0 yr) (A := inC B ch 0) hT h49 (fun g q => by simp [qtP] at q; exact q.1) (fun g q => by simp [qtQ, qtP] at q; exact q.1.1)) (by omega)
            · refine R_iconst 115 rfl dX10_tallyQuarters_114 ?_
              refine R_goto 119 rfl dX10_tallyQuarters_115 ?_
              refine R_iadd 120 rfl dX10_tallyQuarters_119 ?_
              refine R_aload_n 121 rfl dX10_tallyQuarters_120 rfl ?_
              refine R_getP 6 124 rfl dX10_tallyQuarters_121 rfl rfl fl_X10_47 (hP _ _ _ rfl) ?_
              refine R_iload_n 125 rfl dX10_tallyQuarters_124 rfl ?_
              refine R_callV_i (M' := mX3_isAble) 128 rfl dX10_tallyQuarters_125 ml_X10_413 kmX3_isAble im_X3_isAble se_X3_isAble rfl ⟨by decide, rfl⟩ (c_X3_isAble _ k hPO hK (by omega) (by omega) (by omega)) rfl rfl ⟨Nat.le_of_ble_eq_true rfl, Nat.le_of_ble_eq_true rfl⟩ (Nat.le_of_ble_eq_true rfl) ⟨Nat.le_of_ble_eq_true rfl, Nat.le_of_ble_eq_true rfl⟩ ?_
              refine R_callV_V (M' := mX8_add) 131 rfl dX10_tallyQuarters_128 ml_X10_427 kmX8_add im_X8_add se_X8_add rfl ⟨by decide, rfl⟩ (c_X8_add88 _ _ (qtG L B 0 yr k).toNat hPO hT (by omega) (by omega) (pI_01 _)) rfl rfl ⟨Nat.le_of_ble_eq_true rfl, Nat.le_of_ble_eq_true rfl⟩ (Nat.le_of_ble_eq_true rfl) ⟨Nat.le_of_ble_eq_true rfl, Nat.le_of_ble_eq_true rfl⟩ ?_
              rintro m128 h128
              refine R_iinc [_, _, _, _, _, _] 134 rfl dX10_tallyQuarters_131 rfl rfl (by decide) ?_
              refine R_goto 24 rfl dX10_tallyQuarters_134 ?_
              first | exact ih (by omega) _ _ _ _ (hf.tr h128.1) (Tl_yes (P := qtP L B ch 0 yr) (Qa := qtQ L B ch 0 yr) (A := inC B ch 0) (qtG L B 0 yr k).toNat h128.2 h49 (by simp [qtP, h49]; omega) (fun g e => by simp [qtP]; omega) (pI_congr (by simp [qtQ, qtP, h49]; omega)) (fun g e => by simp [qtQ, qtP]; omega)) (by omega) | exact ih (by omega) _ _ _ _ hf (Tl_no (P := qtP L B ch 0 yr) (Qa := qtQ L B ch 0 yr) (A := inC B ch 0) hT h49 (fun g q => by simp [qtP] at q; exact q.1) (fun g q => by simp [qtQ, qtP] at q; exact q.1.1)) (by omega)
          · refine R_iconst 90 rfl dX10_tallyQuarters_89 ?_
            refine R_goto 94 rfl dX10_tallyQuarters_90 ?_
            refine R_istore [_, _, _, _, _, _] 96 rfl dX10_tallyQuarters_94 rfl (by decide) ?_
            refine R_aload_n 97 rfl dX10_tallyQuarters_96 rfl ?_
            refine R_getP 12 100 rfl dX10_tallyQuarters_97 rfl rfl fl_X10_82 (hP _ _ _ rfl) ?_
            refine R_iload 102 rfl dX10_tallyQuarters_100 rfl ?_
            refine R_aload_n 103 rfl dX10_tallyQuarters_102 rfl ?_
            refine R_getP 5 106 rfl dX10_tallyQuarters_103 rfl rfl fl_X10_40 (hP _ _ _ rfl) ?_
            refine R_iload_n 107 rfl dX10_tallyQuarters_106 rfl ?_
            refine R_callV_i (M' := mX0_yearOf) 110 rfl dX10_tallyQuarters_107 ml_X10_419 kmX0_yearOf im_X0_yearOf se_X0_yearOf rfl ⟨by decide, rfl⟩ (c_X0_yearOf _ k hPO hB (by omega) (by omega) (by omega)) rfl rfl ⟨Nat.le_of_ble_eq_true rfl, Nat.le_of_ble_eq_true rfl⟩ (Nat.le_of_ble_eq_true rfl) ⟨Nat.le_of_ble_eq_true rfl, Nat.le_of_ble_eq_true rfl⟩ ?_
            refine R_iload_n 111 rfl dX10_tallyQuarters_110 rfl ?_
            refine R_icmp_lt 114 118 rfl rfl dX10_tallyQuarters_111 (by first | assumption | exact ⟨by omega, by omega⟩) (by first | assumption | exact ⟨by omega, by omega⟩) (fun h111 => ?_) (fun h111 => ?_)
            · refine R_iconst 119 rfl dX10_tallyQuarters_118 ?_
              refine R_iadd 120 rfl dX10_tallyQuarters_119 ?_
              refine R_aload_n 121 rfl dX10_tallyQuarters_120 rfl ?_
              refine R_getP 6 124 rfl dX10_tallyQuarters_121 rfl rfl fl_X10_47 (hP _ _ _ rfl) ?_
              refine R_iload_n 125 rfl dX10_tallyQuarters_124 rfl ?_
              refine R_callV_i (M' := mX3_isAble) 128 rfl dX10_tallyQuarters_125 ml_X10_413 kmX3_isAble im_X3_isAble se_X3_isAble rfl ⟨by decide, rfl⟩ (c_X3_isAble _ k hPO hK (by omega) (by omega) (by omega)) rfl rfl ⟨Nat.le_of_ble_eq_true rfl, Nat.le_of_ble_eq_true rfl⟩ (Nat.le_of_ble_eq_true rfl) ⟨Nat.le_of_ble_eq_true rfl, Nat.le_of_ble_eq_true rfl⟩ ?_
              refine R_callV_V (M' := mX8_add) 131 rfl dX10_tallyQuarters_128 ml_X10_427 kmX8_add im_X8_add se_X8_add rfl ⟨by decide, rfl⟩ (c_X8_add88 _ _ (qtG L B 0 yr k).toNat hPO hT (by omega) (by omega) (pI_01 _)) rfl rfl ⟨Nat.le_of_ble_eq_true rfl, Nat.le_of_ble_eq_true rfl⟩ (Nat.le_of_ble_eq_true rfl) ⟨Nat.le_of_ble_eq_true rfl, Nat.le_of_ble_eq_true rfl⟩ ?_
              rintro m128 h128
              refine R_iinc [_, _, _, _, _, _] 134 rfl dX10_tallyQuarters_131 rfl rfl (by decide) ?_
              refine R_goto 24 rfl dX10_tallyQuarters_134 ?_
              first | exact ih (by omega) _ _ _ _ (hf.tr h128.1) (Tl_yes (P := qtP L B ch 0 yr) (Qa := qtQ L B ch 0 yr) (A := inC B ch 0) (qtG L B 0 yr k).toNat h128.2 h49 (by simp [qtP, h49]; omega) (fun g e => by simp [qtP]; omega) (pI_congr (by simp [qtQ, qtP, h49]; omega)) (fun g e => by simp [qtQ, qtP]; omega)) (by omega) | exact ih (by omega) _ _ _ _ hf (Tl_no (P := qtP L B ch 0 yr) (Qa := qtQ L B ch 0 yr) (A := inC B ch 0) hT h49 (fun g q => by simp [qtP] at q; exact q.1) (fun g q => by simp [qtQ, qtP] at q; exact q.1.1)) (by omega)
            · refine R_iconst 115 rfl dX10_tallyQuarters_114 ?_
              refine R_goto 119 rfl dX10_tallyQuarters_115 ?_
              refine R_iadd 120 rfl dX10_tallyQuarters_119 ?_
              refine R_aload_n 121 rfl dX10_tallyQuarters_120 rfl ?_
              refine R_getP 6 124 rfl dX10_tallyQuarters_121 rfl rfl fl_X10_47 (hP _ _ _ rfl) ?_
              refine R_iload_n 125 rfl dX10_tallyQuarters_124 rfl ?_
              refine R_callV_i (M' := mX3_isAble) 128 rfl dX10_tallyQuarters_125 ml_X10_413 kmX3_isAble im_X3_isAble se_X3_isAble rfl ⟨by decide, rfl⟩ (c_X3_isAble _ k hPO hK (by omega) (by omega) (by omega)) rfl rfl ⟨Nat.le_of_ble_eq_true rfl, Nat.le_of_ble_eq_true rfl⟩ (Nat.le_of_ble_eq_true rfl) ⟨Nat.le_of_ble_eq_true rfl, Nat.le_of_ble_eq_true rfl⟩ ?_
              refine R_callV_V (M' := mX8_add) 131 rfl dX10_tallyQuarters_128 ml_X10_427 kmX8_add im_X8_add se_X8_add rfl ⟨by decide, rfl⟩ (c_X8_add88 _ _ (qtG L B 0 yr k).toNat hPO hT (by omega) (by omega) (pI_01 _)) rfl rfl ⟨Nat.le_of_ble_eq_true rfl, Nat.le_of_ble_eq_true rfl⟩ (Nat.le_of_ble_eq_true rfl) ⟨Nat.le_of_ble_eq_true rfl, Nat.le_of_ble_eq_true rfl⟩ ?_
              rintro m128 h128
              refine R_iinc [_, _, _, _, _, _] 134 rfl dX10_tallyQuarters_131 rfl rfl (by decide) ?_
              refine R_goto 24 rfl dX10_tallyQuarters_134 ?_
              first | exact ih (by omega) _ _ _ _ (hf.tr h128.1) (Tl_yes (P := qtP L B ch 0 yr) (Qa := qtQ L B ch 0 yr) (A := inC B ch 0) (qtG L B 0 yr k).toNat h128.2 h49 (by simp [qtP, h49]; omega) (fun g e => by simp [qtP]; omega) (pI_congr (by simp [qtQ, qtP, h49]; omega)) (fun g e => by simp [qtQ, qtP]; omega)) (by omega) | exact ih (by omega) _ _ _ _ hf (Tl_no (P := qtP L B ch 0 yr) (Qa := qtQ L B ch 0 yr) (A := inC B ch 0) hT h49 (fun g q => by simp [qtP] at q; exact q.1) (fun g q => by simp [qtQ, qtP] at q; exact q.1.1)) (by omega)
  · have e0 : qtG L B 1 yr k = (if 0 ≤ L.2.1 3 (B.2.1 0 (k / 2)).toNat ∧ L.2.1 3 (B.2.1 0 (k / 2)).toNat ≤ yr then 2 else 0) + (if yr ≤ B.2.1 1 (k / 2) then 1 else 0) := rfl
    rcases hL with ⟨rfl, hL⟩ | ⟨rfl, hL⟩
    all_goals
      have h8 := hL.1
      refine R_iload_n 25 rfl dX10_tallyQuarters_24 rfl ?_
      refine R_aload_n 26 rfl dX10_tallyQuarters_25 rfl ?_
      refine R_getP 5 29 rfl dX10_tallyQuarters_26 rfl rfl fl_X10_40 (hP _ _ _ rfl) ?_
      refine R_callV_i (M' := mX0_marks) 32 rfl dX10_tallyQuarters_29 ml_X10_167 kmX0_marks im_X0_marks se_X0_marks rfl ⟨by decide, rfl⟩ (c_X0_marks hB) rfl rfl ⟨Nat.le_of_ble_eq_true rfl, Nat.le_of_ble_eq_true rfl⟩ (Nat.le_of_ble_eq_true rfl) ⟨Nat.le_of_ble_eq_true rfl, Nat.le_of_ble_eq_true rfl⟩ ?_
      refine R_icmp_ge 35 137 rfl rfl dX10_tallyQuarters_32 (by first | assumption | exact ⟨by omega, by omega⟩) (by first | assumption | exact ⟨by omega, by omega⟩) (fun h32 => ?_) (fun h32 => ?_)
      · refine R_return dX10_tallyQuarters_137 rfl ?_
        exact hQ _ hf (by rw [show k = 2 * B.1 by omega] at hT; exact hT)
      · have r1 := hO.2.1 (k / 2) (by omega)
        have r2 := hB.2.1 (k / 2) (by omega)
        have r3 := hL.2.2.1 (B.2.1 0 (k / 2)).toNat (by omega)
        have r4 := hLO.2.2.1 (B.2.1 0 (k / 2)).toNat (by omega)
        refine R_aload_n 36 rfl dX10_tallyQuarters_35 rfl ?_
        refine R_getP 7 39 rfl dX10_tallyQuarters_36 rfl rfl fl_X10_54 (hP _ _ _ rfl) ?_
        refine R_iconst 40 rfl dX10_tallyQuarters_39 ?_
        refine R_aald 0 41 rfl dX10_tallyQuarters_40 rfl rfl (by first | rfl | omega) (by decide) (by decide) (PO_ch hPO (by decide)) ?_
        refine R_aload_n 42 rfl dX10_tallyQuarters_41 rfl ?_
        refine R_getP 5 45 rfl dX10_tallyQuarters_42 rfl rfl fl_X10_40 (hP _ _ _ rfl) ?_
        refine R_iload_n 46 rfl dX10_tallyQuarters_45 rfl ?_
        refine R_callV_i (M' := mX1_takes) 49 rfl dX10_tallyQuarters_46 ml_X10_406 kmX1_takes im_X1_takes se_X1_takes (sh_ch (by decide)) ⟨by decide, rfl⟩ (c_X1_takes _ 0 k hPO hB hO (by omega) hC hCO (by decide) (by omega) (by omega)) rfl rfl ⟨Nat.le_of_ble_eq_true rfl, Nat.le_of_ble_eq_true rfl⟩ (Nat.le_of_ble_eq_true rfl) ⟨Nat.le_of_ble_eq_true rfl, Nat.le_of_ble_eq_true rfl⟩ ?_
        refine R_ifp_eq 52 131 rfl rfl dX10_tallyQuarters_49 (fun h49 => ?_) (fun h49 => ?_)
        · refine R_iinc [_, _, _, _, _, _] 134 rfl dX10_tallyQuarters_131 rfl rfl (by decide) ?_
          refine R_goto 24 rfl dX10_tallyQuarters_134 ?_
          first | exact ih (by omega) _ _ _ _ (hf.tr h128.1) (Tl_yes (P := qtP L B ch 1 yr) (Qa := qtQ L B ch 1 yr) (A := inC B ch 0) (qtG L B 1 yr k).toNat h128.2 h49 (by simp [qtP, h49]; omega) (fun g e => by simp [qtP]; omega) (pI_congr (by simp [qtQ, qtP, h49]; omega)) (fun g e => by simp [qtQ, qtP]; omega)) (by omega) | exact ih (by omega) _ _ _ _ hf (Tl_no (P := qtP L B ch 1 yr) (Qa := qtQ L B ch 1 yr) (A := inC B ch 0) hT h49 (fun g q => by simp [qtP] at q; exact q.1) (fun g q => by simp [qtQ, qtP] at q; exact q.1.1)) (by omega)
        · refine R_aload_n 53 rfl dX10_tallyQuarters_52 rfl ?_
          refine R_getP 2 56 rfl dX10_tallyQuarters_53 rfl rfl fl_X10_26 (PO_o hPO) ?_
          refine R_getP 8 59 rfl dX10_tallyQuarters_56 rfl rfl fl_X10_157 (hP _ _ _ rfl) ?_
          refine R_iconst 60 rfl dX10_tallyQuarters_59 ?_
          refine R_iload_n 61 rfl dX10_tallyQuarters_60 rfl ?_
          refine R_iadd 62 rfl dX10_tallyQuarters_61 ?_
          refine R_aald 3 63 rfl dX10_tallyQuarters_62 rfl rfl (by first | rfl | omega) (by omega) (by decide) (hP _ _ _ rfl) ?_
          refine R_aload_n 64 rfl dX10_tallyQuarters_63 rfl ?_
          refine R_getP 5 67 rfl dX10_tallyQuarters_64 rfl rfl fl_X10_40 (hP _ _ _ rfl) ?_
          refine R_getP 1 70 rfl dX10_tallyQuarters_67 rfl rfl fl_X10_202 (hP _ _ _ rfl) ?_
          refine R_iconst 71 rfl dX10_tallyQuarters_70 ?_
          refine R_aald 0 72 rfl dX10_tallyQuarters_71 rfl rfl (by first | rfl | omega) (by decide) (by decide) (hP _ _ _ rfl) ?_
          refine R_iload_n 73 rfl dX10_tallyQuarters_72 rfl ?_
          refine R_iconst 74 rfl dX10_tallyQuarters_73 ?_
          refine R_idiv_p 75 rfl dX10_tallyQuarters_74 (by first | assumption | exact ⟨by omega, by omega⟩) (by first | assumption | exact ⟨by omega, by omega⟩) (by omega) (by omega) ?_
          refine R_iald (k / 2) 76 rfl dX10_tallyQuarters_75 rfl (by first | rfl | omega) (by omega) (by decide) ?_
          refine R_iald (B.2.1 0 (k / 2)).toNat 77 rfl dX10_tallyQuarters_76 rfl (by first | rfl | omega) (by omega) (by decide) ?_
          refine R_istore [_, _, _, _, _, _] 79 rfl dX10_tallyQuarters_77 rfl (by decide) ?_
          refine R_iload 81 rfl dX10_tallyQuarters_79 rfl ?_
          refine R_iconst 82 rfl dX10_tallyQuarters_81 ?_
          refine R_iload_n 83 rfl dX10_tallyQuarters_82 rfl ?_
          refine R_callS_i (M' := mX10_within) 86 rfl dX10_tallyQuarters_83 ml_X10_108 kmX10_within st_X10_within (c_X10_within _ _ _ (by first | assumption | exact ⟨by omega, by omega⟩) (by first | assumption | exact ⟨by omega, by omega⟩) (by first | assumption | exact ⟨by omega, by omega⟩)) rfl rfl ⟨Nat.le_of_ble_eq_true rfl, Nat.le_of_ble_eq_true rfl⟩ (Nat.le_of_ble_eq_true rfl) ⟨Nat.le_of_ble_eq_true rfl, Nat.le_of_ble_eq_true rfl⟩ ?_
          refine R_ifp_eq 89 93 rfl rfl dX10_tallyQuarters_86 (fun h86 => ?_) (fun h86 => ?_)
          · refine R_iconst 94 rfl dX10_tallyQuarters_93 ?_
            refine R_istore [_, _, _, _, _, _] 96 rfl dX10_tallyQuarters_94 rfl (by decide) ?_
            refine R_aload_n 97 rfl dX10_tallyQuarters_96 rfl ?_
            refine R_getP 12 100 rfl dX10_tallyQuarters_97 rfl rfl fl_X10_82 (hP _ _ _ rfl) ?_
            refine R_iload 102 rfl dX10_tallyQuarters_100 rfl ?_
            refine R_aload_n 103 rfl dX10_tallyQuarters_102 rfl ?_
            refine R_getP 5 106 rfl dX10_tallyQuarters_103 rfl rfl fl_X10_40 (hP _ _ _ rfl) ?_
            refine R_iload_n 107 rfl dX10_tallyQuarters_106 rfl ?_
            refine R_callV_i (M' := mX0_yearOf) 110 rfl dX10_tallyQuarters_107 ml_X10_419 kmX0_yearOf im_X0_yearOf se_X0_yearOf rfl ⟨by decide, rfl⟩ (c_X0_yearOf _ k hPO hB (by omega) (by omega) (by omega)) rfl rfl ⟨Nat.le_of_ble_eq_true rfl, Nat.le_of_ble_eq_true rfl⟩ (Nat.le_of_ble_eq_true rfl) ⟨Nat.le_of_ble_eq_true rfl, Nat.le_of_ble_eq_true rfl⟩ ?_
            refine R_iload_n 111 rfl dX10_tallyQuarters_110 rfl ?_
            refine R_icmp_lt 114 118 rfl rfl dX10_tallyQuarters_111 (by first | assumption | exact ⟨by omega, by omega⟩) (by first | assumption | exact ⟨by omega, by omega⟩) (fun h111 => ?_) (fun h111 => ?_)
            · refine R_iconst 119 rfl dX10_tallyQuarters_118 ?_
              refine R_iadd 120 rfl dX10_tallyQuarters_119 ?_
              refine R_aload_n 121 rfl dX10_tallyQuarters_120 rfl ?_
              refine R_getP 6 124 rfl dX10_tallyQuarters_121 rfl rfl fl_X10_47 (hP _ _ _ rfl) ?_
              refine R_iload_n 125 rfl dX10_tallyQuarters_124 rfl ?_
              refine R_callV_i (M' := mX3_isAble) 128 rfl dX10_tallyQuarters_125 ml_X10_413 kmX3_isAble im_X3_isAble se_X3_isAble rfl ⟨by decide, rfl⟩ (c_X3_isAble _ k hPO hK (by omega) (by omega) (by omega)) rfl rfl ⟨Nat.le_of_ble_eq_true rfl, Nat.le_of_ble_eq_true rfl⟩ (Nat.le_of_ble_eq_true rfl) ⟨Nat.le_of_ble_eq_true rfl, Nat.le_of_ble_eq_true rfl⟩ ?_
              refine R_callV_V (M' := mX8_add) 131 rfl dX10_tallyQuarters_128 ml_X10_427 kmX8_add im_X8_add se_X8_add rfl ⟨by decide, rfl⟩ (c_X8_add88 _ _ (qtG L B 1 yr k).toNat hPO hT (by omega) (by omega) (pI_01 _)) rfl rfl ⟨Nat.le_of_ble_eq_true rfl, Nat.le_of_ble_eq_true rfl⟩ (Nat.le_of_ble_eq_true rfl) ⟨Nat.le_of_ble_eq_true rfl, Nat.le_of_ble_eq_true rfl⟩ ?_
              rintro m128 h128
              refine R_iinc [_, _, _, _, _, _] 134 rfl dX10_tallyQuarters_131 rfl rfl (by decide) ?_
              refine R_goto 24 rfl dX10_tallyQuarters_134 ?_
              first | exact ih (by omega) _ _ _ _ (hf.tr h128.1) (Tl_yes (P := qtP L B ch 1 yr) (Qa := qtQ L B ch 1 yr) (A := inC B ch 0) (qtG L B 1 yr k).toNat h128.2 h49 (by simp [qtP, h49]; omega) (fun g e => by simp [qtP]; omega) (pI_congr (by simp [qtQ, qtP, h49]; omega)) (fun g e => by simp [qtQ, qtP]; omega)) (by omega) | exact ih (by omega) _ _ _ _ hf (Tl_no (P := qtP L B ch 1 yr) (Qa := qtQ L B ch 1 yr) (A := inC B ch 0) hT h49 (fun g q => by simp [qtP] at q; exact q.1) (fun g q => by simp [qtQ, qtP] at q; exact q.1.1)) (by omega)
            · refine R_iconst 115 rfl dX10_tallyQuarters_114 ?_
              refine R_goto 119 rfl dX10_tallyQuarters_115 ?_
              refine R_iadd 120 rfl dX10_tallyQuarters_119 ?_
              refine R_aload_n 121 rfl dX10_tallyQuarters_120 rfl ?_
              refine R_getP 6 124 rfl dX10_tallyQuarters_121 rfl rfl fl_X10_47 (hP _ _ _ rfl) ?_
              refine R_iload_n 125 rfl dX10_tallyQuarters_124 rfl ?_
              refine R_callV_i (M' := mX3_isAble) 128 rfl dX10_tallyQuarters_125 ml_X10_413 kmX3_isAble im_X3_isAble se_X3_isAble rfl ⟨by decide, rfl⟩ (c_X3_isAble _ k hPO hK (by omega) (by omega) (by omega)) rfl rfl ⟨Nat.le_of_ble_eq_true rfl, Nat.le_of_ble_eq_true rfl⟩ (Nat.le_of_ble_eq_true rfl) ⟨Nat.le_of_ble_eq_true rfl, Nat.le_of_ble_eq_true rfl⟩ ?_
              refine R_callV_V (M' := mX8_add) 131 rfl dX10_tallyQuarters_128 ml_X10_427 kmX8_add im_X8_add se_X8_add rfl ⟨by decide, rfl⟩ (c_X8_add88 _ _ (qtG L B 1 yr k).toNat hPO hT (by omega) (by omega) (pI_01 _)) rfl rfl ⟨Nat.le_of_ble_eq_true rfl, Nat.le_of_ble_eq_true rfl⟩ (Nat.le_of_ble_eq_true rfl) ⟨Nat.le_of_ble_eq_true rfl, Nat.le_of_ble_eq_true rfl⟩ ?_
              rintro m128 h128
              refine R_iinc [_, _, _, _, _, _] 134 rfl dX10_tallyQuarters_131 rfl rfl (by decide) ?_
              refine R_goto 24 rfl dX10_tallyQuarters_134 ?_
              first | exact ih (by omega) _ _ _ _ (hf.tr h128.1) (Tl_yes (P := qtP L B ch 1 yr) (Qa := qtQ L B ch 1 yr) (A := inC B ch 0) (qtG L B 1 yr k).toNat h128.2 h49 (by simp [qtP, h49]; omega) (fun g e => by simp [qtP]; omega) (pI_congr (by simp [qtQ, qtP, h49]; omega)) (fun g e => by simp [qtQ, qtP]; omega)) (by omega) | exact ih (by omega) _ _ _ _ hf (Tl_no (P := qtP L B ch 1 yr) (Qa := qtQ L B ch 1 yr) (A := inC B ch 0) hT h49 (fun g q => by simp [qtP] at q; exact q.1) (fun g q => by simp [qtQ, qtP] at q; exact q.1.1)) (by omega)
          · refine R_iconst 90 rfl dX10_tallyQuarters_89 ?_
            refine R_goto 94 rfl dX10_tallyQuarters_90 ?_
            refine R_istore [_, _, _, _, _, _] 96 rfl dX10_tallyQuarters_94 rfl (by decide) ?_
            refine R_aload_n 97 rfl dX10_tallyQuarters_96 rfl ?_
            refine R_getP 12 100 rfl dX10_tallyQuarters_97 rfl rfl fl_X10_82 (hP _ _ _ rfl) ?_
            refine R_iload 102 rfl dX10_tallyQuarters_100 rfl ?_
            refine R_aload_n 103 rfl dX10_tallyQuarters_102 rfl ?_
            refine R_getP 5 106 rfl dX10_tallyQuarters_103 rfl rfl fl_X10_40 (hP _ _ _ rfl) ?_
            refine R_iload_n 107 rfl dX10_tallyQuarters_106 rfl ?_
            refine R_callV_i (M' := mX0_yearOf) 110 rfl dX10_tallyQuarters_107 ml_X10_419 kmX0_yearOf im_X0_yearOf se_X0_yearOf rfl ⟨by decide, rfl⟩ (c_X0_yearOf _ k hPO hB (by omega) (by omega) (by omega)) rfl rfl ⟨Nat.le_of_ble_eq_true rfl, Nat.le_of_ble_eq_true rfl⟩ (Nat.le_of_ble_eq_true rfl) ⟨Nat.le_of_ble_eq_true rfl, Nat.le_of_ble_eq_true rfl⟩ ?_
            refine R_iload_n 111 rfl dX10_tallyQuarters_110 rfl ?_
            refine R_icmp_lt 114 118 rfl rfl dX10_tallyQuarters_111 (by first | assumption | exact ⟨by omega, by omega⟩) (by first | assumption | exact ⟨by omega, by omega⟩) (fun h111 => ?_) (fun h111 => ?_)
            · refine R_iconst 119 rfl dX10_tallyQuarters_118 ?_
              refine R_iadd 120 rfl dX10_tallyQuarters_119 ?_
              refine R_aload_n 121 rfl dX10_tallyQuarters_120 rfl ?_
              refine R_getP 6 124 rfl dX10_tallyQuarters_121 rfl rfl fl_X10_47 (hP _ _ _ rfl) ?_
              refine R_iload_n 125 rfl dX10_tallyQuarters_124 rfl ?_
              refine R_callV_i (M' := mX3_isAble) 128 rfl dX10_tallyQuarters_125 ml_X10_413 kmX3_isAble im_X3_isAble se_X3_isAble rfl ⟨by decide, rfl⟩ (c_X3_isAble _ k hPO hK (by omega) (by omega) (by omega)) rfl rfl ⟨Nat.le_of_ble_eq_true rfl, Nat.le_of_ble_eq_true rfl⟩ (Nat.le_of_ble_eq_true rfl) ⟨Nat.le_of_ble_eq_true rfl, Nat.le_of_ble_eq_true rfl⟩ ?_
              refine R_callV_V (M' := mX8_add) 131 rfl dX10_tallyQuarters_128 ml_X10_427 kmX8_add im_X8_add se_X8_add rfl ⟨by decide, rfl⟩ (c_X8_add88 _ _ (qtG L B 1 yr k).toNat hPO hT (by omega) (by omega) (pI_01 _)) rfl rfl ⟨Nat.le_of_ble_eq_true rfl, Nat.le_of_ble_eq_true rfl⟩ (Nat.le_of_ble_eq_true rfl) ⟨Nat.le_of_ble_eq_true rfl, Nat.le_of_ble_eq_true rfl⟩ ?_
              rintro m128 h128
              refine R_iinc [_, _, _, _, _, _] 134 rfl dX10_tallyQuarters_131 rfl rfl (by decide) ?_
              refine R_goto 24 rfl dX10_tallyQuarters_134 ?_
              first | exact ih (by omega) _ _ _ _ (hf.tr h128.1) (Tl_yes (P := qtP L B ch 1 yr) (Qa := qtQ L B ch 1 yr) (A := inC B ch 0) (qtG L B 1 yr k).toNat h128.2 h49 (by simp [qtP, h49]; omega) (fun g e => by simp [qtP]; omega) (pI_congr (by simp [qtQ, qtP, h49]; omega)) (fun g e => by simp [qtQ, qtP]; omega)) (by omega) | exact ih (by omega) _ _ _ _ hf (Tl_no (P := qtP L B ch 1 yr) (Qa := qtQ L B ch 1 yr) (A := inC B ch 0) hT h49 (fun g q => by simp [qtP] at q; exact q.1) (fun g q => by simp [qtQ, qtP] at q; exact q.1.1)) (by omega)
            · refine R_iconst 115 rfl dX10_tallyQuarters_114 ?_
              refine R_goto 119 rfl dX10_tallyQuarters_115 ?_
              refine R_iadd 120 rfl dX10_tallyQuarters_119 ?_
              refine R_aload_n 121 rfl dX10_tallyQuarters_120 rfl ?_
              refine R_getP 6 124 rfl dX10_tallyQuarters_121 rfl rfl fl_X10_47 (hP _ _ _ rfl) ?_
              refine R_iload_n 125 rfl dX10_tallyQuarters_124 rfl ?_
              refine R_callV_i (M' := mX3_isAble) 128 rfl dX10_tallyQuarters_125 ml_X10_413 kmX3_isAble im_X3_isAble se_X3_isAble rfl ⟨by decide, rfl⟩ (c_X3_isAble _ k hPO hK (by omega) (by omega) (by omega)) rfl rfl ⟨Nat.le_of_ble_eq_true rfl, Nat.le_of_ble_eq_true rfl⟩ (Nat.le_of_ble_eq_true rfl) ⟨Nat.le_of_ble_eq_true rfl, Nat.le_of_ble_eq_true rfl⟩ ?_
              refine R_callV_V (M' := mX8_add) 131 rfl dX10_tallyQuarters_128 ml_X10_427 kmX8_add im_X8_add se_X8_add rfl ⟨by decide, rfl⟩ (c_X8_add88 _ _ (qtG L B 1 yr k).toNat hPO hT (by omega) (by omega) (pI_01 _)) rfl rfl ⟨Nat.le_of_ble_eq_true rfl, Nat.le_of_ble_eq_true rfl⟩ (Nat.le_of_ble_eq_true rfl) ⟨Nat.le_of_ble_eq_true rfl, Nat.le_of_ble_eq_true rfl⟩ ?_
              rintro m128 h128
              refine R_iinc [_, _, _, _, _, _] 134 rfl dX10_tallyQuarters_131 rfl rfl (by decide) ?_
              refine R_goto 24 rfl dX10_tallyQuarters_134 ?_
              first | exact ih (by omega) _ _ _ _ (hf.tr h128.1) (Tl_yes (P := qtP L B ch 1 yr) (Qa := qtQ L B ch 1 yr) (A := inC B ch 0) (qtG L B 1 yr k).toNat h128.2 h49 (by simp [qtP, h49]; omega) (fun g e => by simp [qtP]; omega) (pI_congr (by simp [qtQ, qtP, h49]; omega)) (fun g e => by simp [qtQ, qtP]; omega)) (by omega) | exact ih (by omega) _ _ _ _ hf (Tl_no (P := qtP L B ch 1 yr) (Qa := qtQ L B ch 1 yr) (A := inC B ch 0) hT h49 (fun g q => by simp [qtP] at q; exact q.1) (fun g q => by simp [qtQ, qtP] at q; exact q.1.1)) (by omega)
theorem c_X10_tallyQuarters (kn : Nat) (kz yr : Int) (hCS : CS o d L B ch m) (hkz : kz = (kn : Int)) (hkn : kn < 2) (hy : 0 ≤ yr ∧ yr ≤ 89) : C Γ mX10_tallyQuarters 5 200 0 0 [vr 0, vi kz, vi yr] SH m (QV SH (fun m' => Fs m m' ∧ CS o d L B ch m' ∧ KF L B m' ∧ Tl 88 89 90 m' (qtM L B ch kn yr) (qtB L B ch kn yr) (tgN B ch 0))) := by
  refine C_of_R rfl (Nat.le_of_ble_eq_true rfl) ?_
  have hPO := hCS.1
  have hP := hPO.2
  refine R_aload_n 1 rfl dX10_tallyQuarters_0 rfl ?_
  refine R_getP 6 4 rfl dX10_tallyQuarters_1 rfl rfl fl_X10_47 (hP _ _ _ rfl) ?_
  refine R_aload_n 5 rfl dX10_tallyQuarters_4 rfl ?_
  refine R_getP 5 8 rfl dX10_tallyQuarters_5 rfl rfl fl_X10_40 (hP _ _ _ rfl) ?_
  refine R_aload_n 9 rfl dX10_tallyQuarters_8 rfl ?_
  refine R_getP 2 12 rfl dX10_tallyQuarters_9 rfl rfl fl_X10_26 (PO_o hPO) ?_
  refine R_callV_V (M' := mX3_renew) 15 rfl dX10_tallyQuarters_12 ml_X10_163 kmX3_renew im_X3_renew se_X3_renew rfl ⟨by decide, rfl⟩ (c_renew hCS) rfl rfl ⟨Nat.le_of_ble_eq_true rfl, Nat.le_of_ble_eq_true rfl⟩ (Nat.le_of_ble_eq_true rfl) ⟨Nat.le_of_ble_eq_true rfl, Nat.le_of_ble_eq_true rfl⟩ ?_
  rintro m12 h12
  obtain ⟨hf, hCS, hKF⟩ := h12
  clear hPO hP
  have hPO := hCS.1
  have hP := hPO.2
  refine R_aload_n 16 rfl dX10_tallyQuarters_15 rfl ?_
  refine R_getP 12 19 rfl dX10_tallyQuarters_16 rfl rfl fl_X10_82 (hP _ _ _ rfl) ?_
  refine R_callV_V (M' := mX8_clear) 22 rfl dX10_tallyQuarters_19 ml_X10_422 kmX8_clear im_X8_clear se_X8_clear rfl ⟨by decide, rfl⟩ (c_X8_clear88 hPO) rfl rfl ⟨Nat.le_of_ble_eq_true rfl, Nat.le_of_ble_eq_true rfl⟩ (Nat.le_of_ble_eq_true rfl) ⟨Nat.le_of_ble_eq_true rfl, Nat.le_of_ble_eq_true rfl⟩ ?_
  rintro m19 h19
  obtain ⟨hf2, hT⟩ := h19
  have hCS2 := hCS.fr hf2 (fun a q1 q2 => by simp [isT]; omega)
  have hKF2 := hKF.fr hf2 rfl rfl rfl
  refine R_iconst 23 rfl dX10_tallyQuarters_22 ?_
  refine R_istore_n [_, _, _, _, _, _] 24 rfl dX10_tallyQuarters_23 rfl (by decide) ?_
  exact l_X10_tallyQuarters kn kz yr hCS2 hKF2 hkz hkn hy (fun mm q1 q2 => QV_mk ⟨(Ft.mk hf (hf2.tr q1)).s88, hCS2.fr q1 (fun a q1 q2 => by simp [isT]; omega), hKF2.fr q1 rfl rfl rfl, q2⟩) 0 (by omega) _ _ _ _ Fr.rf hT rfl
end
