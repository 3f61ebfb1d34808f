def srt (L : Ld) (B : Bk) (k : Nat) (w : Int) : Bool := if w = 0 then true else if w = 1 then abl L B k else if w = 2 then decide (B.2.2 0 k = 0) else decide (kd L B k = w - 10)
def inS (L : Ld) (B : Bk) (ch : Cs) (c : Nat) (w : Int) (k : Nat) : Bool := inC B ch c k && srt L B k w
def hmy (L : Ld) (B : Bk) (ch : Cs) (c : Nat) (w : Int) : Nat := cnt (inS L B ch c w) (2 * B.1)
theorem inS_iff {L : Ld} {B : Bk} {ch : Cs} {c k : Nat} {w : Int} : inS L B ch c w k = true ↔ (inC B ch c k = true ∧ srt L B k w = true) := by simp [inS]
theorem srt_2 {L : Ld} {B : Bk} {k : Nat} : srt L B k 2 = true ↔ B.2.2 0 k = 0 := by simp [srt]
theorem srt_3 {L : Ld} {B : Bk} {k : Nat} {w : Int} (h : 2 < w) : srt L B k w = true ↔ kd L B k = w - 10 := by
  unfold srt
  rw [if_neg (by omega), if_neg (by omega), if_neg (by omega)]
  simp
section
variable {Γ : GX} {m : Mem} {B : Bk} {L : Ld} {ch : Cs} {o d : Nat} {Q : Option AV → Shp → Mem → Prop}
theorem c_X10_isOfSort (z w : Int) (k : Nat) (hCS : CS o d L B ch m) (hKF : KF L B m) (hz : z = (k : Int)) (hk : k < 2 * B.1) (hw : 0 ≤ w ∧ w ≤ 15) : C Γ mX10_isOfSort 1 40 0 0 [vr 0, vi z, vi w] SH m (Qi SH m (pI (srt L B k w = true))) := by
  refine C_of_R rfl (Nat.le_of_ble_eq_true rfl) ?_
  subst hz
  obtain ⟨hPO, hB, hO, hL, hLO, hC, hCO, hst, hkc⟩ := id hCS
  have hP := hPO.2
  have h1 := (hB.2.2 k hk).1
  have h2 := (hO.2.2 k hk).1
  have h3 := (hKF.2 k hk).1
  have h4 := kd_rg L B k
  have h5 := hO.1
  have hK : ∀ j, j < 2 * B.1 → m.1 42 j = kd L B j := fun j hj => (hKF.2 j hj).1
  refine R_iload_n 1 rfl dX10_isOfSort_0 rfl ?_
  rcases (show w < 0 ∨ 2 < w ∨ w = 0 ∨ w = 1 ∨ w = 2 by omega) with h1 | h1 | rfl | rfl | rfl
  · refine R_tsOut 59 dX10_isOfSort_1 (by first | assumption | exact ⟨by omega, by omega⟩) (by omega) rfl ?_
    refine R_aload_n 60 rfl dX10_isOfSort_59 rfl ?_
    refine R_getP 6 63 rfl dX10_isOfSort_60 rfl rfl fl_X10_47 (hP _ _ _ rfl) ?_
    refine R_getP 1 66 rfl dX10_isOfSort_63 rfl rfl fl_X10_205 (hP _ _ _ rfl) ?_
    refine R_iload_n 67 rfl dX10_isOfSort_66 rfl ?_
    refine R_iald k 68 rfl dX10_isOfSort_67 rfl (by first | rfl | omega) (by omega) (by decide) ?_
    refine R_iload_n 69 rfl dX10_isOfSort_68 rfl ?_
    refine R_bipush 71 rfl dX10_isOfSort_69 (by decide) ?_
    refine R_isub 72 rfl dX10_isOfSort_71 ?_
    refine R_icmp_ne 75 79 rfl rfl dX10_isOfSort_72 (by first | assumption | exact ⟨by omega, by omega⟩) (by first | assumption | exact ⟨by omega, by omega⟩) (fun h72 => ?_) (fun h72 => ?_)
    · refine R_iconst 80 rfl dX10_isOfSort_79 ?_
      refine R_zreturn dX10_isOfSort_80 rfl (by first | decide | exact pI_01 _) ?_
      first | (exfalso; omega) | exact Qi_mk (pI_1 ((srt_3 (by omega)).mpr (by omega))) | exact Qi_mk (pI_0 (fun q => by have := (srt_3 (by omega)).mp q; omega))
    · refine R_iconst 76 rfl dX10_isOfSort_75 ?_
      refine R_goto 80 rfl dX10_isOfSort_76 ?_
      refine R_zreturn dX10_isOfSort_80 rfl (by first | decide | exact pI_01 _) ?_
      first | (exfalso; omega) | exact Qi_mk (pI_1 ((srt_3 (by omega)).mpr (by omega))) | exact Qi_mk (pI_0 (fun q => by have := (srt_3 (by omega)).mp q; omega))
  · refine R_tsOut 59 dX10_isOfSort_1 (by first | assumption | exact ⟨by omega, by omega⟩) (by omega) rfl ?_
    refine R_aload_n 60 rfl dX10_isOfSort_59 rfl ?_
    refine R_getP 6 63 rfl dX10_isOfSort_60 rfl rfl fl_X10_47 (hP _ _ _ rfl) ?_
    refine R_getP 1 66 rfl dX10_isOfSort_63 rfl rfl fl_X10_205 (hP _ _ _ rfl) ?_
    refine R_iload_n 67 rfl dX10_isOfSort_66 rfl ?_
    refine R_iald k 68 rfl dX10_isOfSort_67 rfl (by first | rfl | omega) (by omega) (by decide) ?_
    refine R_iload_n 69 rfl dX10_isOfSort_68 rfl ?_
    refine R_bipush 71 rfl dX10_isOfSort_69 (by decide) ?_
    refine R_isub 72 rfl dX10_isOfSort_71 ?_
    refine R_icmp_ne 75 79 rfl rfl dX10_isOfSort_72 (by first | assumption | exact ⟨by omega, by omega⟩) (by first | assumption | exact ⟨by omega, by omega⟩) (fun h72 => ?_) (fun h72 => ?_)
    · refine R_iconst 80 rfl dX10_isOfSort_79 ?_
      refine R_zreturn dX10_isOfSort_80 rfl (by first | decide | exact pI_01 _) ?_
      first | (exfalso; omega) | exact Qi_mk (pI_1 ((srt_3 (by omega)).mpr (by omega))) | exact Qi_mk (pI_0 (fun q => by have := (srt_3 (by omega)).mp q; omega))
    · refine R_iconst 76 rfl dX10_isOfSort_75 ?_
      refine R_goto 80 rfl dX10_isOfSort_76 ?_
      refine R_zreturn dX10_isOfSort_80 rfl (by first | decide | exact pI_01 _) ?_
      first | (exfalso; omega) | exact Qi_mk (pI_1 ((srt_3 (by omega)).mpr (by omega))) | exact Qi_mk (pI_0 (fun q => by have := (srt_3 (by omega)).mp q; omega))
  · refine R_tsIn 28 dX10_isOfSort_1 ⟨by omega, by omega⟩ (by omega) (by omega) rfl rfl ?_
    refine R_iconst 29 rfl dX10_isOfSort_28 ?_
    refine R_zreturn dX10_isOfSort_29 rfl (by first | decide | exact pI_01 _) ?_
    exact Qi_mk (pI_1 rfl)
  · refine R_tsIn 30 dX10_isOfSort_1 ⟨by omega, by omega⟩ (by omega) (by omega) rfl rfl ?_
    refine R_aload_n 31 rfl dX10_isOfSort_30 rfl ?_
    refine R_getP 6 34 rfl dX10_isOfSort_31 rfl rfl fl_X10_47 (hP _ _ _ rfl) ?_
    refine R_iload_n 35 rfl dX10_isOfSort_34 rfl ?_
    refine R_callV_i (M' := mX3_isAble) 38 rfl dX10_isOfSort_35 ml_X10_413 kmX3_isAble im_X3_isAble se_X3_isAble rfl ⟨by decide, rfl⟩ (c_X3_isAble _ _ hPO hK (by omega) (by first | rfl | assumption | omega) (by omega)) rfl rfl ⟨Nat.le_of_ble_eq_true rfl, Nat.le_of_ble_eq_true rfl⟩ (Nat.le_of_ble_eq_true rfl) ⟨Nat.le_of_ble_eq_true rfl, Nat.le_of_ble_eq_true rfl⟩ ?_
    refine R_zreturn dX10_isOfSort_38 rfl (by first | decide | exact pI_01 _) ?_
    exact Qi_mk rfl
  · refine R_tsIn 39 dX10_isOfSort_1 ⟨by omega, by omega⟩ (by omega) (by omega) rfl rfl ?_
    refine R_aload_n 40 rfl dX10_isOfSort_39 rfl ?_
    refine R_getP 5 43 rfl dX10_isOfSort_40 rfl rfl fl_X10_40 (hP _ _ _ rfl) ?_
    refine R_getP 2 46 rfl dX10_isOfSort_43 rfl rfl fl_X10_196 (hP _ _ _ rfl) ?_
    refine R_iconst 47 rfl dX10_isOfSort_46 ?_
    refine R_aald 0 48 rfl dX10_isOfSort_47 rfl rfl (by first | rfl | omega) (by decide) (by decide) (hP _ _ _ rfl) ?_
    refine R_iload_n 49 rfl dX10_isOfSort_48 rfl ?_
    refine R_iald k 50 rfl dX10_isOfSort_49 rfl (by first | rfl | omega) (by omega) (by decide) ?_
    refine R_if_ne 53 57 rfl rfl dX10_isOfSort_50 (by first | assumption | exact ⟨by omega, by omega⟩) (fun h50 => ?_) (fun h50 => ?_)
    · refine R_iconst 58 rfl dX10_isOfSort_57 ?_
      refine R_zreturn dX10_isOfSort_58 rfl (by first | decide | exact pI_01 _) ?_
      first | exact Qi_mk (pI_1 (srt_2.mpr (by omega))) | exact Qi_mk (pI_0 (fun q => by have := srt_2.mp q; omega))
    · refine R_iconst 54 rfl dX10_isOfSort_53 ?_
      refine R_goto 58 rfl dX10_isOfSort_54 ?_
      refine R_zreturn dX10_isOfSort_58 rfl (by first | decide | exact pI_01 _) ?_
      first | exact Qi_mk (pI_1 (srt_2.mpr (by omega))) | exact Qi_mk (pI_0 (fun q => by have := srt_2.mp q; omega))
theorem l_X10_howMany (c : Nat) (w cz : Int) (hCS : CS o d L B ch m) (hKF : KF L B m) (hcz : cz = (c : Int)) (hc : c < 2) (hw : 0 ≤ w ∧ w ≤ 15) (hQ : Q (some (vi (hmy L B ch c w : Int))) SH m) : ∀ k, k ≤ 2 * B.1 → ∀ a z, a = (cnt (inS L B ch c w) k : Int) → z = (k : Int) → R Γ mX10_howMany { frames := 5, cells := 0, slots := 0, locals := 200 } 0 0 Q 0 0 20 [some (vr 0), some (vi cz), some (vi w), some (vi a), some (vi z)] [] SH m := by
  obtain ⟨hPO, hB, hO, hL, hLO, hC, hCO, hst, hkc⟩ := id hCS
  have hP := hPO.2
  have h5 := hO.1
  have h6 := hLO.1
  refine up_ind (2 * B.1) (fun k hk ih a z ha hz => ?_)
  refine R_iload 22 rfl dX10_howMany_20 rfl ?_
  refine R_aload_n 23 rfl dX10_howMany_22 rfl ?_
  refine R_getP 5 26 rfl dX10_howMany_23 rfl rfl fl_X10_40 (hP _ _ _ rfl) ?_
  refine R_callV_i (M' := mX0_marks) 29 rfl dX10_howMany_26 ml_X10_167 kmX0_marks im_X0_marks se_X0_marks rfl ⟨by decide, rfl⟩ (c_X0_marks hB) rfl rfl ⟨Nat.le_of_ble_eq_true rfl, Nat.le_of_ble_eq_true rfl⟩ (Nat.le_of_ble_eq_true rfl) ⟨Nat.le_of_ble_eq_true rfl, Nat.le_of_ble_eq_true rfl⟩ ?_
  refine R_icmp_ge 32 69 rfl rfl dX10_howMany_29 (by first | assumption | exact ⟨by omega, by omega⟩) (by first | assumption | exact ⟨by omega, by omega⟩) (fun h29 => ?_) (fun h29 => ?_)
  · refine R_iload_n 70 rfl dX10_howMany_69 rfl ?_
    refine R_ireturn dX10_howMany_70 rfl ?_
    rw [ha, show k = 2 * B.1 by omega]; exact hQ
  · refine R_aload_n 33 rfl dX10_howMany_32 rfl ?_
    refine R_getP 7 36 rfl dX10_howMany_33 rfl rfl fl_X10_54 (hP _ _ _ rfl) ?_
    refine R_iload_n 37 rfl dX10_howMany_36 rfl ?_
    refine R_aald c 38 rfl dX10_howMany_37 rfl rfl (by first | rfl | omega) (by omega) (by decide) (PO_ch hPO hc) ?_
    refine R_aload_n 39 rfl dX10_howMany_38 rfl ?_
    refine R_getP 5 42 rfl dX10_howMany_39 rfl rfl fl_X10_40 (hP _ _ _ rfl) ?_
    refine R_iload 44 rfl dX10_howMany_42 rfl ?_
    refine R_callV_i (M' := mX1_takes) 47 rfl dX10_howMany_44 ml_X10_406 kmX1_takes im_X1_takes se_X1_takes (sh_ch hc) ⟨by decide, rfl⟩ (c_X1_takes _ c k hPO hB hO (by omega) hC hCO hc (by omega) (by omega)) rfl rfl ⟨Nat.le_of_ble_eq_true rfl, Nat.le_of_ble_eq_true rfl⟩ (Nat.le_of_ble_eq_true rfl) ⟨Nat.le_of_ble_eq_true rfl, Nat.le_of_ble_eq_true rfl⟩ ?_
    refine R_ifp_eq 50 63 rfl rfl dX10_howMany_47 (fun h47 => ?_) (fun h47 => ?_)
    · refine R_iinc [_, _, _, _, _] 66 rfl dX10_howMany_63 rfl rfl (by decide) ?_
      refine R_goto 20 rfl dX10_howMany_66 ?_
      first | exact ih (by omega) _ _ (by rw [cnt_y (inS_iff.mpr ⟨h47, h57⟩)]; omega) (by omega) | exact ih (by omega) _ _ (by rw [cnt_n (fun q => h57 (inS_iff.mp q).2)]; omega) (by omega) | exact ih (by omega) _ _ (by rw [cnt_n (fun q => h47 (inS_iff.mp q).1)]; omega) (by omega)
    · refine R_aload_n 51 rfl dX10_howMany_50 rfl ?_
      refine R_iload 53 rfl dX10_howMany_51 rfl ?_
      refine R_iload_n 54 rfl dX10_howMany_53 rfl ?_
      refine R_callV_i (M' := mX10_isOfSort) 57 rfl dX10_howMany_54 ml_X10_410 kmX10_isOfSort im_X10_isOfSort se_X10_isOfSort rfl ⟨by decide, rfl⟩ (c_X10_isOfSort _ _ k hCS hKF (by omega) (by omega) hw) rfl rfl ⟨Nat.le_of_ble_eq_true rfl, Nat.le_of_ble_eq_true rfl⟩ (Nat.le_of_ble_eq_true rfl) ⟨Nat.le_of_ble_eq_true rfl, Nat.le_of_ble_eq_true rfl⟩ ?_
      refine R_ifp_eq 60 63 rfl rfl dX10_howMany_57 (fun h57 => ?_) (fun h57 => ?_)
      · refine R_iinc [_, _, _, _, _] 66 rfl dX10_howMany_63 rfl rfl (by decide) ?_
        refine R_goto 20 rfl dX10_howMany_66 ?_
        first | exact ih (by omega) _ _ (by rw [cnt_y (inS_iff.mpr ⟨h47, h57⟩)]; omega) (by omega) | exact ih (by omega) _ _ (by rw [cnt_n (fun q => h57 (inS_iff.mp q).2)]; omega) (by omega) | exact ih (by omega) _ _ (by rw [cnt_n (fun q => h47 (inS_iff.mp q).1)]; omega) (by omega)
      · refine R_iinc [_, _, _, _, _] 63 rfl dX10_howMany_60 rfl rfl (by decide) ?_
        refine R_iinc [_, _, _, _, _] 66 rfl dX10_howMany_63 rfl rfl (by decide) ?_
        refine R_goto 20 rfl dX10_howMany_66 ?_
        first | exact ih (by omega) _ _ (by rw [cnt_y (inS_iff.mpr ⟨h47, h57⟩)]; omega) (by omega) | exact ih (by omega) _ _ (by rw [cnt_n (fun q => h57 (inS_iff.mp q).2)]; omega) (by omega) | exact ih (by omega) _ _ (by rw [cnt_n (fun q => h47 (inS_iff.mp q).1)]; omega) (by omega)
theorem c_X10_howMany (c : Nat) (w cz : Int) (hCS : CS o d L B ch m) (hcz : cz = (c : Int)) (hc : c < 2) (hw : 0 ≤ w ∧ w ≤ 15) : C Γ mX10_howMany 5 200 0 0 [vr 0, vi cz, vi w] SH m (QI SH (fun z m' => z = (hmy L B ch c w : Int) ∧ Fk m m' ∧ CS o d L B ch m' ∧ KF L B m')) := by
  refine C_of_R rfl (Nat.le_of_ble_eq_true rfl) ?_
  have hPO := hCS.1
  have hP := hPO.2
  refine R_aload_n 1 rfl dX10_howMany_0 rfl ?_
  refine R_getP 6 4 rfl dX10_howMany_1 rfl rfl fl_X10_47 (hP _ _ _ rfl) ?_
  refine R_aload_n 5 rfl dX10_howMany_4 rfl ?_
  refine R_getP 5 8 rfl dX10_howMany_5 rfl rfl fl_X10_40 (hP _ _ _ rfl) ?_
  refine R_aload_n 9 rfl dX10_howMany_8 rfl ?_
  refine R_getP 2 12 rfl dX10_howMany_9 rfl rfl fl_X10_26 (PO_o hPO) ?_
  refine R_callV_V (M' := mX3_renew) 15 rfl dX10_howMany_12 ml_X10_163 kmX3_renew im_X3_renew se_X3_renew rfl ⟨by decide, rfl⟩ (c_renew hCS) rfl rfl ⟨Nat.le_of_ble_eq_true rfl, Nat.le_of_ble_eq_true rfl⟩ (Nat.le_of_ble_eq_true rfl) ⟨Nat.le_of_ble_eq_true rfl, Nat.le_of_ble_eq_true rfl⟩ ?_
  rintro m12 h12
  obtain ⟨hf, hCS, hKF⟩ := h12
  refine R_iconst 16 rfl dX10_howMany_15 ?_
  refine R_istore_n [_, _, _, _, _] 17 rfl dX10_howMany_16 rfl (by decide) ?_
  refine R_iconst 18 rfl dX10_howMany_17 ?_
  refine R_istore [_, _, _, _, _] 20 rfl dX10_howMany_18 rfl (by decide) ?_
  exact l_X10_howMany c w cz hCS hKF hcz hc hw (QI_mk ⟨rfl, hf, hCS, hKF⟩) 0 (by omega) _ _ rfl rfl
def prI (B : Bk) (ch : Cs) (c : Nat) (g b : Int) (k : Nat) : Bool := inC B ch c (2 * k) && inC B ch c (2 * k + 1) && decide (B.2.2 0 (2 * k) = g) && decide (B.2.2 0 (2 * k + 1) = b)
def prs (B : Bk) (ch : Cs) (c : Nat) (g b : Int) : Nat := cnt (prI B ch c g b) B.1
theorem prI_iff {B : Bk} {ch : Cs} {c k : Nat} {g b : Int} : prI B ch c g b k = true ↔ (inC B ch c (2 * k) = true ∧ inC B ch c (2 * k + 1) = true ∧ B.2.2 0 (2 * k) = g ∧ B.2.2 0 (2 * k + 1) = b) := by simp [prI, and_assoc]
theorem c_X10_howManyPairs (c : Nat) (cz g b : Int) (hCS : CS o d L B ch m) (hcz : cz = (c : Int)) (hc : c < 2) (hg : rg g) (hb : rg b) : C Γ mX10_howManyPairs 2 80 0 0 [vr 0, vi cz, vi g, vi b] SH m (Qi SH m (prs B ch c g b : Int)) := by
  refine C_of_R rfl (Nat.le_of_ble_eq_true rfl) ?_
  obtain ⟨hPO, hB, hO, hL, hLO, hC, hCO, hst, hkc⟩ := id hCS
  have hP := hPO.2
  have h5 := hO.1
  have h6 := hLO.1
  have h0 := hB.1
  have Lp : ∀ k, k ≤ B.1 → ∀ a z, a = (cnt (prI B ch c g b) k : Int) → z = (k : Int) → R Γ mX10_howManyPairs { frames := 2, cells := 0, slots := 0, locals := 80 } 0 0 (Qi SH m (prs B ch c g b : Int)) 0 0 6 [some (vr 0), some (vi cz), some (vi g), some (vi b), some (vi a), some (vi z)] [] SH m := by
    refine up_ind B.1 (fun k hk ih a z ha hz => ?_)
    refine R_iload 8 rfl dX10_howManyPairs_6 rfl ?_
    refine R_aload_n 9 rfl dX10_howManyPairs_8 rfl ?_
    refine R_getP 5 12 rfl dX10_howManyPairs_9 rfl rfl fl_X10_40 (hP _ _ _ rfl) ?_
    refine R_getI 0 15 rfl dX10_howManyPairs_12 rfl rfl fl_X10_179 ?_
    refine R_icmp_ge 18 107 rfl rfl dX10_howManyPairs_15 (by first | assumption | exact ⟨by omega, by omega⟩) (by first | assumption | exact ⟨by omega, by omega⟩) (fun h15 => ?_) (fun h15 => ?_)
    · refine R_iload 109 rfl dX10_howManyPairs_107 rfl ?_
      refine R_ireturn dX10_howManyPairs_109 rfl ?_
      exact Qi_mk (by rw [ha, show k = B.1 by omega]; rfl)
    · have r1 := (hB.2.2 (2 * k) (by omega)).1
      have r2 := (hO.2.2 (2 * k) (by omega)).1
      have r3 := (hB.2.2 (2 * k + 1) (by omega)).1
      have r4 := (hO.2.2 (2 * k + 1) (by omega)).1
      refine R_aload_n 19 rfl dX10_howManyPairs_18 rfl ?_
      refine R_getP 7 22 rfl dX10_howManyPairs_19 rfl rfl fl_X10_54 (hP _ _ _ rfl) ?_
      refine R_iload_n 23 rfl dX10_howManyPairs_22 rfl ?_
      refine R_aald c 24 rfl dX10_howManyPairs_23 rfl rfl (by first | rfl | omega) (by omega) (by decide) (PO_ch hPO hc) ?_
      refine R_aload_n 25 rfl dX10_howManyPairs_24 rfl ?_
      refine R_getP 5 28 rfl dX10_howManyPairs_25 rfl rfl fl_X10_40 (hP _ _ _ rfl) ?_
      refine R_iconst 29 rfl dX10_howManyPairs_28 ?_
      refine R_iload 31 rfl dX10_howManyPairs_29 rfl ?_
      refine R_imul 32 rfl dX10_howManyPairs_31 ?_
      refine R_callV_i (M' := mX1_takes) 35 rfl dX10_howManyPairs_32 ml_X10_406 kmX1_takes im_X1_takes se_X1_takes (sh_ch hc) ⟨by decide, rfl⟩ (c_X1_takes _ c (2 * k) hPO hB hO (by omega) hC hCO hc (by omega) (by omega)) rfl rfl ⟨Nat.le_of_ble_eq_true rfl, Nat.le_of_ble_eq_true rfl⟩ (Nat.le_of_ble_eq_true rfl) ⟨Nat.le_of_ble_eq_true rfl, Nat.le_of_ble_eq_true rfl⟩ ?_
      refine R_ifp_eq 38 101 rfl rfl dX10_howManyPairs_35 (fun h35 => ?_) (fun h35 => ?_)
      · refine R_iinc [_, _, _, _, _, _] 104 rfl dX10_howManyPairs_101 rfl rfl (by decide) ?_
        refine R_goto 6 rfl dX10_howManyPairs_104 ?_
        first | exact ih (by omega) _ _ (by rw [cnt_y (prI_iff.mpr ⟨h35, h57, by omega, by omega⟩)]; omega) (by omega) | exact ih (by omega) _ _ (by rw [cnt_n (fun q => by have := prI_iff.mp q; omega)]; omega) (by omega) | exact ih (by omega) _ _ (by rw [cnt_n (fun q => h57 (prI_iff.mp q).2.1)]; omega) (by omega) | exact ih (by omega) _ _ (by rw [cnt_n (fun q => h35 (prI_iff.mp q).1)]; omega) (by omega)
      · refine R_aload_n 39 rfl dX10_howManyPairs_38 rfl ?_
        refine R_getP 7 42 rfl dX10_howManyPairs_39 rfl rfl fl_X10_54 (hP _ _ _ rfl) ?_
        refine R_iload_n 43 rfl dX10_howManyPairs_42 rfl ?_
        refine R_aald c 44 rfl dX10_howManyPairs_43 rfl rfl (by first | rfl | omega) (by omega) (by decide) (PO_ch hPO hc) ?_
        refine R_aload_n 45 rfl dX10_howManyPairs_44 rfl ?_
        refine R_getP 5 48 rfl dX10_howManyPairs_45 rfl rfl fl_X10_40 (hP _ _ _ rfl) ?_
        refine R_iconst 49 rfl dX10_howManyPairs_48 ?_
        refine R_iload 51 rfl dX10_howManyPairs_49 rfl ?_
        refine R_imul 52 rfl dX10_howManyPairs_51 ?_
        refine R_iconst 53 rfl dX10_howManyPairs_52 ?_
        refine R_iadd 54 rfl dX10_howManyPairs_53 ?_
        refine R_callV_i (M' := mX1_takes) 57 rfl dX10_howManyPairs_54 ml_X10_406 kmX1_takes im_X1_takes se_X1_takes (sh_ch hc) ⟨by decide, rfl⟩ (c_X1_takes _ c (2 * k + 1) hPO hB hO (by omega) hC hCO hc (by omega) (by omega)) rfl rfl ⟨Nat.le_of_ble_eq_true rfl, Nat.le_of_ble_eq_true rfl⟩ (Nat.le_of_ble_eq_true rfl) ⟨Nat.le_of_ble_eq_true rfl, Nat.le_of_ble_eq_true rfl⟩ ?_
        refine R_ifp_eq 60 101 rfl rfl dX10_howManyPairs_57 (fun h57 => ?_) (fun h57 => ?_)
        · refine R_iinc [_, _, _, _, _, _] 104 rfl dX10_howManyPairs_101 rfl rfl (by decide) ?_
          refine R_goto 6 rfl dX10_howManyPairs_104 ?_
          first | exact ih (by omega) _ _ (by rw [cnt_y (prI_iff.mpr ⟨h35, h57, by omega, by omega⟩)]; omega) (by omega) | exact ih (by omega) _ _ (by rw [cnt_n (fun q => by have := prI_iff.mp q; omega)]; omega) (by omega) | exact ih (by omega) _ _ (by rw [cnt_n (fun q => h57 (prI_iff.mp q).2.1)]; omega) (by omega) | exact ih (by omega) _ _ (by rw [cnt_n (fun q => h35 (prI_iff.mp q).1)]; omega) (by omega)
        · refine R_aload_n 61 rfl dX10_howManyPairs_60 rfl ?_
          refine R_getP 5 64 rfl dX10_howManyPairs_61 rfl rfl fl_X10_40 (hP _ _ _ rfl) ?_
          refine R_getP 2 67 rfl dX10_howManyPairs_64 rfl rfl fl_X10_196 (hP _ _ _ rfl) ?_
          refine R_iconst 68 rfl dX10_howManyPairs_67 ?_
          refine R_aald 0 69 rfl dX10_howManyPairs_68 rfl rfl (by first | rfl | omega) (by decide) (by decide) (hP _ _ _ rfl) ?_
          refine R_iconst 70 rfl dX10_howManyPairs_69 ?_
          refine R_iload 72 rfl dX10_howManyPairs_70 rfl ?_
          refine R_imul 73 rfl dX10_howManyPairs_72 ?_
          refine R_iald (2 * k) 74 rfl dX10_howManyPairs_73 rfl (by first | rfl | omega) (by omega) (by decide) ?_
          refine R_iload_n 75 rfl dX10_howManyPairs_74 rfl ?_
          refine R_icmp_ne 78 101 rfl rfl dX10_howManyPairs_75 (by first | assumption | exact ⟨by omega, by omega⟩) (by first | assumption | exact ⟨by omega, by omega⟩) (fun h75 => ?_) (fun h75 => ?_)
          · refine R_iinc [_, _, _, _, _, _] 104 rfl dX10_howManyPairs_101 rfl rfl (by decide) ?_
            refine R_goto 6 rfl dX10_howManyPairs_104 ?_
            first | exact ih (by omega) _ _ (by rw [cnt_y (prI_iff.mpr ⟨h35, h57, by omega, by omega⟩)]; omega) (by omega) | exact ih (by omega) _ _ (by rw [cnt_n (fun q => by have := prI_iff.mp q; omega)]; omega) (by omega) | exact ih (by omega) _ _ (by rw [cnt_n (fun q => h57 (prI_iff.mp q).2.1)]; omega) (by omega) | exact ih (by omega) _ _ (by rw [cnt_n (fun q => h35 (prI_iff.mp q).1)]; omega) (by omega)
          · refine R_aload_n 79 rfl dX10_howManyPairs_78 rfl ?_
            refine R_getP 5 82 rfl dX10_howManyPairs_79 rfl rfl fl_X10_40 (hP _ _ _ rfl) ?_
            refine R_getP 2 85 rfl dX10_howManyPairs_82 rfl rfl fl_X10_196 (hP _ _ _ rfl) ?_
            refine R_iconst 86 rfl dX10_howManyPairs_85 ?_
            refine R_aald 0 87 rfl dX10_howManyPairs_86 rfl rfl (by first | rfl | omega) (by decide) (by decide) (hP _ _ _ rfl) ?_
            refine R_iconst 88 rfl dX10_howManyPairs_87 ?_
            refine R_iload 90 rfl dX10_howManyPairs_88 rfl ?_
            refine R_imul 91 rfl dX10_howManyPairs_90 ?_
            refine R_iconst 92 rfl dX10_howManyPairs_91 ?_
            refine R_iadd 93 rfl dX10_howManyPairs_92 ?_
            refine R_iald (2 * k + 1) 94 rfl dX10_howManyPairs_93 rfl (by first | rfl | omega) (by omega) (by decide) ?_
            refine R_iload_n 95 rfl dX10_howManyPairs_94 rfl ?_
            refine R_icmp_ne 98 101 rfl rfl dX10_howManyPairs_95 (by first | assumption | exact ⟨by omega, by omega⟩) (by first | assumption | exact ⟨by omega, by omega⟩) (fun h95 => ?_) (fun h95 => ?_)
            · refine R_iinc [_, _, _, _, _, _] 104 rfl dX10_howManyPairs_101 rfl rfl (by decide) ?_
              refine R_goto 6 rfl dX10_howManyPairs_104 ?_
              first | exact ih (by omega) _ _ (by rw [cnt_y (prI_iff.mpr ⟨h35, h57, by omega, by omega⟩)]; omega) (by omega) | exact ih (by omega) _ _ (by rw [cnt_n (fun q => by have := prI_iff.mp q; omega)]; omega) (by omega) | exact ih (by omega) _ _ (by rw [cnt_n (fun q => h57 (prI_iff.mp q).2.1)]; omega) (by omega) | exact ih (by omega) _ _ (by rw [cnt_n (fun q => h35 (prI_iff.mp q).1)]; omega) (by omega)
            · refine R_iinc [_, _, _, _, _, _] 101 rfl dX10_howManyPairs_98 rfl rfl (by decide) ?_
              refine R_iinc [_, _, _, _, _, _] 104 rfl dX10_howManyPairs_101 rfl rfl (by decide) ?_
              refine R_goto 6 rfl dX10_howManyPairs_104 ?_
              first | exact ih (by omega) _ _ (by rw [cnt_y (prI_iff.mpr ⟨h35, h57, by omega, by omega⟩)]; omega) (by omega) | exact ih (by omega) _ _ (by rw [cnt_n (fun q => by have := prI_iff.mp q; omega)]; omega) (by omega) | exact ih (by omega) _ _ (by rw [cnt_n (fun q => h57 (prI_iff.mp q).2.1)]; omega) (by omega) | exact ih (by omega) _ _ (by rw [cnt_n (fun q => h35 (prI_iff.mp q).1)]; omega) (by omega)
  refine R_iconst 1 rfl dX10_howManyPairs_0 ?_
  refine R_istore [_, _, _, _, _, _] 3 rfl dX10_howManyPairs_1 rfl (by decide) ?_
  refine R_iconst 4 rfl dX10_howManyPairs_3 ?_
  refine R_istore [_, _, _, _, _, _] 6 rfl dX10_howManyPairs_4 rfl (by decide) ?_
  exact Lp 0 (by omega) _ _ rfl rfl
theorem c_X10_fractionOrNone (t b w : Int) (hPO : PO o d m) (ht : rg t) (hb : rg b) (h0 : 0 ≤ b) (hw : 0 ≤ w ∧ w ≤ 5) : C Γ mX10_fractionOrNone 2 80 0 0 [vr 0, vi t, vi b, vi w] SH m (QI SH (fun z m' => z = (if b = 0 then -4 else if w % 2 = 0 then rT t b else rB t b) ∧ Fr (fun a => decide (a = 91)) m m')) := by
  refine C_of_R rfl (Nat.le_of_ble_eq_true rfl) ?_
  have hP := hPO.2
  have ht' := ht.1
  have ht2 := ht.2
  have hb2 := hb.2
  refine R_iload_n 1 rfl dX10_fractionOrNone_0 rfl ?_
  refine R_if_ne 4 7 rfl rfl dX10_fractionOrNone_1 (by first | assumption | exact ⟨by omega, by omega⟩) (fun h1 => ?_) (fun h1 => ?_)
  · refine R_aload_n 8 rfl dX10_fractionOrNone_7 rfl ?_
    refine R_getP 13 11 rfl dX10_fractionOrNone_8 rfl rfl fl_X10_88 (hP _ _ _ rfl) ?_
    refine R_iload_n 12 rfl dX10_fractionOrNone_11 rfl ?_
    refine R_i2l 13 rfl dX10_fractionOrNone_12 (by first | assumption | exact ⟨by omega, by omega⟩) ?_
    refine R_iload_n 14 rfl dX10_fractionOrNone_13 rfl ?_
    refine R_i2l 15 rfl dX10_fractionOrNone_14 (by first | assumption | exact ⟨by omega, by omega⟩) ?_
    refine R_callV_v (M' := mX6_become) 18 rfl dX10_fractionOrNone_15 ml_X10_281 kmX6_become im_X6_become se_X6_become rfl ⟨by decide, rfl⟩ (c_X6_become _ _ (by omega) (by omega)) rfl rfl ⟨Nat.le_of_ble_eq_true rfl, Nat.le_of_ble_eq_true rfl⟩ (Nat.le_of_ble_eq_true rfl) ⟨Nat.le_of_ble_eq_true rfl, Nat.le_of_ble_eq_true rfl⟩ ?_
    refine R_aload_n 19 rfl dX10_fractionOrNone_18 rfl ?_
    refine R_getP 13 22 rfl dX10_fractionOrNone_19 rfl rfl fl_X10_88 (hP _ _ _ rfl) ?_
    refine R_iload_n 23 rfl dX10_fractionOrNone_22 rfl ?_
    refine R_callV_l (M' := mX6_part) 26 rfl dX10_fractionOrNone_23 ml_X10_297 kmX6_part im_X6_part se_X6_part rfl ⟨by decide, rfl⟩ (c_X6_part _ (by omega)) rfl rfl ⟨Nat.le_of_ble_eq_true rfl, Nat.le_of_ble_eq_true rfl⟩ (Nat.le_of_ble_eq_true rfl) ⟨Nat.le_of_ble_eq_true rfl, Nat.le_of_ble_eq_true rfl⟩ ?_
    refine R_l2i 27 rfl dX10_fractionOrNone_26 ?_
    refine R_ireturn dX10_fractionOrNone_27 rfl ?_
    refine QI_mk ⟨?_, (Fr.rf.set rfl).set rfl⟩
    simp [raM, setI, h1]
  · refine R_bipush 6 rfl dX10_fractionOrNone_4 (by decide) ?_
    refine R_ireturn dX10_fractionOrNone_6 rfl ?_
    exact QI_mk ⟨by rw [if_pos (by omega)], Fr.rf⟩
end
