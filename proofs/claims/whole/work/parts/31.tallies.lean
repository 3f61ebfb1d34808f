def erl (L : Ld) (B : Bk) (k : Nat) : Int := B.2.1 1 (k / 2) + L.1 2 - (if B.2.2 1 k = 0 then L.1 4 else B.2.2 1 k)
def lat (L : Ld) (B : Bk) (k : Nat) : Int := B.2.1 1 (k / 2) + L.1 2 - (if B.2.2 1 k = 0 then L.1 3 else B.2.2 1 k)
def lrn (L : Ld) (B : Bk) (a b : Int) (k : Nat) : Int := if a ≤ erl L B k ∧ lat L B k ≤ b then 2 else if erl L B k ≤ b ∧ a ≤ lat L B k then 1 else 0
def lnI (L : Ld) (B : Bk) (ch : Cs) (c : Nat) (a b w : Int) (k : Nat) : Bool := inC B ch c k && (decide (w < 2) || abl L B k) && decide (lrn L B a b k = if w % 2 = 0 then 2 else 1)
def hml (L : Ld) (B : Bk) (ch : Cs) (c : Nat) (a b w : Int) : Nat := cnt (lnI L B ch c a b w) (2 * B.1)
theorem lnI_iff {L : Ld} {B : Bk} {ch : Cs} {c k : Nat} {a b w : Int} : lnI L B ch c a b w k = true ↔ (inC B ch c k = true ∧ (w < 2 ∨ abl L B k = true) ∧ lrn L B a b k = if w % 2 = 0 then 2 else 1) := by simp [lnI, and_assoc]
def tgP (B : Bk) (ch : Cs) (c : Nat) (gr : Int) (g k : Nat) : Bool := inC B ch c k && decide (grp B k gr = (g : Int))
def tgM (B : Bk) (ch : Cs) (c : Nat) (gr : Int) (g : Nat) : Int := (cnt (tgP B ch c gr g) (2 * B.1) : Int)
def tgQ (L : Ld) (B : Bk) (ch : Cs) (c : Nat) (gr : Int) (g k : Nat) : Bool := tgP B ch c gr g k && abl L B k
def tgA (L : Ld) (B : Bk) (ch : Cs) (c : Nat) (gr : Int) (g : Nat) : Int := (cnt (tgQ L B ch c gr g) (2 * B.1) : Int)
def tgN (B : Bk) (ch : Cs) (c : Nat) : Int := (cnt (inC B ch c) (2 * B.1) : Int)
def Ft (t : Nat) (m m' : Mem) : Prop := (∀ a k, isK a = false → isT t a = false → m'.1 a k = m.1 a k) ∧ (∀ a k, a ≠ 41 → m'.2 a k = m.2 a k)
theorem grp_rg {B : Bk} {np g : Int} {k : Nat} (hO : BkOk np B) (hnp : np ≤ 12) (hk : k < 2 * B.1) : 0 ≤ grp B k g ∧ grp B k g < 12 := by
  have h1 := hO.2.1 (k / 2) (by omega)
  have h2 := hO.2.2 k hk
  unfold grp
  split
  · omega
  · split
    · omega
    · split <;> omega
theorem cnt_b {p : Nat → Bool} {n : Nat} {b : Int} (hb : b = pI (p n = true)) : (cnt p (n + 1) : Int) = cnt p n + b := by
  by_cases h : p n = true
  · rw [cnt_y h, hb, pI_t h]; rfl
  · rw [cnt_n h, hb, pI_f h]; rfl
theorem Tl_no {t t1 t2 k : Nat} {m : Mem} {P Qa : Nat → Nat → Bool} {A : Nat → Bool} (hT : Tl t t1 t2 m (fun g => (cnt (P g) k : Int)) (fun g => (cnt (Qa g) k : Int)) (cnt A k : Int)) (h : ¬ A k = true) (hP : ∀ g, P g k = true → A k = true) (hq : ∀ g, Qa g k = true → A k = true) : Tl t t1 t2 m (fun g => (cnt (P g) (k + 1) : Int)) (fun g => (cnt (Qa g) (k + 1) : Int)) (cnt A (k + 1) : Int) := by
  refine ⟨by rw [cnt_n h]; exact hT.1, fun g hg => ?_⟩
  have := hT.2 g hg
  dsimp only at this ⊢
  rw [cnt_n (fun q => h (hP g q)), cnt_n (fun q => h (hq g q))]
  exact this
theorem Tl_yes {t t1 t2 k : Nat} {m : Mem} {P Qa : Nat → Nat → Bool} {A : Nat → Bool} (j : Nat) {b : Int} (hT : Tl t t1 t2 m (fun g => if g = j then (cnt (P g) k : Int) + 1 else (cnt (P g) k : Int)) (fun g => if g = j then (cnt (Qa g) k : Int) + b else (cnt (Qa g) k : Int)) ((cnt A k : Int) + 1)) (hA : A k = true) (hj : P j k = true) (hne : ∀ g, g ≠ j → ¬ P g k = true) (hqj : b = pI (Qa j k = true)) (hqn : ∀ g, g ≠ j → ¬ Qa g k = true) : Tl t t1 t2 m (fun g => (cnt (P g) (k + 1) : Int)) (fun g => (cnt (Qa g) (k + 1) : Int)) (cnt A (k + 1) : Int) := by
  refine ⟨by rw [cnt_y hA]; exact hT.1, fun g hg => ?_⟩
  have := hT.2 g hg
  dsimp only at this ⊢
  by_cases e : g = j
  · subst e
    rw [if_pos rfl, if_pos rfl] at this
    rw [cnt_y hj, cnt_b hqj]
    exact this
  · rw [if_neg e, if_neg e] at this
    rw [cnt_n (hne g e), cnt_n (hqn g e)]
    exact this
section
variable {Γ : GX} {m : Mem} {B : Bk} {L : Ld} {ch : Cs} {o d : Nat} {Q : Option AV → Shp → Mem → Prop}
theorem c_X10_howSurelyLearnt (z a b : Int) (k : Nat) (hCS : CS o d L B ch m) (hz : z = (k : Int)) (hk : k < 2 * B.1) (ha : rg a) (hb : rg b) : C Γ mX10_howSurelyLearnt 1 40 0 0 [vr 0, vi z, vi a, vi b] SH m (Qi SH m (lrn L B a b k)) := by
  refine C_of_R rfl (Nat.le_of_ble_eq_true rfl) ?_
  subst hz
  obtain ⟨hPO, hB, hO, hL, hLO, hC, hCO, hst, hkc⟩ := id hCS
  have hP := hPO.2
  have h1 := hLO.1
  have h3 := hO.2.1 (k / 2) (by omega)
  have h2 := hO.2.2 k hk
  have h5 := hO.1
  obtain ⟨s0, s1, e2, s3, s4⟩ := hB.2.2 k hk
  have e1 : erl L B k = B.2.1 1 (k / 2) + L.1 2 - (if B.2.2 1 k = 0 then L.1 4 else B.2.2 1 k) := rfl
  have e3 : lat L B k = B.2.1 1 (k / 2) + L.1 2 - (if B.2.2 1 k = 0 then L.1 3 else B.2.2 1 k) := rfl
  by_cases h0 : B.2.2 1 k = 0
  · rw [if_pos h0] at e1 e3
    rcases hL with ⟨rfl, hL⟩ | ⟨rfl, hL⟩
    all_goals
      have h6 := hL.1
      refine R_aload_n 1 rfl dX10_howSurelyLearnt_0 rfl ?_
      refine R_getP 5 4 rfl dX10_howSurelyLearnt_1 rfl rfl fl_X10_40 (hP _ _ _ rfl) ?_
      refine R_iload_n 5 rfl dX10_howSurelyLearnt_4 rfl ?_
      refine R_callV_i (M' := mX0_yearOf) 8 rfl dX10_howSurelyLearnt_5 ml_X10_419 kmX0_yearOf im_X0_yearOf se_X0_yearOf rfl ⟨by decide, rfl⟩ (c_X0_yearOf _ k hPO hB rfl hk h5) rfl rfl ⟨Nat.le_of_ble_eq_true rfl, Nat.le_of_ble_eq_true rfl⟩ (Nat.le_of_ble_eq_true rfl) ⟨Nat.le_of_ble_eq_true rfl, Nat.le_of_ble_eq_true rfl⟩ ?_
      refine R_aload_n 9 rfl dX10_howSurelyLearnt_8 rfl ?_
      refine R_getP 2 12 rfl dX10_howSurelyLearnt_9 rfl rfl fl_X10_26 (PO_o hPO) ?_
      refine R_getI 2 15 rfl dX10_howSurelyLearnt_12 rfl rfl fl_X10_131 ?_
      refine R_iadd 16 rfl dX10_howSurelyLearnt_15 ?_
      refine R_istore [_, _, _, _, _, _, _, _] 18 rfl dX10_howSurelyLearnt_16 rfl (by decide) ?_
      refine R_aload_n 19 rfl dX10_howSurelyLearnt_18 rfl ?_
      refine R_getP 5 22 rfl dX10_howSurelyLearnt_19 rfl rfl fl_X10_40 (hP _ _ _ rfl) ?_
      refine R_getP 2 25 rfl dX10_howSurelyLearnt_22 rfl rfl fl_X10_196 (hP _ _ _ rfl) ?_
      refine R_iconst 26 rfl dX10_howSurelyLearnt_25 ?_
      refine R_aald 1 27 rfl dX10_howSurelyLearnt_26 rfl rfl (by first | rfl | omega) (by decide) (by decide) (hP _ _ _ rfl) ?_
      refine R_iload_n 28 rfl dX10_howSurelyLearnt_27 rfl ?_
      refine R_iald k 29 rfl dX10_howSurelyLearnt_28 rfl (by first | rfl | omega) (by omega) (by decide) ?_
      refine R_istore [_, _, _, _, _, _, _, _] 31 rfl dX10_howSurelyLearnt_29 rfl (by decide) ?_
      refine R_iload 33 rfl dX10_howSurelyLearnt_31 rfl ?_
      refine R_iload 35 rfl dX10_howSurelyLearnt_33 rfl ?_
      refine R_if_ne 38 48 rfl rfl dX10_howSurelyLearnt_35 (by first | assumption | exact ⟨by omega, by omega⟩) (fun h35 => ?_) (fun h35 => ?_)
      · exfalso; omega
      · refine R_aload_n 39 rfl dX10_howSurelyLearnt_38 rfl ?_
        refine R_getP 2 42 rfl dX10_howSurelyLearnt_39 rfl rfl fl_X10_26 (PO_o hPO) ?_
        refine R_getI 4 45 rfl dX10_howSurelyLearnt_42 rfl rfl fl_X10_137 ?_
        refine R_goto 50 rfl dX10_howSurelyLearnt_45 ?_
        refine R_isub 51 rfl dX10_howSurelyLearnt_50 ?_
        refine R_istore [_, _, _, _, _, _, _, _] 53 rfl dX10_howSurelyLearnt_51 rfl (by decide) ?_
        refine R_iload 55 rfl dX10_howSurelyLearnt_53 rfl ?_
        refine R_iload 57 rfl dX10_howSurelyLearnt_55 rfl ?_
        refine R_if_ne 60 70 rfl rfl dX10_howSurelyLearnt_57 (by first | assumption | exact ⟨by omega, by omega⟩) (fun h57 => ?_) (fun h57 => ?_)
        · exfalso; omega
        · refine R_aload_n 61 rfl dX10_howSurelyLearnt_60 rfl ?_
          refine R_getP 2 64 rfl dX10_howSurelyLearnt_61 rfl rfl fl_X10_26 (PO_o hPO) ?_
          refine R_getI 3 67 rfl dX10_howSurelyLearnt_64 rfl rfl fl_X10_134 ?_
          refine R_goto 72 rfl dX10_howSurelyLearnt_67 ?_
          refine R_isub 73 rfl dX10_howSurelyLearnt_72 ?_
          refine R_istore [_, _, _, _, _, _, _, _] 75 rfl dX10_howSurelyLearnt_73 rfl (by decide) ?_
          refine R_iload 77 rfl dX10_howSurelyLearnt_75 rfl ?_
          refine R_iload_n 78 rfl dX10_howSurelyLearnt_77 rfl ?_
          refine R_icmp_lt 81 89 rfl rfl dX10_howSurelyLearnt_78 (by first | assumption | exact ⟨by omega, by omega⟩) (by first | assumption | exact ⟨by omega, by omega⟩) (fun h78 => ?_) (fun h78 => ?_)
          · refine R_iload 91 rfl dX10_howSurelyLearnt_89 rfl ?_
            refine R_iload_n 92 rfl dX10_howSurelyLearnt_91 rfl ?_
            refine R_icmp_gt 95 105 rfl rfl dX10_howSurelyLearnt_92 (by first | assumption | exact ⟨by omega, by omega⟩) (by first | assumption | exact ⟨by omega, by omega⟩) (fun h92 => ?_) (fun h92 => ?_)
            · refine R_iconst 106 rfl dX10_howSurelyLearnt_105 ?_
              refine R_ireturn dX10_howSurelyLearnt_106 rfl ?_
              first | (exfalso; omega) | exact Qi_mk (by unfold lrn; rw [if_pos (by omega)]) | exact Qi_mk (by unfold lrn; rw [if_neg (by omega), if_pos (by omega)]) | exact Qi_mk (by unfold lrn; rw [if_neg (by omega), if_neg (by omega)])
            · refine R_iload 97 rfl dX10_howSurelyLearnt_95 rfl ?_
              refine R_iload_n 98 rfl dX10_howSurelyLearnt_97 rfl ?_
              refine R_icmp_lt 101 105 rfl rfl dX10_howSurelyLearnt_98 (by first | assumption | exact ⟨by omega, by omega⟩) (by first | assumption | exact ⟨by omega, by omega⟩) (fun h98 => ?_) (fun h98 => ?_)
              · refine R_iconst 106 rfl dX10_howSurelyLearnt_105 ?_
                refine R_ireturn dX10_howSurelyLearnt_106 rfl ?_
                first | (exfalso; omega) | exact Qi_mk (by unfold lrn; rw [if_pos (by omega)]) | exact Qi_mk (by unfold lrn; rw [if_neg (by omega), if_pos (by omega)]) | exact Qi_mk (by unfold lrn; rw [if_neg (by omega), if_neg (by omega)])
              · refine R_iconst 102 rfl dX10_howSurelyLearnt_101 ?_
                refine R_goto 106 rfl dX10_howSurelyLearnt_102 ?_
                refine R_ireturn dX10_howSurelyLearnt_106 rfl ?_
                first | (exfalso; omega) | exact Qi_mk (by unfold lrn; rw [if_pos (by omega)]) | exact Qi_mk (by unfold lrn; rw [if_neg (by omega), if_pos (by omega)]) | exact Qi_mk (by unfold lrn; rw [if_neg (by omega), if_neg (by omega)])
          · refine R_iload 83 rfl dX10_howSurelyLearnt_81 rfl ?_
            refine R_iload_n 84 rfl dX10_howSurelyLearnt_83 rfl ?_
            refine R_icmp_gt 87 89 rfl rfl dX10_howSurelyLearnt_84 (by first | assumption | exact ⟨by omega, by omega⟩) (by first | assumption | exact ⟨by omega, by omega⟩) (fun h84 => ?_) (fun h84 => ?_)
            · refine R_iload 91 rfl dX10_howSurelyLearnt_89 rfl ?_
              refine R_iload_n 92 rfl dX10_howSurelyLearnt_91 rfl ?_
              refine R_icmp_gt 95 105 rfl rfl dX10_howSurelyLearnt_92 (by first | assumption | exact ⟨by omega, by omega⟩) (by first | assumption | exact ⟨by omega, by omega⟩) (fun h92 => ?_) (fun h92 => ?_)
              · refine R_iconst 106 rfl dX10_howSurelyLearnt_105 ?_
                refine R_ireturn dX10_howSurelyLearnt_106 rfl ?_
                first | (exfalso; omega) | exact Qi_mk (by unfold lrn; rw [if_pos (by omega)]) | exact Qi_mk (by unfold lrn; rw [if_neg (by omega), if_pos (by omega)]) | exact Qi_mk (by unfold lrn; rw [if_neg (by omega), if_neg (by omega)])
              · refine R_iload 97 rfl dX10_howSurelyLearnt_95 rfl ?_
                refine R_iload_n 98 rfl dX10_howSurelyLearnt_97 rfl ?_
                refine R_icmp_lt 101 105 rfl rfl dX10_howSurelyLearnt_98 (by first | assumption | exact ⟨by omega, by omega⟩) (by first | assumption | exact ⟨by omega, by omega⟩) (fun h98 => ?_) (fun h98 => ?_)
                · refine R_iconst 106 rfl dX10_howSurelyLearnt_105 ?_
                  refine R_ireturn dX10_howSurelyLearnt_106 rfl ?_
                  first | (exfalso; omega) | exact Qi_mk (by unfold lrn; rw [if_pos (by omega)]) | exact Qi_mk (by unfold lrn; rw [if_neg (by omega), if_pos (by omega)]) | exact Qi_mk (by unfold lrn; rw [if_neg (by omega), if_neg (by omega)])
                · refine R_iconst 102 rfl dX10_howSurelyLearnt_101 ?_
                  refine R_goto 106 rfl dX10_howSurelyLearnt_102 ?_
                  refine R_ireturn dX10_howSurelyLearnt_106 rfl ?_
                  first | (exfalso; omega) | exact Qi_mk (by unfold lrn; rw [if_pos (by omega)]) | exact Qi_mk (by unfold lrn; rw [if_neg (by omega), if_pos (by omega)]) | exact Qi_mk (by unfold lrn; rw [if_neg (by omega), if_neg (by omega)])
            · refine R_iconst 88 rfl dX10_howSurelyLearnt_87 ?_
              refine R_ireturn dX10_howSurelyLearnt_88 rfl ?_
              first | (exfalso; omega) | exact Qi_mk (by unfold lrn; rw [if_pos (by omega)]) | exact Qi_mk (by unfold lrn; rw [if_neg (by omega), if_pos (by omega)]) | exact Qi_mk (by unfold lrn; rw [if_neg (by omega), if_neg (by omega)])
  · rw [if_neg h0] at e1 e3
    rcases hL with ⟨rfl, hL⟩ | ⟨rfl, hL⟩
    all_goals
      have h6 := hL.1
      refine R_aload_n 1 rfl dX10_howSurelyLearnt_0 rfl ?_
      refine R_getP 5 4 rfl dX10_howSurelyLearnt_1 rfl rfl fl_X10_40 (hP _ _ _ rfl) ?_
      refine R_iload_n 5 rfl dX10_howSurelyLearnt_4 rfl ?_
      refine R_callV_i (M' := mX0_yearOf) 8 rfl dX10_howSurelyLearnt_5 ml_X10_419 kmX0_yearOf im_X0_yearOf se_X0_yearOf rfl ⟨by decide, rfl⟩ (c_X0_yearOf _ k hPO hB rfl hk h5) rfl rfl ⟨Nat.le_of_ble_eq_true rfl, Nat.le_of_ble_eq_true rfl⟩ (Nat.le_of_ble_eq_true rfl) ⟨Nat.le_of_ble_eq_true rfl, Nat.le_of_ble_eq_true rfl⟩ ?_
      refine R_aload_n 9 rfl dX10_howSurelyLearnt_8 rfl ?_
      refine R_getP 2 12 rfl dX10_howSurelyLearnt_9 rfl rfl fl_X10_26 (PO_o hPO) ?_
      refine R_getI 2 15 rfl dX10_howSurelyLearnt_12 rfl rfl fl_X10_131 ?_
      refine R_iadd 16 rfl dX10_howSurelyLearnt_15 ?_
      refine R_istore [_, _, _, _, _, _, _, _] 18 rfl dX10_howSurelyLearnt_16 rfl (by decide) ?_
      refine R_aload_n 19 rfl dX10_howSurelyLearnt_18 rfl ?_
      refine R_getP 5 22 rfl dX10_howSurelyLearnt_19 rfl rfl fl_X10_40 (hP _ _ _ rfl) ?_
      refine R_getP 2 25 rfl dX10_howSurelyLearnt_22 rfl rfl fl_X10_196 (hP _ _ _ rfl) ?_
      refine R_iconst 26 rfl dX10_howSurelyLearnt_25 ?_
      refine R_aald 1 27 rfl dX10_howSurelyLearnt_26 rfl rfl (by first | rfl | omega) (by decide) (by decide) (hP _ _ _ rfl) ?_
      refine R_iload_n 28 rfl dX10_howSurelyLearnt_27 rfl ?_
      refine R_iald k 29 rfl dX10_howSurelyLearnt_28 rfl (by first | rfl | omega) (by omega) (by decide) ?_
      refine R_istore [_, _, _, _, _, _, _, _] 31 rfl dX10_howSurelyLearnt_29 rfl (by decide) ?_
      refine R_iload 33 rfl dX10_howSurelyLearnt_31 rfl ?_
      refine R_iload 35 rfl dX10_howSurelyLearnt_33 rfl ?_
      refine R_if_ne 38 48 rfl rfl dX10_howSurelyLearnt_35 (by first | assumption | exact ⟨by omega, by omega⟩) (fun h35 => ?_) (fun h35 => ?_)
      · refine R_iload 50 rfl dX10_howSurelyLearnt_48 rfl ?_
        refine R_isub 51 rfl dX10_howSurelyLearnt_50 ?_
        refine R_istore [_, _, _, _, _, _, _, _] 53 rfl dX10_howSurelyLearnt_51 rfl (by decide) ?_
        refine R_iload 55 rfl dX10_howSurelyLearnt_53 rfl ?_
        refine R_iload 57 rfl dX10_howSurelyLearnt_55 rfl ?_
        refine R_if_ne 60 70 rfl rfl dX10_howSurelyLearnt_57 (by first | assumption | exact ⟨by omega, by omega⟩) (fun h57 => ?_) (fun h57 => ?_)
        · refine R_iload 72 rfl dX10_howSurelyLearnt_70 rfl ?_
          refine R_isub 73 rfl dX10_howSurelyLearnt_72 ?_
          refine R_istore [_, _, _, _, _, _, _, _] 75 rfl dX10_howSurelyLearnt_73 rfl (by decide) ?_
          refine R_iload 77 rfl dX10_howSurelyLearnt_75 rfl ?_
          refine R_iload_n 78 rfl dX10_howSurelyLearnt_77 rfl ?_
          refine R_icmp_lt 81 89 rfl rfl dX10_howSurelyLearnt_78 (by first | assumption | exact ⟨by omega, by omega⟩) (by first | assumption | exact ⟨by omega, by omega⟩) (fun h78 => ?_) (fun h78 => ?_)
          · refine R_iload 91 rfl dX10_howSurelyLearnt_89 rfl ?_
            refine R_iload_n 92 rfl dX10_howSurelyLearnt_91 rfl ?_
            refine R_icmp_gt 95 105 rfl rfl dX10_howSurelyLearnt_92 (by first | assumption | exact ⟨by omega, by omega⟩) (by first | assumption | exact ⟨by omega, by omega⟩) (fun h92 => ?_) (fun h92 => ?_)
            · refine R_iconst 106 rfl dX10_howSurelyLearnt_105 ?_
              refine R_ireturn dX10_howSurelyLearnt_106 rfl ?_
              first | (exfalso; omega) | exact Qi_mk (by unfold lrn; rw [if_pos (by omega)]) | exact Qi_mk (by unfold lrn; rw [if_neg (by omega), if_pos (by omega)]) | exact Qi_mk (by unfold lrn; rw [if_neg (by omega), if_neg (by omega)])
            · refine R_iload 97 rfl dX10_howSurelyLearnt_95 rfl ?_
              refine R_iload_n 98 rfl dX10_howSurelyLearnt_97 rfl ?_
              refine R_icmp_lt 101 105 rfl rfl dX10_howSurelyLearnt_98 (by first | assumption | exact ⟨by omega, by omega⟩) (by first | assumption | exact ⟨by omega, by omega⟩) (fun h98 => ?_) (fun h98 => ?_)
              · refine R_iconst 106 rfl dX10_howSurelyLearnt_105 ?_
                refine R_ireturn dX10_howSurelyLearnt_106 rfl ?_
                first | (exfalso; omega) | exact Qi_mk (by unfold lrn; rw [if_pos (by omega)]) | exact Qi_mk (by unfold lrn; rw [if_neg (by omega), if_pos (by omega)]) | exact Qi_mk (by unfold lrn; rw [if_neg (by omega), if_neg (by omega)])
              · refine R_iconst 102 rfl dX10_howSurelyLearnt_101 ?_
                refine R_goto 106 rfl dX10_howSurelyLearnt_102 ?_
                refine R_ireturn dX10_howSurelyLearnt_106 rfl ?_
                first | (exfalso; omega) | exact Qi_mk (by unfold lrn; rw [if_pos (by omega)]) | exact Qi_mk (by unfold lrn; rw [if_neg (by omega), if_pos (by omega)]) | exact Qi_mk (by unfold lrn; rw [if_neg (by omega), if_neg (by omega)])
          · refine R_iload 83 rfl dX10_howSurelyLearnt_81 rfl ?_
            refine R_iload_n 84 rfl dX10_howSurelyLearnt_83 rfl ?_
            refine R_icmp_gt 87 89 rfl rfl dX10_howSurelyLearnt_84 (by first | assumption | exact ⟨by omega, by omega⟩) (by first | assumption | exact ⟨by omega, by omega⟩) (fun h84 => ?_) (fun h84 => ?_)
            · refine R_iload 91 rfl dX10_howSurelyLearnt_89 rfl ?_
              refine R_iload_n 92 rfl dX10_howSurelyLearnt_91 rfl ?_
              refine R_icmp_gt 95 105 rfl rfl dX10_howSurelyLearnt_92 (by first | assumption | exact ⟨by omega, by omega⟩) (by first | assumption | exact ⟨by omega, by omega⟩) (fun h92 => ?_) (fun h92 => ?_)
              · refine R_iconst 106 rfl dX10_howSurelyLearnt_105 ?_
                refine R_ireturn dX10_howSurelyLearnt_106 rfl ?_
                first | (exfalso; omega) | exact Qi_mk (by unfold lrn; rw [if_pos (by omega)]) | exact Qi_mk (by unfold lrn; rw [if_neg (by omega), if_pos (by omega)]) | exact Qi_mk (by unfold lrn; rw [if_neg (by omega), if_neg (by omega)])
              · refine R_iload 97 rfl dX10_howSurelyLearnt_95 rfl ?_
                refine R_iload_n 98 rfl dX10_howSurelyLearnt_97 rfl ?_
                refine R_icmp_lt 101 105 rfl rfl dX10_howSurelyLearnt_98 (by first | assumption | exact ⟨by omega, by omega⟩) (by first | assumption | exact ⟨by omega, by omega⟩) (fun h98 => ?_) (fun h98 => ?_)
                · refine R_iconst 106 rfl dX10_howSurelyLearnt_105 ?_
                  refine R_ireturn dX10_howSurelyLearnt_106 rfl ?_
                  first | (exfalso; omega) | exact Qi_mk (by unfold lrn; rw [if_pos (by omega)]) | exact Qi_mk (by unfold lrn; rw [if_neg (by omega), if_pos (by omega)]) | exact Qi_mk (by unfold lrn; rw [if_neg (by omega), if_neg (by omega)])
                · refine R_iconst 102 rfl dX10_howSurelyLearnt_101 ?_
                  refine R_goto 106 rfl dX10_howSurelyLearnt_102 ?_
                  refine R_ireturn dX10_howSurelyLearnt_106 rfl ?_
                  first | (exfalso; omega) | exact Qi_mk (by unfold lrn; rw [if_pos (by omega)]) | exact Qi_mk (by unfold lrn; rw [if_neg (by omega), if_pos (by omega)]) | exact Qi_mk (by unfold lrn; rw [if_neg (by omega), if_neg (by omega)])
            · refine R_iconst 88 rfl dX10_howSurelyLearnt_87 ?_
              refine R_ireturn dX10_howSurelyLearnt_88 rfl ?_
              first | (exfalso; omega) | exact Qi_mk (by unfold lrn; rw [if_pos (by omega)]) | exact Qi_mk (by unfold lrn; rw [if_neg (by omega), if_pos (by omega)]) | exact Qi_mk (by unfold lrn; rw [if_neg (by omega), if_neg (by omega)])
        · exfalso; omega
      · exfalso; omega
theorem l_X10_howManyLearnt (c : Nat) (a b w cz wt : Int) (hCS : CS o d L B ch m) (hKF : KF L B m) (hcz : cz = (c : Int)) (hc : c < 2) (ha : rg a) (hb : rg b) (hw : 0 ≤ w ∧ w ≤ 3) (hwt : wt = if w % 2 = 0 then 2 else 1) (hQ : Q (some (vi (hml L B ch c a b w : Int))) SH m) : ∀ k, k ≤ 2 * B.1 → ∀ f z, f = (cnt (lnI L B ch c a b w) k : Int) → z = (k : Int) → R Γ mX10_howManyLearnt { frames := 5, cells := 0, slots := 0, locals := 200 } 0 0 Q 0 0 35 [some (vr 0), some (vi cz), some (vi a), some (vi b), some (vi w), some (vi wt), some (vi f), some (vi z)] [] SH m := by
  obtain ⟨hPO, hB, hO, hL, hLO, hC, hCO, hst, hkc⟩ := id hCS
  have hP := hPO.2
  have h5 := hO.1
  have h6 := hLO.1
  have hK : ∀ j, j < 2 * B.1 → m.1 42 j = kd L B j := fun j hj => (hKF.2 j hj).1
  have hwt2 : wt = 2 ∨ wt = 1 := by rw [hwt]; split <;> simp
  refine up_ind (2 * B.1) (fun k hk ih f z hf hz => ?_)
  have hlr : 0 ≤ lrn L B a b k ∧ lrn L B a b k ≤ 2 := by unfold lrn; split <;> (try split) <;> omega
  refine R_iload 37 rfl dX10_howManyLearnt_35 rfl ?_
  refine R_aload_n 38 rfl dX10_howManyLearnt_37 rfl ?_
  refine R_getP 5 41 rfl dX10_howManyLearnt_38 rfl rfl fl_X10_40 (hP _ _ _ rfl) ?_
  refine R_callV_i (M' := mX0_marks) 44 rfl dX10_howManyLearnt_41 ml_X10_167 kmX0_marks im_X0_marks se_X0_marks rfl ⟨by decide, rfl⟩ (c_X0_marks hB) rfl rfl ⟨Nat.le_of_ble_eq_true rfl, Nat.le_of_ble_eq_true rfl⟩ (Nat.le_of_ble_eq_true rfl) ⟨Nat.le_of_ble_eq_true rfl, Nat.le_of_ble_eq_true rfl⟩ ?_
  refine R_icmp_ge 47 105 rfl rfl dX10_howManyLearnt_44 (by first | assumption | exact ⟨by omega, by omega⟩) (by first | assumption | exact ⟨by omega, by omega⟩) (fun h44 => ?_) (fun h44 => ?_)
  · refine R_iload 107 rfl dX10_howManyLearnt_105 rfl ?_
    refine R_ireturn dX10_howManyLearnt_107 rfl ?_
    rw [hf, show k = 2 * B.1 by omega]; exact hQ
  · refine R_aload_n 48 rfl dX10_howManyLearnt_47 rfl ?_
    refine R_getP 7 51 rfl dX10_howManyLearnt_48 rfl rfl fl_X10_54 (hP _ _ _ rfl) ?_
    refine R_iload_n 52 rfl dX10_howManyLearnt_51 rfl ?_
    refine R_aald c 53 rfl dX10_howManyLearnt_52 rfl rfl (by first | rfl | omega) (by omega) (by decide) (PO_ch hPO hc) ?_
    refine R_aload_n 54 rfl dX10_howManyLearnt_53 rfl ?_
    refine R_getP 5 57 rfl dX10_howManyLearnt_54 rfl rfl fl_X10_40 (hP _ _ _ rfl) ?_
    refine R_iload 59 rfl dX10_howManyLearnt_57 rfl ?_
    refine R_callV_i (M' := mX1_takes) 62 rfl dX10_howManyLearnt_59 ml_X10_406 kmX1_takes im_X1_takes se_X1_takes (sh_ch hc) ⟨by decide, rfl⟩ (c_X1_takes _ c k hPO hB hO (by omega) hC hCO hc (by omega) (by omega)) rfl rfl ⟨Nat.le_of_ble_eq_true rfl, Nat.le_of_ble_eq_true rfl⟩ (Nat.le_of_ble_eq_true rfl) ⟨Nat.le_of_ble_eq_true rfl, Nat.le_of_ble_eq_true rfl⟩ ?_
    refine R_ifp_eq 65 99 rfl rfl dX10_howManyLearnt_62 (fun h62 => ?_) (fun h62 => ?_)
    · refine R_iinc [_, _, _, _, _, _, _, _] 102 rfl dX10_howManyLearnt_99 rfl rfl (by decide) ?_
      refine R_goto 35 rfl dX10_howManyLearnt_102 ?_
      first | exact ih (by omega) _ _ (by rw [cnt_y (lnI_iff.mpr ⟨h62, Or.inr h80, by rw [← hwt]; omega⟩)]; omega) (by omega) | exact ih (by omega) _ _ (by rw [cnt_y (lnI_iff.mpr ⟨h62, Or.inl h68, by rw [← hwt]; omega⟩)]; omega) (by omega) | exact ih (by omega) _ _ (by rw [cnt_n (fun q => h62 (lnI_iff.mp q).1)]; omega) (by omega) | exact ih (by omega) _ _ (by rw [cnt_n (fun q => by have := (lnI_iff.mp q).2.2; rw [← hwt] at this; omega)]; omega) (by omega) | exact ih (by omega) _ _ (by rw [cnt_n (fun q => by rcases (lnI_iff.mp q).2.1 with q | q; omega; exact h80 q)]; omega) (by omega)
    · refine R_iload 67 rfl dX10_howManyLearnt_65 rfl ?_
      refine R_iconst 68 rfl dX10_howManyLearnt_67 ?_
      refine R_icmp_lt 71 83 rfl rfl dX10_howManyLearnt_68 (by first | assumption | exact ⟨by omega, by omega⟩) (by first | assumption | exact ⟨by omega, by omega⟩) (fun h68 => ?_) (fun h68 => ?_)
      · refine R_aload_n 84 rfl dX10_howManyLearnt_83 rfl ?_
        refine R_iload 86 rfl dX10_howManyLearnt_84 rfl ?_
        refine R_iload_n 87 rfl dX10_howManyLearnt_86 rfl ?_
        refine R_iload_n 88 rfl dX10_howManyLearnt_87 rfl ?_
        refine R_callV_i (M' := mX10_howSurelyLearnt) 91 rfl dX10_howManyLearnt_88 ml_X10_416 kmX10_howSurelyLearnt im_X10_howSurelyLearnt se_X10_howSurelyLearnt rfl ⟨by decide, rfl⟩ (c_X10_howSurelyLearnt _ _ _ k hCS (by omega) (by omega) ha hb) rfl rfl ⟨Nat.le_of_ble_eq_true rfl, Nat.le_of_ble_eq_true rfl⟩ (Nat.le_of_ble_eq_true rfl) ⟨Nat.le_of_ble_eq_true rfl, Nat.le_of_ble_eq_true rfl⟩ ?_
        refine R_iload 93 rfl dX10_howManyLearnt_91 rfl ?_
        refine R_icmp_ne 96 99 rfl rfl dX10_howManyLearnt_93 (by first | assumption | exact ⟨by omega, by omega⟩) (by first | assumption | exact ⟨by omega, by omega⟩) (fun h93 => ?_) (fun h93 => ?_)
        · refine R_iinc [_, _, _, _, _, _, _, _] 102 rfl dX10_howManyLearnt_99 rfl rfl (by decide) ?_
          refine R_goto 35 rfl dX10_howManyLearnt_102 ?_
          first | exact ih (by omega) _ _ (by rw [cnt_y (lnI_iff.mpr ⟨h62, Or.inr h80, by rw [← hwt]; omega⟩)]; omega) (by omega) | exact ih (by omega) _ _ (by rw [cnt_y (lnI_iff.mpr ⟨h62, Or.inl h68, by rw [← hwt]; omega⟩)]; omega) (by omega) | exact ih (by omega) _ _ (by rw [cnt_n (fun q => h62 (lnI_iff.mp q).1)]; omega) (by omega) | exact ih (by omega) _ _ (by rw [cnt_n (fun q => by have := (lnI_iff.mp q).2.2; rw [← hwt] at this; omega)]; omega) (by omega) | exact ih (by omega) _ _ (by rw [cnt_n (fun q => by rcases (lnI_iff.mp q).2.1 with q | q; omega; exact h80 q)]; omega) (by omega)
        · refine R_iinc [_, _, _, _, _, _, _, _] 99 rfl dX10_howManyLearnt_96 rfl rfl (by decide) ?_
          refine R_iinc [_, _, _, _, _, _, _, _] 102 rfl dX10_howManyLearnt_99 rfl rfl (by decide) ?_
          refine R_goto 35 rfl dX10_howManyLearnt_102 ?_
          first | exact ih (by omega) _ _ (by rw [cnt_y (lnI_iff.mpr ⟨h62, Or.inr h80, by rw [← hwt]; omega⟩)]; omega) (by omega) | exact ih (by omega) _ _ (by rw [cnt_y (lnI_iff.mpr ⟨h62, Or.inl h68, by rw [← hwt]; omega⟩)]; omega) (by omega) | exact ih (by omega) _ _ (by rw [cnt_n (fun q => h62 (lnI_iff.mp q).1)]; omega) (by omega) | exact ih (by omega) _ _ (by rw [cnt_n (fun q => by have := (lnI_iff.mp q).2.2; rw [← hwt] at this; omega)]; omega) (by omega) | exact ih (by omega) _ _ (by rw [cnt_n (fun q => by rcases (lnI_iff.mp q).2.1 with q | q; omega; exact h80 q)]; omega) (by omega)
      · refine R_aload_n 72 rfl dX10_howManyLearnt_71 rfl ?_
        refine R_getP 6 75 rfl dX10_howManyLearnt_72 rfl rfl fl_X10_47 (hP _ _ _ rfl) ?_
        refine R_iload 77 rfl dX10_howManyLearnt_75 rfl ?_
        refine R_callV_i (M' := mX3_isAble) 80 rfl dX10_howManyLearnt_77 ml_X10_413 kmX3_isAble im_X3_isAble se_X3_isAble rfl ⟨by decide, rfl⟩ (c_X3_isAble _ k hPO hK (by omega) (by omega) (by omega)) rfl rfl ⟨Nat.le_of_ble_eq_true rfl, Nat.le_of_ble_eq_true rfl⟩ (Nat.le_of_ble_eq_true rfl) ⟨Nat.le_of_ble_eq_true rfl, Nat.le_of_ble_eq_true rfl⟩ ?_
        refine R_ifp_eq 83 99 rfl rfl dX10_howManyLearnt_80 (fun h80 => ?_) (fun h80 => ?_)
        · refine R_iinc [_, _, _, _, _, _, _, _] 102 rfl dX10_howManyLearnt_99 rfl rfl (by decide) ?_
          refine R_goto 35 rfl dX10_howManyLearnt_102 ?_
          first | exact ih (by omega) _ _ (by rw [cnt_y (lnI_iff.mpr ⟨h62, Or.inr h80, by rw [← hwt]; omega⟩)]; omega) (by omega) | exact ih (by omega) _ _ (by rw [cnt_y (lnI_iff.mpr ⟨h62, Or.inl h68, by rw [← hwt]; omega⟩)]; omega) (by omega) | exact ih (by omega) _ _ (by rw [cnt_n (fun q => h62 (lnI_iff.mp q).1)]; omega) (by omega) | exact ih (by omega) _ _ (by rw [cnt_n (fun q => by have := (lnI_iff.mp q).2.2; rw [← hwt] at this; omega)]; omega) (by omega) | exact ih (by omega) _ _ (by rw [cnt_n (fun q => by rcases (lnI_iff.mp q).2.1 with q | q; omega; exact h80 q)]; omega) (by omega)
        · refine R_aload_n 84 rfl dX10_howManyLearnt_83 rfl ?_
          refine R_iload 86 rfl dX10_howManyLearnt_84 rfl ?_
          refine R_iload_n 87 rfl dX10_howManyLearnt_86 rfl ?_
          refine R_iload_n 88 rfl dX10_howManyLearnt_87 rfl ?_
          refine R_callV_i (M' := mX10_howSurelyLearnt) 91 rfl dX10_howManyLearnt_88 ml_X10_416 kmX10_howSurelyLearnt im_X10_howSurelyLearnt se_X10_howSurelyLearnt rfl ⟨by decide, rfl⟩ (c_X10_howSurelyLearnt _ _ _ k hCS (by omega) (by omega) ha hb) rfl rfl ⟨Nat.le_of_ble_eq_true rfl, Nat.le_of_ble_eq_true rfl⟩ (Nat.le_of_ble_eq_true rfl) ⟨Nat.le_of_ble_eq_true rfl, Nat.le_of_ble_eq_true rfl⟩ ?_
          refine R_iload 93 rfl dX10_howManyLearnt_91 rfl ?_
          refine R_icmp_ne 96 99 rfl rfl dX10_howManyLearnt_93 (by first | assumption | exact ⟨by omega, by omega⟩) (by first | assumption | exact ⟨by omega, by omega⟩) (fun h93 => ?_) (fun h93 => ?_)
          · refine R_iinc [_, _, _, _, _, _, _, _] 102 rfl dX10_howManyLearnt_99 rfl rfl (by decide) ?_
            refine R_goto 35 rfl dX10_howManyLearnt_102 ?_
            first | exact ih (by omega) _ _ (by rw [cnt_y (lnI_iff.mpr ⟨h62, Or.inr h80, by rw [← hwt]; omega⟩)]; omega) (by omega) | exact ih (by omega) _ _ (by rw [cnt_y (lnI_iff.mpr ⟨h62, Or.inl h68, by rw [← hwt]; omega⟩)]; omega) (by omega) | exact ih (by omega) _ _ (by rw [cnt_n (fun q => h62 (lnI_iff.mp q).1)]; omega) (by omega) | exact ih (by omega) _ _ (by rw [cnt_n (fun q => by have := (lnI_iff.mp q).2.2; rw [← hwt] at this; omega)]; omega) (by omega) | exact ih (by omega) _ _ (by rw [cnt_n (fun q => by rcases (lnI_iff.mp q).2.1 with q | q; omega; exact h80 q)]; omega) (by omega)
          · refine R_iinc [_, _, _, _, _, _, _, _] 99 rfl dX10_howManyLearnt_96 rfl rfl (by decide) ?_
            refine R_iinc [_, _, _, _, _, _, _, _] 102 rfl dX10_howManyLearnt_99 rfl rfl (by decide) ?_
            refine R_goto 35 rfl dX10_howManyLearnt_102 ?_
            first | exact ih (by omega) _ _ (by rw [cnt_y (lnI_iff.mpr ⟨h62, Or.inr h80, by rw [← hwt]; omega⟩)]; omega) (by omega) | exact ih (by omega) _ _ (by rw [cnt_y (lnI_iff.mpr ⟨h62, Or.inl h68, by rw [← hwt]; omega⟩)]; omega) (by omega) | exact ih (by omega) _ _ (by rw [cnt_n (fun q => h62 (lnI_iff.mp q).1)]; omega) (by omega) | exact ih (by omega) _ _ (by rw [cnt_n (fun q => by have := (lnI_iff.mp q).2.2; rw [← hwt] at this; omega)]; omega) (by omega) | exact ih (by omega) _ _ (by rw [cnt_n (fun q => by rcases (lnI_iff.mp q).2.1 with q | q; omega; exact h80 q)]; omega) (by omega)
theorem c_X10_howManyLearnt (c : Nat) (a b w cz : Int) (hCS : CS o d L B ch m) (hcz : cz = (c : Int)) (hc : c < 2) (ha : rg a) (hb : rg b) (hw : 0 ≤ w ∧ w ≤ 3) : C Γ mX10_howManyLearnt 5 200 0 0 [vr 0, vi cz, vi a, vi b, vi w] SH m (QI SH (fun z m' => z = (hml L B ch c a b w : Int) ∧ Fk m m' ∧ CS o d L B ch m' ∧ KF L B m')) := by
  refine C_of_R rfl (Nat.le_of_ble_eq_true rfl) ?_
  have hPO := hCS.1
  have hP := hPO.2
  refine R_aload_n 1 rfl dX10_howManyLearnt_0 rfl ?_
  refine R_getP 6 4 rfl dX10_howManyLearnt_1 rfl rfl fl_X10_47 (hP _ _ _ rfl) ?_
  refine R_aload_n 5 rfl dX10_howManyLearnt_4 rfl ?_
  refine R_getP 5 8 rfl dX10_howManyLearnt_5 rfl rfl fl_X10_40 (hP _ _ _ rfl) ?_
  refine R_aload_n 9 rfl dX10_howManyLearnt_8 rfl ?_
  refine R_getP 2 12 rfl dX10_howManyLearnt_9 rfl rfl fl_X10_26 (PO_o hPO) ?_
  refine R_callV_V (M' := mX3_renew) 15 rfl dX10_howManyLearnt_12 ml_X10_163 kmX3_renew im_X3_renew se_X3_renew rfl ⟨by decide, rfl⟩ (c_renew hCS) rfl rfl ⟨Nat.le_of_ble_eq_true rfl, Nat.le_of_ble_eq_true rfl⟩ (Nat.le_of_ble_eq_true rfl) ⟨Nat.le_of_ble_eq_true rfl, Nat.le_of_ble_eq_true rfl⟩ ?_
  rintro m12 h12
  obtain ⟨hf, hCS, hKF⟩ := h12
  refine R_iload 17 rfl dX10_howManyLearnt_15 rfl ?_
  refine R_iconst 18 rfl dX10_howManyLearnt_17 ?_
  refine R_irem_p 19 rfl dX10_howManyLearnt_18 (by first | assumption | exact ⟨by omega, by omega⟩) (by first | assumption | exact ⟨by omega, by omega⟩) (by omega) (by omega) ?_
  refine R_if_ne 22 26 rfl rfl dX10_howManyLearnt_19 (by first | assumption | exact ⟨by omega, by omega⟩) (fun h19 => ?_) (fun h19 => ?_)
  · refine R_iconst 27 rfl dX10_howManyLearnt_26 ?_
    refine R_istore [_, _, _, _, _, _, _, _] 29 rfl dX10_howManyLearnt_27 rfl (by decide) ?_
    refine R_iconst 30 rfl dX10_howManyLearnt_29 ?_
    refine R_istore [_, _, _, _, _, _, _, _] 32 rfl dX10_howManyLearnt_30 rfl (by decide) ?_
    refine R_iconst 33 rfl dX10_howManyLearnt_32 ?_
    refine R_istore [_, _, _, _, _, _, _, _] 35 rfl dX10_howManyLearnt_33 rfl (by decide) ?_
    exact l_X10_howManyLearnt c a b w cz _ hCS hKF hcz hc ha hb hw (by first | rw [if_pos (by omega)] | rw [if_neg (by omega)]) (QI_mk ⟨rfl, hf, hCS, hKF⟩) 0 (by omega) _ _ rfl rfl
  · refine R_iconst 23 rfl dX10_howManyLearnt_22 ?_
    refine R_goto 27 rfl dX10_howManyLearnt_23 ?_
    refine R_istore [_, _, _, _, _, _, _, _] 29 rfl dX10_howManyLearnt_27 rfl (by decide) ?_
    refine R_iconst 30 rfl dX10_howManyLearnt_29 ?_
    refine R_istore [_, _, _, _, _, _, _, _] 32 rfl dX10_howManyLearnt_30 rfl (by decide) ?_
    refine R_iconst 33 rfl dX10_howManyLearnt_32 ?_
    refine R_istore [_, _, _, _, _, _, _, _] 35 rfl dX10_howManyLearnt_33 rfl (by decide) ?_
    exact l_X10_howManyLearnt c a b w cz _ hCS hKF hcz hc ha hb hw (by first | rw [if_pos (by omega)] | rw [if_neg (by omega)]) (QI_mk ⟨rfl, hf, hCS, hKF⟩) 0 (by omega) _ _ rfl rfl
theorem l_X10_tallyGroups85 {m0 : Mem} (c : Nat) (gr cz : Int) (hCS0 : CS o d L B ch m0) (hKF0 : KF L B m0) (hcz : cz = (c : Int)) (hc : c < 2) (hg : 0 ≤ gr ∧ gr ≤ 3) (hQ : ∀ mm, Fr (isT 85) m0 mm → Tl 85 86 87 mm (tgM B ch c gr) (tgA L B ch c gr) (tgN B ch c) → Q none SH mm) : ∀ k, k ≤ 2 * B.1 → ∀ m z, Fr (isT 85) m0 m → Tl 85 86 87 m (fun g => (cnt (tgP B ch c gr g) k : Int)) (fun g => (cnt (tgQ L B ch c gr g) k : Int)) (cnt (inC B ch c) k : Int) → z = (k : Int) → R Γ mX10_tallyGroups { frames := 5, cells := 0, slots := 0, locals := 200 } 0 0 Q 0 0 22 [some (vr 0), some (vr 85), some (vi cz), some (vi gr), some (vi z)] [] SH m := by
  refine up_ind (2 * B.1) (fun k hk ih m z hf hT hz => ?_)
  have hCS := hCS0.fr hf (fun a q1 q2 => by simp [isT]; omega)
  have hKF := hKF0.fr hf rfl rfl rfl
  obtain ⟨hPO, hB, hO, hL, hLO, hC, hCO, hst, hkc⟩ := id hCS
  have hP := hPO.2
  have h5 := hO.1
  have h6 := hLO.1
  have hK : ∀ j, j < 2 * B.1 → m.1 42 j = kd L B j := fun j hj => (hKF.2 j hj).1
  refine R_iload 24 rfl dX10_tallyGroups_22 rfl ?_
  refine R_aload_n 25 rfl dX10_tallyGroups_24 rfl ?_
  refine R_getP 5 28 rfl dX10_tallyGroups_25 rfl rfl fl_X10_40 (hP _ _ _ rfl) ?_
  refine R_callV_i (M' := mX0_marks) 31 rfl dX10_tallyGroups_28 ml_X10_167 kmX0_marks im_X0_marks se_X0_marks rfl ⟨by decide, rfl⟩ (c_X0_marks hB) rfl rfl ⟨Nat.le_of_ble_eq_true rfl, Nat.le_of_ble_eq_true rfl⟩ (Nat.le_of_ble_eq_true rfl) ⟨Nat.le_of_ble_eq_true rfl, Nat.le_of_ble_eq_true rfl⟩ ?_
  refine R_icmp_ge 34 81 rfl rfl dX10_tallyGroups_31 (by first | assumption | exact ⟨by omega, by omega⟩) (by first | assumption | exact ⟨by omega, by omega⟩) (fun h31 => ?_) (fun h31 => ?_)
  · refine R_return dX10_tallyGroups_81 rfl ?_
    exact hQ _ hf (by rw [show k = 2 * B.1 by omega] at hT; exact hT)
  · refine R_aload_n 35 rfl dX10_tallyGroups_34 rfl ?_
    refine R_getP 7 38 rfl dX10_tallyGroups_35 rfl rfl fl_X10_54 (hP _ _ _ rfl) ?_
    refine R_iload_n 39 rfl dX10_tallyGroups_38 rfl ?_
    refine R_aald c 40 rfl dX10_tallyGroups_39 rfl rfl (by first | rfl | omega) (by omega) (by decide) (PO_ch hPO hc) ?_
    refine R_aload_n 41 rfl dX10_tallyGroups_40 rfl ?_
    refine R_getP 5 44 rfl dX10_tallyGroups_41 rfl rfl fl_X10_40 (hP _ _ _ rfl) ?_
    refine R_iload 46 rfl dX10_tallyGroups_44 rfl ?_
    refine R_callV_i (M' := mX1_takes) 49 rfl dX10_tallyGroups_46 ml_X10_406 kmX1_takes im_X1_takes se_X1_takes (sh_ch hc) ⟨by decide, rfl⟩ (c_X1_takes _ c k hPO hB hO (by omega) hC hCO hc (by omega) (by omega)) rfl rfl ⟨Nat.le_of_ble_eq_true rfl, Nat.le_of_ble_eq_true rfl⟩ (Nat.le_of_ble_eq_true rfl) ⟨Nat.le_of_ble_eq_true rfl, Nat.le_of_ble_eq_true rfl⟩ ?_
    refine R_ifp_eq 52 75 rfl rfl dX10_tallyGroups_49 (fun h49 => ?_) (fun h49 => ?_)
    · refine R_iinc [_, _, _, _, _] 78 rfl dX10_tallyGroups_75 rfl rfl (by decide) ?_
      refine R_goto 22 rfl dX10_tallyGroups_78 ?_
      first | exact ih (by omega) _ _ (hf.tr h72.1) (Tl_yes (P := tgP B ch c gr) (Qa := tgQ L B ch c gr) (A := inC B ch c) (grp B k gr).toNat h72.2 h49 (by simp [tgP, h49]; omega) (fun g e => by simp [tgP]; omega) (pI_congr (by simp [tgQ, tgP, h49]; omega)) (fun g e => by simp [tgQ, tgP]; omega)) (by omega) | exact ih (by omega) _ _ hf (Tl_no (P := tgP B ch c gr) (Qa := tgQ L B ch c gr) (A := inC B ch c) hT h49 (fun g q => by simp [tgP] at q; exact q.1) (fun g q => by simp [tgQ, tgP] at q; exact q.1.1)) (by omega)
    · have r1 := grp_rg (g := gr) hO (by omega) (show k < 2 * B.1 by omega)
      refine R_aload_n 53 rfl dX10_tallyGroups_52 rfl ?_
      refine R_aload_n 54 rfl dX10_tallyGroups_53 rfl ?_
      refine R_getP 5 57 rfl dX10_tallyGroups_54 rfl rfl fl_X10_40 (hP _ _ _ rfl) ?_
      refine R_iload 59 rfl dX10_tallyGroups_57 rfl ?_
      refine R_iload_n 60 rfl dX10_tallyGroups_59 rfl ?_
      refine R_callV_i (M' := mX0_groupOf) 63 rfl dX10_tallyGroups_60 ml_X10_424 kmX0_groupOf im_X0_groupOf se_X0_groupOf rfl ⟨by decide, rfl⟩ (c_X0_groupOf _ _ k hPO hB hO (by omega) (by omega) hg) rfl rfl ⟨Nat.le_of_ble_eq_true rfl, Nat.le_of_ble_eq_true rfl⟩ (Nat.le_of_ble_eq_true rfl) ⟨Nat.le_of_ble_eq_true rfl, Nat.le_of_ble_eq_true rfl⟩ ?_
      refine R_aload_n 64 rfl dX10_tallyGroups_63 rfl ?_
      refine R_getP 6 67 rfl dX10_tallyGroups_64 rfl rfl fl_X10_47 (hP _ _ _ rfl) ?_
      refine R_iload 69 rfl dX10_tallyGroups_67 rfl ?_
      refine R_callV_i (M' := mX3_isAble) 72 rfl dX10_tallyGroups_69 ml_X10_413 kmX3_isAble im_X3_isAble se_X3_isAble rfl ⟨by decide, rfl⟩ (c_X3_isAble _ k hPO hK (by omega) (by omega) (by omega)) rfl rfl ⟨Nat.le_of_ble_eq_true rfl, Nat.le_of_ble_eq_true rfl⟩ (Nat.le_of_ble_eq_true rfl) ⟨Nat.le_of_ble_eq_true rfl, Nat.le_of_ble_eq_true rfl⟩ ?_
      refine R_callV_V (M' := mX8_add) 75 rfl dX10_tallyGroups_72 ml_X10_427 kmX8_add im_X8_add se_X8_add rfl ⟨by decide, rfl⟩ (c_X8_add85 _ _ (grp B k gr).toNat hPO hT (by omega) (by omega) (pI_01 _)) rfl rfl ⟨Nat.le_of_ble_eq_true rfl, Nat.le_of_ble_eq_true rfl⟩ (Nat.le_of_ble_eq_true rfl) ⟨Nat.le_of_ble_eq_true rfl, Nat.le_of_ble_eq_true rfl⟩ ?_
      rintro m72 h72
      refine R_iinc [_, _, _, _, _] 78 rfl dX10_tallyGroups_75 rfl rfl (by decide) ?_
      refine R_goto 22 rfl dX10_tallyGroups_78 ?_
      first | exact ih (by omega) _ _ (hf.tr h72.1) (Tl_yes (P := tgP B ch c gr) (Qa := tgQ L B ch c gr) (A := inC B ch c) (grp B k gr).toNat h72.2 h49 (by simp [tgP, h49]; omega) (fun g e => by simp [tgP]; omega) (pI_congr (by simp [tgQ, tgP, h49]; omega)) (fun g e => by simp [tgQ, tgP]; omega)) (by omega) | exact ih (by omega) _ _ hf (Tl_no (P := tgP B ch c gr) (Qa := tgQ L B ch c gr) (A := inC B ch c) hT h49 (fun g q => by simp [tgP] at q; exact q.1) (fun g q => by simp [tgQ, tgP] at q; exact q.1.1)) (by omega)
theorem l_X10_tallyGroups88 {m0 : Mem} (c : Nat) (gr cz : Int) (hCS0 : CS o d L B ch m0) (hKF0 : KF L B m0) (hcz : cz = (c : Int)) (hc : c < 2) (hg : 0 ≤ gr ∧ gr ≤ 3) (hQ : ∀ mm, Fr (isT 88) m0 mm → Tl 88 89 90 mm (tgM B ch c gr) (tgA L B ch c gr) (tgN B ch c) → Q none SH mm) : ∀ k, k ≤ 2 * B.1 → ∀ m z, Fr (isT 88) m0 m → Tl 88 89 90 m (fun g => (cnt (tgP B ch c gr g) k : Int)) (fun g => (cnt (tgQ L B ch c gr g) k : Int)) (cnt (inC B ch c) k : Int) → z = (k : Int) → R Γ mX10_tallyGroups { frames := 5, cells := 0, slots := 0, locals := 200 } 0 0 Q 0 0 22 [some (vr 0), some (vr 88), some (vi cz), some (vi gr), some (vi z)] [] SH m := by
  refine up_ind (2 * B.1) (fun k hk ih m z hf hT hz => ?_)
  have hCS := hCS0.fr hf (fun a q1 q2 => by simp [isT]; omega)
  have hKF := hKF0.fr hf rfl rfl rfl
  obtain ⟨hPO, hB, hO, hL, hLO, hC, hCO, hst, hkc⟩ := id hCS
  have hP := hPO.2
  have h5 := hO.1
  have h6 := hLO.1
  have hK : ∀ j, j < 2 * B.1 → m.1 42 j = kd L B j := fun j hj => (hKF.2 j hj).1
  refine R_iload 24 rfl dX10_tallyGroups_22 rfl ?_
  refine R_aload_n 25 rfl dX10_tallyGroups_24 rfl ?_
  refine R_getP 5 28 rfl dX10_tallyGroups_25 rfl rfl fl_X10_40 (hP _ _ _ rfl) ?_
  refine R_callV_i (M' := mX0_marks) 31 rfl dX10_tallyGroups_28 ml_X10_167 kmX0_marks im_X0_marks se_X0_marks rfl ⟨by decide, rfl⟩ (c_X0_marks hB) rfl rfl ⟨Nat.le_of_ble_eq_true rfl, Nat.le_of_ble_eq_true rfl⟩ (Nat.le_of_ble_eq_true rfl) ⟨Nat.le_of_ble_eq_true rfl, Nat.le_of_ble_eq_true rfl⟩ ?_
  refine R_icmp_ge 34 81 rfl rfl dX10_tallyGroups_31 (by first | assumption | exact ⟨by omega, by omega⟩) (by first | assumption | exact ⟨by omega, by omega⟩) (fun h31 => ?_) (fun h31 => ?_)
  · refine R_return dX10_tallyGroups_81 rfl ?_
    exact hQ _ hf (by rw [show k = 2 * B.1 by omega] at hT; exact hT)
  · refine R_aload_n 35 rfl dX10_tallyGroups_34 rfl ?_
    refine R_getP 7 38 rfl dX10_tallyGroups_35 rfl rfl fl_X10_54 (hP _ _ _ rfl) ?_
    refine R_iload_n 39 rfl dX10_tallyGroups_38 rfl ?_
    refine R_aald c 40 rfl dX10_tallyGroups_39 rfl rfl (by first | rfl | omega) (by omega) (by decide) (PO_ch hPO hc) ?_
    refine R_aload_n 41 rfl dX10_tallyGroups_40 rfl ?_
    refine R_getP 5 44 rfl dX10_tallyGroups_41 rfl rfl fl_X10_40 (hP _ _ _ rfl) ?_
    refine R_iload 46 rfl dX10_tallyGroups_44 rfl ?_
    refine R_callV_i (M' := mX1_takes) 49 rfl dX10_tallyGroups_46 ml_X10_406 kmX1_takes im_X1_takes se_X1_takes (sh_ch hc) ⟨by decide, rfl⟩ (c_X1_takes _ c k hPO hB hO (by omega) hC hCO hc (by omega) (by omega)) rfl rfl ⟨Nat.le_of_ble_eq_true rfl, Nat.le_of_ble_eq_true rfl⟩ (Nat.le_of_ble_eq_true rfl) ⟨Nat.le_of_ble_eq_true rfl, Nat.le_of_ble_eq_true rfl⟩ ?_
    refine R_ifp_eq 52 75 rfl rfl dX10_tallyGroups_49 (fun h49 => ?_) (fun h49 => ?_)
    · refine R_iinc [_, _, _, _, _] 78 rfl dX10_tallyGroups_75 rfl rfl (by decide) ?_
      refine R_goto 22 rfl dX10_tallyGroups_78 ?_
      first | exact ih (by omega) _ _ (hf.tr h72.1) (Tl_yes (P := tgP B ch c gr) (Qa := tgQ L B ch c gr) (A := inC B ch c) (grp B k gr).toNat h72.2 h49 (by simp [tgP, h49]; omega) (fun g e => by simp [tgP]; omega) (pI_congr (by simp [tgQ, tgP, h49]; omega)) (fun g e => by simp [tgQ, tgP]; omega)) (by omega) | exact ih (by omega) _ _ hf (Tl_no (P := tgP B ch c gr) (Qa := tgQ L B ch c gr) (A := inC B ch c) hT h49 (fun g q => by simp [tgP] at q; exact q.1) (fun g q => by simp [tgQ, tgP] at q; exact q.1.1)) (by omega)
    · have r1 := grp_rg (g := gr) hO (by omega) (show k < 2 * B.1 by omega)
      refine R_aload_n 53 rfl dX10_tallyGroups_52 rfl ?_
      refine R_aload_n 54 rfl dX10_tallyGroups_53 rfl ?_
      refine R_getP 5 57 rfl dX10_tallyGroups_54 rfl rfl fl_X10_40 (hP _ _ _ rfl) ?_
      refine R_iload 59 rfl dX10_tallyGroups_57 rfl ?_
      refine R_iload_n 60 rfl dX10_tallyGroups_59 rfl ?_
      refine R_callV_i (M' := mX0_groupOf) 63 rfl dX10_tallyGroups_60 ml_X10_424 kmX0_groupOf im_X0_groupOf se_X0_groupOf rfl ⟨by decide, rfl⟩ (c_X0_groupOf _ _ k hPO hB hO (by omega) (by omega) hg) rfl rfl ⟨Nat.le_of_ble_eq_true rfl, Nat.le_of_ble_eq_true rfl⟩ (Nat.le_of_ble_eq_true rfl) ⟨Nat.le_of_ble_eq_true rfl, Nat.le_of_ble_eq_true rfl⟩ ?_
      refine R_aload_n 64 rfl dX10_tallyGroups_63 rfl ?_
      refine R_getP 6 67 rfl dX10_tallyGroups_64 rfl rfl fl_X10_47 (hP _ _ _ rfl) ?_
      refine R_iload 69 rfl dX10_tallyGroups_67 rfl ?_
      refine R_callV_i (M' := mX3_isAble) 72 rfl dX10_tallyGroups_69 ml_X10_413 kmX3_isAble im_X3_isAble se_X3_isAble rfl ⟨by decide, rfl⟩ (c_X3_isAble _ k hPO hK (by omega) (by omega) (by omega)) rfl rfl ⟨Nat.le_of_ble_eq_true rfl, Nat.le_of_ble_eq_true rfl⟩ (Nat.le_of_ble_eq_true rfl) ⟨Nat.le_of_ble_eq_true rfl, Nat.le_of_ble_eq_true rfl⟩ ?_
      refine R_callV_V (M' := mX8_add) 75 rfl dX10_tallyGroups_72 ml_X10_427 kmX8_add im_X8_add se_X8_add rfl ⟨by decide, rfl⟩ (c_X8_add88 _ _ (grp B k gr).toNat hPO hT (by omega) (by omega) (pI_01 _)) rfl rfl ⟨Nat.le_of_ble_eq_true rfl, Nat.le_of_ble_eq_true rfl⟩ (Nat.le_of_ble_eq_true rfl) ⟨Nat.le_of_ble_eq_true rfl, Nat.le_of_ble_eq_true rfl⟩ ?_
      rintro m72 h72
      refine R_iinc [_, _, _, _, _] 78 rfl dX10_tallyGroups_75 rfl rfl (by decide) ?_
      refine R_goto 22 rfl dX10_tallyGroups_78 ?_
      first | exact ih (by omega) _ _ (hf.tr h72.1) (Tl_yes (P := tgP B ch c gr) (Qa := tgQ L B ch c gr) (A := inC B ch c) (grp B k gr).toNat h72.2 h49 (by simp [tgP, h49]; omega) (fun g e => by simp [tgP]; omega) (pI_congr (by simp [tgQ, tgP, h49]; omega)) (fun g e => by simp [tgQ, tgP]; omega)) (by omega) | exact ih (by omega) _ _ hf (Tl_no (P := tgP B ch c gr) (Qa := tgQ L B ch c gr) (A := inC B ch c) hT h49 (fun g q => by simp [tgP] at q; exact q.1) (fun g q => by simp [tgQ, tgP] at q; exact q.1.1)) (by omega)
end
