/-! sheets -/
def shSet (S : Nat → Sht) (k : Nat) (s : Sht) : Nat → Sht := fun j => if j = k then s else S j
def nrw (l v : Int) : Int := if l = 0 then v.bmod 256 else if l = 1 then v.bmod 65536 else v
def shLay (s : Sht) (i v : Int) : Sht := (s.1, s.2.1, fun j => if j = i.toNat then nrw s.2.1 v else s.2.2 j)
def isS1 (k : Nat) (a : Nat) : Bool := decide (77 + 2 * k ≤ a ∧ a ≤ 78 + 2 * k)
def shC4 (k l n : Int) : Bool := decide ((0 ≤ k ∧ k ≤ 3) ∧ (0 ≤ l ∧ l ≤ 2) ∧ 0 ≤ n ∧ n ≤ 60)
theorem shC4_iff {k l n : Int} : shC4 k l n = true ↔ ((0 ≤ k ∧ k ≤ 3) ∧ (0 ≤ l ∧ l ≤ 2) ∧ 0 ≤ n ∧ n ≤ 60) := by simp [shC4]
def a_sheet (k l n : Int) : Int := if (0 ≤ k ∧ k ≤ 3) ∧ (0 ≤ l ∧ l ≤ 2) ∧ n ≤ 60 then (if n < 0 then -14 else 1) else -1
def layOk (S : Nat → Sht) (k i : Int) : Bool := decide ((0 ≤ k ∧ k ≤ 3) ∧ 0 ≤ (S k.toNat).1 ∧ 0 ≤ i ∧ i < (S k.toNat).1)
theorem layOk_iff {S : Nat → Sht} {k i : Int} : layOk S k i = true ↔ ((0 ≤ k ∧ k ≤ 3) ∧ 0 ≤ (S k.toNat).1 ∧ 0 ≤ i ∧ i < (S k.toNat).1) := by simp [layOk]
def a_lay (S : Nat → Sht) (k i : Int) : Int := if 0 ≤ k ∧ k ≤ 3 then (if (S k.toNat).1 < 0 then -11 else if 0 ≤ i ∧ i < (S k.toNat).1 then 1 else -12) else -1
theorem nrw_rg {l v : Int} (h : rg v) : rg (nrw l v) := by
  unfold nrw
  have h1 := Int.le_bmod (x := v) (m := 256) (by omega)
  have h2 := Int.bmod_lt (x := v) (m := 256) (by omega)
  have h3 := Int.le_bmod (x := v) (m := 65536) (by omega)
  have h4 := Int.bmod_lt (x := v) (m := 65536) (by omega)
  split
  · exact ⟨by omega, by omega⟩
  · split
    · exact ⟨by omega, by omega⟩
    · exact h
section
variable {Γ : GX} {m m' : Mem} {B B' : Bk} {L : Ld} {ch ch' : Cs} {o d : Nat} {T : Tp} {F N : Int} {I : Nat → Im} {S : Nat → Sht} {P : Nat → Bool}
theorem PO_sh (h : PO o d m) {k : Nat} (hk : k < 4) : m.2 76 k = some (77 + 2 * k) := by
  rcases (show k = 0 ∨ k = 1 ∨ k = 2 ∨ k = 3 by omega) with rfl | rfl | rfl | rfl <;> exact h.2 _ _ _ rfl
theorem PO_sc (h : PO o d m) {k : Nat} (hk : k < 4) : m.2 (77 + 2 * k) 2 = some (78 + 2 * k) := by
  rcases (show k = 0 ∨ k = 1 ∨ k = 2 ∨ k = 3 by omega) with rfl | rfl | rfl | rfl <;> exact h.2 _ _ _ rfl
theorem sh_sh {k : Nat} (hk : k < 4) : shp SH (77 + 2 * k) = some (7, 3) := by
  rcases (show k = 0 ∨ k = 1 ∨ k = 2 ∨ k = 3 by omega) with rfl | rfl | rfl | rfl <;> rfl
theorem sh_sc {k : Nat} (hk : k < 4) : shp SH (78 + 2 * k) = some (12, 60) := by
  rcases (show k = 0 ∨ k = 1 ∨ k = 2 ∨ k = 3 by omega) with rfl | rfl | rfl | rfl <;> rfl
theorem isS1_46 {k : Nat} : ∀ a, 4 ≤ a → a ≤ 46 → isS1 k a = false := fun a h1 h2 => by simp [isS1]; omega
theorem isS1_h {k : Nat} (hk : k < 4) : ∀ a, 96 ≤ a → isS1 k a = false := fun a h => by simp [isS1]; omega
theorem Ex.sht {k : Nat} {s : Sht} (hk : k < 4) (h : Ex T F I S N m) (hf : Fr (isS1 k) m m') (hI : ShC k m' s) (hO : ShOk s) : Ex T F I (shSet S k s) N m' := by
  obtain ⟨⟨h1, h1'⟩, h2, ⟨h3, h4, h5, h6⟩, h7, h8, h9⟩ := h
  have e : ∀ a j, a < 77 + 2 * k ∨ 78 + 2 * k < a → m'.1 a j = m.1 a j := fun a j q => hf.1 a j (by simp [isS1]; omega)
  refine ⟨⟨h1.eq (fun a k q1 q2 => e a k (by omega)), h1'⟩, ⟨by rw [e 0 4 (by omega)]; exact h2.1, h2.2⟩, ⟨h3.eq (fun a k q1 q2 => e a k (by omega)), h4.eq (fun a k q1 q2 => e a k (by omega)), h5, h6⟩, fun j hj => ?_, by rw [e 0 10 (by omega)]; exact h8, h9⟩
  by_cases q : j = k
  · subst q
    simp only [shSet, if_true]
    exact ⟨hI, hO⟩
  · simp only [shSet, if_neg q]
    exact ⟨(h7 j hj).1.eq (fun a i q1 q2 => e a i (by omega)), (h7 j hj).2⟩
theorem c_X7_clear (k : Nat) (l n : Int) (hPO : PO o d m) (hk : k < 4) : C Γ mX7_clear 0 0 0 0 [vr (77 + 2 * k), vi l, vi n] SH m (QV SH (fun m' => Fr (isS1 k) m m' ∧ ShC k m' (n, l, fun _ => 0))) := by
  refine C_of_R rfl (Nat.le_of_ble_eq_true rfl) ?_
  have t7 : isS1 k (77 + 2 * k) = true := by simp [isS1]
  have t8 : isS1 k (78 + 2 * k) = true := by simp [isS1]
  have Lp : ∀ i : Nat, i ≤ 60 → ∀ z m1, z = (i : Int) → Fr (isS1 k) m m1 → m1.1 (77 + 2 * k) 0 = n → m1.1 (77 + 2 * k) 1 = l → (∀ j, j < i → m1.1 (78 + 2 * k) j = 0) → R Γ mX7_clear { frames := 0, cells := 0, slots := 0, locals := 0 } 0 0 (QV SH (fun m' => Fr (isS1 k) m m' ∧ ShC k m' (n, l, fun _ => 0))) 0 0 12 [some (vr (77 + 2 * k)), some (vi l), some (vi n), some (vi z)] [] SH m1 := by
    refine up_ind 60 (fun i hi ih z m1 hz hf h0 h1 h2 => ?_)
    have hPO1 := hPO.eq hf.2
    refine R_iload_n 13 rfl dX7_clear_12 rfl ?_
    refine R_bipush 15 rfl dX7_clear_13 (by decide) ?_
    refine R_icmp_ge 18 31 rfl rfl dX7_clear_15 (by first | assumption | exact ⟨by omega, by omega⟩) (by first | assumption | exact ⟨by omega, by omega⟩) (fun h15 => ?_) (fun h15 => ?_)
    · refine R_return dX7_clear_31 rfl ?_
      exact QV_mk ⟨hf, h0, fun _ => h1, fun j hj => h2 j (by omega)⟩
    · refine R_aload_n 19 rfl dX7_clear_18 rfl ?_
      refine R_getP 2 22 rfl dX7_clear_19 (sh_sh hk) rfl fl_X7_18 (PO_sc hPO1 hk) ?_
      refine R_iload_n 23 rfl dX7_clear_22 rfl ?_
      refine R_iconst 24 rfl dX7_clear_23 ?_
      refine R_iast i 25 rfl dX7_clear_24 (sh_sc hk) (by first | rfl | omega) (by omega) (by decide) ?_
      refine R_iinc [_, _, _, _] 28 rfl dX7_clear_25 rfl rfl (by decide) ?_
      refine R_goto 12 rfl dX7_clear_28 ?_
      exact ih (by omega) _ _ (by omega) (hf.set t8) (by simp only [setI]; rw [if_neg (by omega)]; exact h0) (by simp only [setI]; rw [if_neg (by omega)]; exact h1) (fun j hj => by
        simp only [setI]
        by_cases e : j = i
        · rw [if_pos ⟨trivial, e⟩]
        · rw [if_neg (by omega)]; exact h2 j (by omega))
  refine R_aload_n 1 rfl dX7_clear_0 rfl ?_
  refine R_iload_n 2 rfl dX7_clear_1 rfl ?_
  refine R_putI 1 5 rfl dX7_clear_2 (sh_sh hk) rfl fl_X7_15 ?_
  refine R_aload_n 6 rfl dX7_clear_5 rfl ?_
  refine R_iload_n 7 rfl dX7_clear_6 rfl ?_
  refine R_putI 0 10 rfl dX7_clear_7 (sh_sh hk) rfl fl_X7_9 ?_
  refine R_iconst 11 rfl dX7_clear_10 ?_
  refine R_istore_n [_, _, _, _] 12 rfl dX7_clear_11 rfl (by decide) ?_
  exact Lp 0 (by omega) _ _ rfl ((Fr.rf.set t7).set t7) (by simp [setI]) (by simp [setI]) (fun j hj => by omega)
theorem c_X10_sheet (k l n : Int) (hCS : CS o d L B ch m) (hEx : Ex T F I S N m) (hk : rg k) (hl : rg l) (hn : rg n) : C Γ mX10_sheet 2 80 0 0 [vr 0, vi k, vi l, vi n] SH m (QS o d L B ch T F I (if shC4 k l n = true then shSet S k.toNat (n, l, fun _ => 0) else S) N m (a_sheet k l n)) := by
  refine C_of_R rfl (Nat.le_of_ble_eq_true rfl) ?_
  have hPO := hCS.1
  have hP := hPO.2
  have no : ¬ ((0 ≤ k ∧ k ≤ 3) ∧ (0 ≤ l ∧ l ≤ 2) ∧ 0 ≤ n ∧ n ≤ 60) → ¬ shC4 k l n = true := fun h q => h (shC4_iff.mp q)
  refine R_iload_n 1 rfl dX10_sheet_0 rfl ?_
  refine R_callS_i (M' := mX10_isSheet) 4 rfl dX10_sheet_1 ml_X10_368 kmX10_isSheet st_X10_isSheet (c_X10_isSheet _ (by first | assumption | exact ⟨by omega, by omega⟩)) rfl rfl ⟨Nat.le_of_ble_eq_true rfl, Nat.le_of_ble_eq_true rfl⟩ (Nat.le_of_ble_eq_true rfl) ⟨Nat.le_of_ble_eq_true rfl, Nat.le_of_ble_eq_true rfl⟩ ?_
  refine R_ifp_eq 7 20 rfl rfl dX10_sheet_4 (fun h4 => ?_) (fun h4 => ?_)
  · refine R_iconst 21 rfl dX10_sheet_20 ?_
    refine R_ireturn dX10_sheet_21 rfl ?_
    rw [if_neg (no (by omega))]
    exact QI_mk ⟨by unfold a_sheet; rw [if_neg (by omega)], fun _ _ _ => rfl, hCS, hEx⟩
  · refine R_iload_n 8 rfl dX10_sheet_7 rfl ?_
    refine R_callS_i (M' := mX10_isLane) 11 rfl dX10_sheet_8 ml_X10_371 kmX10_isLane st_X10_isLane (c_X10_isLane _ (by first | assumption | exact ⟨by omega, by omega⟩)) rfl rfl ⟨Nat.le_of_ble_eq_true rfl, Nat.le_of_ble_eq_true rfl⟩ (Nat.le_of_ble_eq_true rfl) ⟨Nat.le_of_ble_eq_true rfl, Nat.le_of_ble_eq_true rfl⟩ ?_
    refine R_ifp_eq 14 20 rfl rfl dX10_sheet_11 (fun h11 => ?_) (fun h11 => ?_)
    · refine R_iconst 21 rfl dX10_sheet_20 ?_
      refine R_ireturn dX10_sheet_21 rfl ?_
      rw [if_neg (no (by omega))]
      exact QI_mk ⟨by unfold a_sheet; rw [if_neg (by omega)], fun _ _ _ => rfl, hCS, hEx⟩
    · refine R_iload_n 15 rfl dX10_sheet_14 rfl ?_
      refine R_bipush 17 rfl dX10_sheet_15 (by decide) ?_
      refine R_icmp_le 20 22 rfl rfl dX10_sheet_17 (by first | assumption | exact ⟨by omega, by omega⟩) (by first | assumption | exact ⟨by omega, by omega⟩) (fun h17 => ?_) (fun h17 => ?_)
      · refine R_iload_n 23 rfl dX10_sheet_22 rfl ?_
        refine R_if_ge 26 29 rfl rfl dX10_sheet_23 (by first | assumption | exact ⟨by omega, by omega⟩) (fun h23 => ?_) (fun h23 => ?_)
        · refine R_aload_n 30 rfl dX10_sheet_29 rfl ?_
          refine R_getP 9 33 rfl dX10_sheet_30 rfl rfl fl_X10_68 (hP _ _ _ rfl) ?_
          refine R_iload_n 34 rfl dX10_sheet_33 rfl ?_
          refine R_aald k.toNat 35 rfl dX10_sheet_34 rfl rfl (by first | rfl | omega) (by omega) (by decide) (PO_sh hPO (by omega)) ?_
          refine R_iload_n 36 rfl dX10_sheet_35 rfl ?_
          refine R_iload_n 37 rfl dX10_sheet_36 rfl ?_
          refine R_callV_V (M' := mX7_clear) 40 rfl dX10_sheet_37 ml_X10_374 kmX7_clear im_X7_clear se_X7_clear (sh_sh (by omega)) ⟨by decide, rfl⟩ (c_X7_clear k.toNat _ _ hPO (by omega)) rfl rfl ⟨Nat.le_of_ble_eq_true rfl, Nat.le_of_ble_eq_true rfl⟩ (Nat.le_of_ble_eq_true rfl) ⟨Nat.le_of_ble_eq_true rfl, Nat.le_of_ble_eq_true rfl⟩ ?_
          rintro m37 h37
          refine R_iconst 41 rfl dX10_sheet_40 ?_
          refine R_ireturn dX10_sheet_41 rfl ?_
          rw [if_pos (shC4_iff.mpr (by omega))]
          obtain ⟨f37, s37⟩ := h37
          exact QI_mk ⟨by unfold a_sheet; rw [if_pos (by omega), if_neg (by omega)], f37.h (isS1_h (by omega)), hCS.fr f37 isS1_46, hEx.sht (by omega) f37 s37 ⟨Or.inr (show 0 ≤ n ∧ n ≤ 60 ∧ 0 ≤ l ∧ l ≤ 2 by omega), fun i hi => rg_0⟩⟩
        · refine R_bipush 28 rfl dX10_sheet_26 (by decide) ?_
          refine R_ireturn dX10_sheet_28 rfl ?_
          rw [if_neg (no (by omega))]
          exact QI_mk ⟨by unfold a_sheet; rw [if_pos (by omega), if_pos (by omega)], fun _ _ _ => rfl, hCS, hEx⟩
      · refine R_iconst 21 rfl dX10_sheet_20 ?_
        refine R_ireturn dX10_sheet_21 rfl ?_
        rw [if_neg (no (by omega))]
        exact QI_mk ⟨by unfold a_sheet; rw [if_neg (by omega)], fun _ _ _ => rfl, hCS, hEx⟩
theorem c_X7_put (k : Nat) (z v : Int) (i : Nat) (s : Sht) (hPO : PO o d m) (hS : ShC k m s) (hO : ShOk s) (hk : k < 4) (h0 : 0 ≤ s.1) (hz : z = (i : Int)) (hi : i < 60) : C Γ mX7_put 0 0 0 0 [vr (77 + 2 * k), vi z, vi v] SH m (Qv SH (setI m (78 + 2 * k) i (nrw s.2.1 v))) := by
  refine C_of_R rfl (Nat.le_of_ble_eq_true rfl) ?_
  have h1 := hS.2.1 h0
  have h2 := hO.1
  refine R_aload_n 1 rfl dX7_put_0 rfl ?_
  refine R_getI 1 4 rfl dX7_put_1 (sh_sh hk) rfl fl_X7_15 ?_
  refine R_if_ne 7 18 rfl rfl dX7_put_4 (by first | assumption | exact ⟨by omega, by omega⟩) (fun h4 => ?_) (fun h4 => ?_)
  · refine R_aload_n 19 rfl dX7_put_18 rfl ?_
    refine R_getI 1 22 rfl dX7_put_19 (sh_sh hk) rfl fl_X7_15 ?_
    refine R_iconst 23 rfl dX7_put_22 ?_
    refine R_icmp_ne 26 37 rfl rfl dX7_put_23 (by first | assumption | exact ⟨by omega, by omega⟩) (by first | assumption | exact ⟨by omega, by omega⟩) (fun h23 => ?_) (fun h23 => ?_)
    · refine R_aload_n 38 rfl dX7_put_37 rfl ?_
      refine R_getP 2 41 rfl dX7_put_38 (sh_sh hk) rfl fl_X7_18 (PO_sc hPO hk) ?_
      refine R_iload_n 42 rfl dX7_put_41 rfl ?_
      refine R_iload_n 43 rfl dX7_put_42 rfl ?_
      refine R_iast i 44 rfl dX7_put_43 (sh_sc hk) (by first | rfl | omega) (by omega) (by decide) ?_
      refine R_return dX7_put_44 rfl ?_
      exact Qv_mk (by unfold nrw; first | rw [if_pos (by omega)] | rw [if_neg (by omega), if_pos (by omega)] | rw [if_neg (by omega), if_neg (by omega)])
    · refine R_aload_n 27 rfl dX7_put_26 rfl ?_
      refine R_getP 2 30 rfl dX7_put_27 (sh_sh hk) rfl fl_X7_18 (PO_sc hPO hk) ?_
      refine R_iload_n 31 rfl dX7_put_30 rfl ?_
      refine R_iload_n 32 rfl dX7_put_31 rfl ?_
      refine R_i2s 33 rfl dX7_put_32 ?_
      refine R_iast i 34 rfl dX7_put_33 (sh_sc hk) (by first | rfl | omega) (by omega) (by decide) ?_
      refine R_goto 44 rfl dX7_put_34 ?_
      refine R_return dX7_put_44 rfl ?_
      exact Qv_mk (by unfold nrw; first | rw [if_pos (by omega)] | rw [if_neg (by omega), if_pos (by omega)] | rw [if_neg (by omega), if_neg (by omega)])
  · refine R_aload_n 8 rfl dX7_put_7 rfl ?_
    refine R_getP 2 11 rfl dX7_put_8 (sh_sh hk) rfl fl_X7_18 (PO_sc hPO hk) ?_
    refine R_iload_n 12 rfl dX7_put_11 rfl ?_
    refine R_iload_n 13 rfl dX7_put_12 rfl ?_
    refine R_i2b 14 rfl dX7_put_13 ?_
    refine R_iast i 15 rfl dX7_put_14 (sh_sc hk) (by first | rfl | omega) (by omega) (by decide) ?_
    refine R_goto 44 rfl dX7_put_15 ?_
    refine R_return dX7_put_44 rfl ?_
    exact Qv_mk (by unfold nrw; first | rw [if_pos (by omega)] | rw [if_neg (by omega), if_pos (by omega)] | rw [if_neg (by omega), if_neg (by omega)])
theorem c_X10_lay (k i v : Int) (hCS : CS o d L B ch m) (hEx : Ex T F I S N m) (hk : rg k) (hi : rg i) (hv : rg v) : C Γ mX10_lay 2 80 0 0 [vr 0, vi k, vi i, vi v] SH m (QS o d L B ch T F I (if layOk S k i = true then shSet S k.toNat (shLay (S k.toNat) i v) else S) N m (a_lay S k i)) := by
  refine C_of_R rfl (Nat.le_of_ble_eq_true rfl) ?_
  have hPO := hCS.1
  have hP := hPO.2
  have no : ¬ ((0 ≤ k ∧ k ≤ 3) ∧ 0 ≤ (S k.toNat).1 ∧ 0 ≤ i ∧ i < (S k.toNat).1) → ¬ layOk S k i = true := fun h q => h (layOk_iff.mp q)
  refine R_iload_n 1 rfl dX10_lay_0 rfl ?_
  refine R_callS_i (M' := mX10_isSheet) 4 rfl dX10_lay_1 ml_X10_368 kmX10_isSheet st_X10_isSheet (c_X10_isSheet _ (by first | assumption | exact ⟨by omega, by omega⟩)) rfl rfl ⟨Nat.le_of_ble_eq_true rfl, Nat.le_of_ble_eq_true rfl⟩ (Nat.le_of_ble_eq_true rfl) ⟨Nat.le_of_ble_eq_true rfl, Nat.le_of_ble_eq_true rfl⟩ ?_
  refine R_ifp_ne 7 9 rfl rfl dX10_lay_4 (fun h4 => ?_) (fun h4 => ?_)
  · refine R_aload_n 10 rfl dX10_lay_9 rfl ?_
    refine R_getP 9 13 rfl dX10_lay_10 rfl rfl fl_X10_68 (hP _ _ _ rfl) ?_
    refine R_iload_n 14 rfl dX10_lay_13 rfl ?_
    refine R_aald k.toNat 15 rfl dX10_lay_14 rfl rfl (by first | rfl | omega) (by omega) (by decide) (PO_sh hPO (by omega)) ?_
    obtain ⟨hS, hSO⟩ := hEx.2.2.2.1 k.toNat (by omega)
    have g0 := hS.1
    have g1 := hSO.1
    refine R_astore [_, _, _, _, _] 17 rfl dX10_lay_15 rfl (by decide) ?_
    refine R_aload 19 rfl dX10_lay_17 rfl ?_
    refine R_getI 0 22 rfl dX10_lay_19 (sh_sh (by omega)) rfl fl_X10_377 ?_
    refine R_if_ge 25 28 rfl rfl dX10_lay_22 (by first | assumption | exact ⟨by omega, by omega⟩) (fun h22 => ?_) (fun h22 => ?_)
    · refine R_iload_n 29 rfl dX10_lay_28 rfl ?_
      refine R_iconst 30 rfl dX10_lay_29 ?_
      refine R_aload 32 rfl dX10_lay_30 rfl ?_
      refine R_getI 0 35 rfl dX10_lay_32 (sh_sh (by omega)) rfl fl_X10_377 ?_
      refine R_iconst 36 rfl dX10_lay_35 ?_
      refine R_isub 37 rfl dX10_lay_36 ?_
      refine R_callS_i (M' := mX10_within) 40 rfl dX10_lay_37 ml_X10_108 kmX10_within st_X10_within (c_X10_within _ _ _ (by first | assumption | exact ⟨by omega, by omega⟩) (by first | assumption | exact ⟨by omega, by omega⟩) (by first | assumption | exact ⟨by omega, by omega⟩)) rfl rfl ⟨Nat.le_of_ble_eq_true rfl, Nat.le_of_ble_eq_true rfl⟩ (Nat.le_of_ble_eq_true rfl) ⟨Nat.le_of_ble_eq_true rfl, Nat.le_of_ble_eq_true rfl⟩ ?_
      refine R_ifp_ne 43 46 rfl rfl dX10_lay_40 (fun h40 => ?_) (fun h40 => ?_)
      · refine R_aload 48 rfl dX10_lay_46 rfl ?_
        refine R_iload_n 49 rfl dX10_lay_48 rfl ?_
        refine R_iload_n 50 rfl dX10_lay_49 rfl ?_
        refine R_callV_v (M' := mX7_put) 53 rfl dX10_lay_50 ml_X10_378 kmX7_put im_X7_put se_X7_put (sh_sh (by omega)) ⟨by decide, rfl⟩ (c_X7_put k.toNat _ _ i.toNat _ hPO hS hSO (by omega) (by omega) (by omega) (by omega)) rfl rfl ⟨Nat.le_of_ble_eq_true rfl, Nat.le_of_ble_eq_true rfl⟩ (Nat.le_of_ble_eq_true rfl) ⟨Nat.le_of_ble_eq_true rfl, Nat.le_of_ble_eq_true rfl⟩ ?_
        refine R_iconst 54 rfl dX10_lay_53 ?_
        refine R_ireturn dX10_lay_54 rfl ?_
        rw [if_pos (layOk_iff.mpr (by omega))]
        have f : Fr (isS1 k.toNat) m (setI m (78 + 2 * k.toNat) i.toNat (nrw (S k.toNat).2.1 v)) := Fr.rf.set (by simp [isS1])
        refine QI_mk ⟨by unfold a_lay; rw [if_pos (by omega), if_neg (by omega), if_pos (by omega)], f.h (isS1_h (by omega)), hCS.fr f isS1_46, hEx.sht (by omega) f ⟨?_, ?_, ?_⟩ ⟨hSO.1, ?_⟩⟩
        · simp only [setI, shLay]; rw [if_neg (by omega)]; exact hS.1
        · intro q; simp only [setI, shLay]; rw [if_neg (by omega)]; exact hS.2.1 q
        · intro j hj
          simp only [setI, shLay]
          by_cases e : j = i.toNat
          · rw [if_pos ⟨trivial, e⟩, if_pos e]
          · rw [if_neg (fun q => e q.2), if_neg e]; exact hS.2.2 j hj
        · intro j hj
          simp only [shLay]
          split
          · exact nrw_rg hv
          · exact hSO.2 j hj
      · refine R_bipush 45 rfl dX10_lay_43 (by decide) ?_
        refine R_ireturn dX10_lay_45 rfl ?_
        rw [if_neg (no (by omega))]
        exact QI_mk ⟨by unfold a_lay; rw [if_pos (by omega), if_neg (by omega), if_neg (by omega)], fun _ _ _ => rfl, hCS, hEx⟩
    · refine R_bipush 27 rfl dX10_lay_25 (by decide) ?_
      refine R_ireturn dX10_lay_27 rfl ?_
      rw [if_neg (no (by omega))]
      exact QI_mk ⟨by unfold a_lay; rw [if_pos (by omega), if_pos (by omega)], fun _ _ _ => rfl, hCS, hEx⟩
  · refine R_iconst 8 rfl dX10_lay_7 ?_
    refine R_ireturn dX10_lay_8 rfl ?_
    rw [if_neg (no (by omega))]
    exact QI_mk ⟨by unfold a_lay; rw [if_neg (by omega)], fun _ _ _ => rfl, hCS, hEx⟩
end
