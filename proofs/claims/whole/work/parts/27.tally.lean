def Tl (t t1 t2 : Nat) (m : Mem) (mk ab : Nat → Int) (al : Int) : Prop := m.1 t 2 = al ∧ ∀ g, g < 15 → m.1 t1 g = mk g ∧ m.1 t2 g = ab g
def isT (t : Nat) (a : Nat) : Bool := decide (t ≤ a ∧ a ≤ t + 2)
def gsU (mk ab : Nat → Int) (n : Int) : Nat → Int
  | 0 => -1
  | g + 1 => if n ≤ mk g ∧ (gsU mk ab n g < 0 ∨ ab (gsU mk ab n g).toNat * mk g < ab g * mk (gsU mk ab n g).toNat) then (g : Int) else gsU mk ab n g
theorem gsU_rg (mk ab : Nat → Int) (n : Int) (g : Nat) : -1 ≤ gsU mk ab n g ∧ gsU mk ab n g < g := by
  induction g with
  | zero => simp [gsU]
  | succ g ih => unfold gsU; split <;> omega
def mmU (mk : Nat → Int) : Nat → Nat
  | 0 => 0
  | g + 1 => if mk (mmU mk g) < mk g then g else mmU mk g
theorem mmU_rg (mk : Nat → Int) (g : Nat) : mmU mk (g + 1) ≤ g := by
  induction g with
  | zero => unfold mmU; split <;> simp [mmU]
  | succ g ih => unfold mmU; split <;> omega
theorem mmU_1 (mk : Nat → Int) : mmU mk 1 = 0 := by have : mmU mk 1 ≤ 0 := mmU_rg mk 0; omega
section
variable {Γ : GX} {m : Mem} {mk ab : Nat → Int} {al : Int} {o d : Nat}
theorem c_X8_clear85 (hPO : PO o d m) : C Γ mX8_clear 0 0 0 0 [vr 85] SH m (QV SH (fun m' => Fr (isT 85) m m' ∧ Tl 85 86 87 m' (fun _ => 0) (fun _ => 0) 0)) := by
  refine C_of_R rfl (Nat.le_of_ble_eq_true rfl) ?_
  have hP := hPO.2
  have Lp : ∀ k, k ≤ 15 → ∀ mm z, Fr (isT 85) m mm → mm.1 85 2 = 0 → (∀ g, g < k → mm.1 86 g = 0 ∧ mm.1 87 g = 0) → z = (k : Int) → R Γ mX8_clear { frames := 0, cells := 0, slots := 0, locals := 0 } 0 0 (QV SH (fun m' => Fr (isT 85) m m' ∧ Tl 85 86 87 m' (fun _ => 0) (fun _ => 0) 0)) 0 0 7 [some (vr 85), some (vi z)] [] SH mm := by
    refine up_ind 15 (fun k hk ih mm z hf h2 hg hz => ?_)
    have hP := (hPO.eq hf.2).2
    refine R_iload_n 8 rfl dX8_clear_7 rfl ?_
    refine R_bipush 10 rfl dX8_clear_8 (by decide) ?_
    refine R_icmp_ge 13 33 rfl rfl dX8_clear_10 (by first | assumption | exact ⟨by omega, by omega⟩) (by first | assumption | exact ⟨by omega, by omega⟩) (fun h10 => ?_) (fun h10 => ?_)
    · refine R_return dX8_clear_33 rfl ?_
      exact QV_mk ⟨hf, h2, fun g q => hg g (by omega)⟩
    · refine R_aload_n 14 rfl dX8_clear_13 rfl ?_
      refine R_getP 0 17 rfl dX8_clear_14 rfl rfl fl_X8_9 (hP _ _ _ rfl) ?_
      refine R_iload_n 18 rfl dX8_clear_17 rfl ?_
      refine R_iconst 19 rfl dX8_clear_18 ?_
      refine R_iast k 20 rfl dX8_clear_19 rfl (by first | rfl | omega) (by omega) (by decide) ?_
      refine R_aload_n 21 rfl dX8_clear_20 rfl ?_
      refine R_getP 1 24 rfl dX8_clear_21 rfl rfl fl_X8_15 (hP _ _ _ rfl) ?_
      refine R_iload_n 25 rfl dX8_clear_24 rfl ?_
      refine R_iconst 26 rfl dX8_clear_25 ?_
      refine R_iast k 27 rfl dX8_clear_26 rfl (by first | rfl | omega) (by omega) (by decide) ?_
      refine R_iinc [_, _] 30 rfl dX8_clear_27 rfl rfl (by decide) ?_
      refine R_goto 7 rfl dX8_clear_30 ?_
      exact ih (by omega) _ _ ((hf.set rfl).set rfl) (by simp [setI]; exact h2) (fun g q => by by_cases e : g = k; (subst e; simp [setI]); (simp [setI, e]; exact hg g (by omega))) (by omega)
  refine R_aload_n 1 rfl dX8_clear_0 rfl ?_
  refine R_iconst 2 rfl dX8_clear_1 ?_
  refine R_putI 2 5 rfl dX8_clear_2 rfl rfl fl_X8_18 ?_
  refine R_iconst 6 rfl dX8_clear_5 ?_
  refine R_istore_n [_, _] 7 rfl dX8_clear_6 rfl (by decide) ?_
  exact Lp 0 (by omega) _ _ (Fr.rf.set rfl) (by simp [setI]) (fun g q => by omega) rfl
theorem c_X8_add85 (z b : Int) (j : Nat) (hPO : PO o d m) (hT : Tl 85 86 87 m mk ab al) (hz : z = (j : Int)) (hj : j < 15) (hb : b = 0 ∨ b = 1) : C Γ mX8_add 0 0 0 0 [vr 85, vi z, vi b] SH m (QV SH (fun m' => Fr (isT 85) m m' ∧ Tl 85 86 87 m' (fun g => if g = j then mk g + 1 else mk g) (fun g => if g = j then ab g + b else ab g) (al + 1))) := by
  refine C_of_R rfl (Nat.le_of_ble_eq_true rfl) ?_
  subst hz
  have hP := hPO.2
  obtain ⟨h1, h2⟩ := hT
  have h3 := h2 j hj
  refine R_aload_n 1 rfl dX8_add_0 rfl ?_
  refine R_dup 2 rfl dX8_add_1 rfl ?_
  refine R_getI 2 5 rfl dX8_add_2 rfl rfl fl_X8_18 ?_
  refine R_iconst 6 rfl dX8_add_5 ?_
  refine R_iadd 7 rfl dX8_add_6 ?_
  refine R_putI 2 10 rfl dX8_add_7 rfl rfl fl_X8_18 ?_
  refine R_aload_n 11 rfl dX8_add_10 rfl ?_
  refine R_getP 0 14 rfl dX8_add_11 rfl rfl fl_X8_9 (hP _ _ _ rfl) ?_
  refine R_iload_n 15 rfl dX8_add_14 rfl ?_
  refine R_dup2 16 rfl dX8_add_15 rfl rfl ?_
  refine R_iald j 17 rfl dX8_add_16 rfl (by first | rfl | omega) (by omega) (by decide) ?_
  refine R_iconst 18 rfl dX8_add_17 ?_
  refine R_iadd 19 rfl dX8_add_18 ?_
  refine R_iast j 20 rfl dX8_add_19 rfl (by first | rfl | omega) (by omega) (by decide) ?_
  refine R_iload_n 21 rfl dX8_add_20 rfl ?_
  refine R_if_eq 24 34 rfl rfl dX8_add_21 (by first | assumption | exact ⟨by omega, by omega⟩) (fun h21 => ?_) (fun h21 => ?_)
  · refine R_return dX8_add_34 rfl ?_
    first | exact QV_mk ⟨((Fr.rf.set rfl).set rfl).set rfl, by simp [setI]; omega, fun g q => by have := h2 g q; by_cases e : g = j; (subst e; simp [setI]; omega); (simp [setI, e]; exact this)⟩ | exact QV_mk ⟨(Fr.rf.set rfl).set rfl, by simp [setI]; omega, fun g q => by have := h2 g q; by_cases e : g = j; (subst e; simp [setI]; omega); (simp [setI, e]; exact this)⟩
  · refine R_aload_n 25 rfl dX8_add_24 rfl ?_
    refine R_getP 1 28 rfl dX8_add_25 rfl rfl fl_X8_15 (hP _ _ _ rfl) ?_
    refine R_iload_n 29 rfl dX8_add_28 rfl ?_
    refine R_dup2 30 rfl dX8_add_29 rfl rfl ?_
    refine R_iald j 31 rfl dX8_add_30 rfl (by first | rfl | omega) (by omega) (by decide) ?_
    refine R_iconst 32 rfl dX8_add_31 ?_
    refine R_iadd 33 rfl dX8_add_32 ?_
    refine R_iast j 34 rfl dX8_add_33 rfl (by first | rfl | omega) (by omega) (by decide) ?_
    refine R_return dX8_add_34 rfl ?_
    first | exact QV_mk ⟨((Fr.rf.set rfl).set rfl).set rfl, by simp [setI]; omega, fun g q => by have := h2 g q; by_cases e : g = j; (subst e; simp [setI]; omega); (simp [setI, e]; exact this)⟩ | exact QV_mk ⟨(Fr.rf.set rfl).set rfl, by simp [setI]; omega, fun g q => by have := h2 g q; by_cases e : g = j; (subst e; simp [setI]; omega); (simp [setI, e]; exact this)⟩
theorem c_X8_clear88 (hPO : PO o d m) : C Γ mX8_clear 0 0 0 0 [vr 88] SH m (QV SH (fun m' => Fr (isT 88) m m' ∧ Tl 88 89 90 m' (fun _ => 0) (fun _ => 0) 0)) := by
  refine C_of_R rfl (Nat.le_of_ble_eq_true rfl) ?_
  have hP := hPO.2
  have Lp : ∀ k, k ≤ 15 → ∀ mm z, Fr (isT 88) m mm → mm.1 88 2 = 0 → (∀ g, g < k → mm.1 89 g = 0 ∧ mm.1 90 g = 0) → z = (k : Int) → R Γ mX8_clear { frames := 0, cells := 0, slots := 0, locals := 0 } 0 0 (QV SH (fun m' => Fr (isT 88) m m' ∧ Tl 88 89 90 m' (fun _ => 0) (fun _ => 0) 0)) 0 0 7 [some (vr 88), some (vi z)] [] SH mm := by
    refine up_ind 15 (fun k hk ih mm z hf h2 hg hz => ?_)
    have hP := (hPO.eq hf.2).2
    refine R_iload_n 8 rfl dX8_clear_7 rfl ?_
    refine R_bipush 10 rfl dX8_clear_8 (by decide) ?_
    refine R_icmp_ge 13 33 rfl rfl dX8_clear_10 (by first | assumption | exact ⟨by omega, by omega⟩) (by first | assumption | exact ⟨by omega, by omega⟩) (fun h10 => ?_) (fun h10 => ?_)
    · refine R_return dX8_clear_33 rfl ?_
      exact QV_mk ⟨hf, h2, fun g q => hg g (by omega)⟩
    · refine R_aload_n 14 rfl dX8_clear_13 rfl ?_
      refine R_getP 0 17 rfl dX8_clear_14 rfl rfl fl_X8_9 (hP _ _ _ rfl) ?_
      refine R_iload_n 18 rfl dX8_clear_17 rfl ?_
      refine R_iconst 19 rfl dX8_clear_18 ?_
      refine R_iast k 20 rfl dX8_clear_19 rfl (by first | rfl | omega) (by omega) (by decide) ?_
      refine R_aload_n 21 rfl dX8_clear_20 rfl ?_
      refine R_getP 1 24 rfl dX8_clear_21 rfl rfl fl_X8_15 (hP _ _ _ rfl) ?_
      refine R_iload_n 25 rfl dX8_clear_24 rfl ?_
      refine R_iconst 26 rfl dX8_clear_25 ?_
      refine R_iast k 27 rfl dX8_clear_26 rfl (by first | rfl | omega) (by omega) (by decide) ?_
      refine R_iinc [_, _] 30 rfl dX8_clear_27 rfl rfl (by decide) ?_
      refine R_goto 7 rfl dX8_clear_30 ?_
      exact ih (by omega) _ _ ((hf.set rfl).set rfl) (by simp [setI]; exact h2) (fun g q => by by_cases e : g = k; (subst e; simp [setI]); (simp [setI, e]; exact hg g (by omega))) (by omega)
  refine R_aload_n 1 rfl dX8_clear_0 rfl ?_
  refine R_iconst 2 rfl dX8_clear_1 ?_
  refine R_putI 2 5 rfl dX8_clear_2 rfl rfl fl_X8_18 ?_
  refine R_iconst 6 rfl dX8_clear_5 ?_
  refine R_istore_n [_, _] 7 rfl dX8_clear_6 rfl (by decide) ?_
  exact Lp 0 (by omega) _ _ (Fr.rf.set rfl) (by simp [setI]) (fun g q => by omega) rfl
theorem c_X8_add88 (z b : Int) (j : Nat) (hPO : PO o d m) (hT : Tl 88 89 90 m mk ab al) (hz : z = (j : Int)) (hj : j < 15) (hb : b = 0 ∨ b = 1) : C Γ mX8_add 0 0 0 0 [vr 88, vi z, vi b] SH m (QV SH (fun m' => Fr (isT 88) m m' ∧ Tl 88 89 90 m' (fun g => if g = j then mk g + 1 else mk g) (fun g => if g = j then ab g + b else ab g) (al + 1))) := by
  refine C_of_R rfl (Nat.le_of_ble_eq_true rfl) ?_
  subst hz
  have hP := hPO.2
  obtain ⟨h1, h2⟩ := hT
  have h3 := h2 j hj
  refine R_aload_n 1 rfl dX8_add_0 rfl ?_
  refine R_dup 2 rfl dX8_add_1 rfl ?_
  refine R_getI 2 5 rfl dX8_add_2 rfl rfl fl_X8_18 ?_
  refine R_iconst 6 rfl dX8_add_5 ?_
  refine R_iadd 7 rfl dX8_add_6 ?_
  refine R_putI 2 10 rfl dX8_add_7 rfl rfl fl_X8_18 ?_
  refine R_aload_n 11 rfl dX8_add_10 rfl ?_
  refine R_getP 0 14 rfl dX8_add_11 rfl rfl fl_X8_9 (hP _ _ _ rfl) ?_
  refine R_iload_n 15 rfl dX8_add_14 rfl ?_
  refine R_dup2 16 rfl dX8_add_15 rfl rfl ?_
  refine R_iald j 17 rfl dX8_add_16 rfl (by first | rfl | omega) (by omega) (by decide) ?_
  refine R_iconst 18 rfl dX8_add_17 ?_
  refine R_iadd 19 rfl dX8_add_18 ?_
  refine R_iast j 20 rfl dX8_add_19 rfl (by first | rfl | omega) (by omega) (by decide) ?_
  refine R_iload_n 21 rfl dX8_add_20 rfl ?_
  refine R_if_eq 24 34 rfl rfl dX8_add_21 (by first | assumption | exact ⟨by omega, by omega⟩) (fun h21 => ?_) (fun h21 => ?_)
  · refine R_return dX8_add_34 rfl ?_
    first | exact QV_mk ⟨((Fr.rf.set rfl).set rfl).set rfl, by simp [setI]; omega, fun g q => by have := h2 g q; by_cases e : g = j; (subst e; simp [setI]; omega); (simp [setI, e]; exact this)⟩ | exact QV_mk ⟨(Fr.rf.set rfl).set rfl, by simp [setI]; omega, fun g q => by have := h2 g q; by_cases e : g = j; (subst e; simp [setI]; omega); (simp [setI, e]; exact this)⟩
  · refine R_aload_n 25 rfl dX8_add_24 rfl ?_
    refine R_getP 1 28 rfl dX8_add_25 rfl rfl fl_X8_15 (hP _ _ _ rfl) ?_
    refine R_iload_n 29 rfl dX8_add_28 rfl ?_
    refine R_dup2 30 rfl dX8_add_29 rfl rfl ?_
    refine R_iald j 31 rfl dX8_add_30 rfl (by first | rfl | omega) (by omega) (by decide) ?_
    refine R_iconst 32 rfl dX8_add_31 ?_
    refine R_iadd 33 rfl dX8_add_32 ?_
    refine R_iast j 34 rfl dX8_add_33 rfl (by first | rfl | omega) (by omega) (by decide) ?_
    refine R_return dX8_add_34 rfl ?_
    first | exact QV_mk ⟨((Fr.rf.set rfl).set rfl).set rfl, by simp [setI]; omega, fun g q => by have := h2 g q; by_cases e : g = j; (subst e; simp [setI]; omega); (simp [setI, e]; exact this)⟩ | exact QV_mk ⟨(Fr.rf.set rfl).set rfl, by simp [setI]; omega, fun g q => by have := h2 g q; by_cases e : g = j; (subst e; simp [setI]; omega); (simp [setI, e]; exact this)⟩
theorem c_X8_greatestShare (n : Int) (hPO : PO o d m) (hT : Tl 88 89 90 m mk ab al) (hr : ∀ g, g < 15 → 0 ≤ mk g ∧ mk g ≤ 80 ∧ 0 ≤ ab g ∧ ab g ≤ 80) (hn : 1 ≤ n ∧ n ≤ 99) : C Γ mX8_greatestShare 0 0 0 0 [vr 88, vi n] SH m (Qi SH m (gsU mk ab n 15)) := by
  refine C_of_R rfl (Nat.le_of_ble_eq_true rfl) ?_
  have hP := hPO.2
  obtain ⟨h1, h2⟩ := hT
  have mulb : ∀ x y : Int, 0 ≤ x ∧ x ≤ 80 → 0 ≤ y ∧ y ≤ 80 → 0 ≤ x * y ∧ x * y ≤ 6400 := fun x y hx hy => by
    have a1 := Int.mul_nonneg hx.1 hy.1
    have a2 := Int.mul_le_mul hx.2 hy.2 hy.1 (by omega : (0 : Int) ≤ 80)
    omega
  have Lp : ∀ g, g ≤ 15 → ∀ b z, b = gsU mk ab n g → z = (g : Int) → R Γ mX8_greatestShare { frames := 0, cells := 0, slots := 0, locals := 0 } 0 0 (Qi SH m (gsU mk ab n 15)) 0 0 4 [some (vr 88), some (vi n), some (vi b), some (vi z)] [] SH m := by
    refine up_ind 15 (fun g hg ih b z hb hz => ?_)
    have h9 := gsU_rg mk ab n g
    refine R_iload_n 5 rfl dX8_greatestShare_4 rfl ?_
    refine R_bipush 7 rfl dX8_greatestShare_5 (by decide) ?_
    refine R_icmp_ge 10 61 rfl rfl dX8_greatestShare_7 (by first | assumption | exact ⟨by omega, by omega⟩) (by first | assumption | exact ⟨by omega, by omega⟩) (fun h7 => ?_) (fun h7 => ?_)
    · refine R_iload_n 62 rfl dX8_greatestShare_61 rfl ?_
      refine R_ireturn dX8_greatestShare_62 rfl ?_
      exact Qi_mk (by rw [hb, show g = 15 by omega])
    · have h3 := h2 g (by omega)
      have h4 := hr g (by omega)
      refine R_aload_n 11 rfl dX8_greatestShare_10 rfl ?_
      refine R_getP 0 14 rfl dX8_greatestShare_11 rfl rfl fl_X8_9 (hP _ _ _ rfl) ?_
      refine R_iload_n 15 rfl dX8_greatestShare_14 rfl ?_
      refine R_iald g 16 rfl dX8_greatestShare_15 rfl (by first | rfl | omega) (by omega) (by decide) ?_
      refine R_iload_n 17 rfl dX8_greatestShare_16 rfl ?_
      refine R_icmp_lt 20 55 rfl rfl dX8_greatestShare_17 (by first | assumption | exact ⟨by omega, by omega⟩) (by first | assumption | exact ⟨by omega, by omega⟩) (fun h17 => ?_) (fun h17 => ?_)
      · refine R_iinc [_, _, _, _] 58 rfl dX8_greatestShare_55 rfl rfl (by decide) ?_
        refine R_goto 4 rfl dX8_greatestShare_58 ?_
        first | exact ih (by omega) _ _ (by unfold gsU; rw [← hb, if_pos (by omega)]; omega) (by omega) | exact ih (by omega) _ _ (by unfold gsU; rw [← hb, if_neg (by omega)]) (by omega)
      · refine R_iload_n 21 rfl dX8_greatestShare_20 rfl ?_
        refine R_if_lt 24 53 rfl rfl dX8_greatestShare_21 (by first | assumption | exact ⟨by omega, by omega⟩) (fun h21 => ?_) (fun h21 => ?_)
        · refine R_iload_n 54 rfl dX8_greatestShare_53 rfl ?_
          refine R_istore_n [_, _, _, _] 55 rfl dX8_greatestShare_54 rfl (by decide) ?_
          refine R_iinc [_, _, _, _] 58 rfl dX8_greatestShare_55 rfl rfl (by decide) ?_
          refine R_goto 4 rfl dX8_greatestShare_58 ?_
          first | exact ih (by omega) _ _ (by unfold gsU; rw [← hb, if_pos (by omega)]; omega) (by omega) | exact ih (by omega) _ _ (by unfold gsU; rw [← hb, if_neg (by omega)]) (by omega)
        · have h5 := h2 b.toNat (by omega)
          have h6 := hr b.toNat (by omega)
          have h7 := mulb (ab g) (mk b.toNat) (by omega) (by omega)
          have h8 := mulb (ab b.toNat) (mk g) (by omega) (by omega)
          refine R_aload_n 25 rfl dX8_greatestShare_24 rfl ?_
          refine R_getP 1 28 rfl dX8_greatestShare_25 rfl rfl fl_X8_15 (hP _ _ _ rfl) ?_
          refine R_iload_n 29 rfl dX8_greatestShare_28 rfl ?_
          refine R_iald g 30 rfl dX8_greatestShare_29 rfl (by first | rfl | omega) (by omega) (by decide) ?_
          refine R_aload_n 31 rfl dX8_greatestShare_30 rfl ?_
          refine R_getP 0 34 rfl dX8_greatestShare_31 rfl rfl fl_X8_9 (hP _ _ _ rfl) ?_
          refine R_iload_n 35 rfl dX8_greatestShare_34 rfl ?_
          refine R_iald b.toNat 36 rfl dX8_greatestShare_35 rfl (by first | rfl | omega) (by omega) (by decide) ?_
          refine R_imul 37 rfl dX8_greatestShare_36 ?_
          refine R_aload_n 38 rfl dX8_greatestShare_37 rfl ?_
          refine R_getP 1 41 rfl dX8_greatestShare_38 rfl rfl fl_X8_15 (hP _ _ _ rfl) ?_
          refine R_iload_n 42 rfl dX8_greatestShare_41 rfl ?_
          refine R_iald b.toNat 43 rfl dX8_greatestShare_42 rfl (by first | rfl | omega) (by omega) (by decide) ?_
          refine R_aload_n 44 rfl dX8_greatestShare_43 rfl ?_
          refine R_getP 0 47 rfl dX8_greatestShare_44 rfl rfl fl_X8_9 (hP _ _ _ rfl) ?_
          refine R_iload_n 48 rfl dX8_greatestShare_47 rfl ?_
          refine R_iald g 49 rfl dX8_greatestShare_48 rfl (by first | rfl | omega) (by omega) (by decide) ?_
          refine R_imul 50 rfl dX8_greatestShare_49 ?_
          rw [h3.1, h3.2, h5.1, h5.2]
          refine R_icmp_le 53 55 rfl rfl dX8_greatestShare_50 (by first | assumption | exact ⟨by omega, by omega⟩) (by first | assumption | exact ⟨by omega, by omega⟩) (fun h50 => ?_) (fun h50 => ?_)
          · refine R_iinc [_, _, _, _] 58 rfl dX8_greatestShare_55 rfl rfl (by decide) ?_
            refine R_goto 4 rfl dX8_greatestShare_58 ?_
            first | exact ih (by omega) _ _ (by unfold gsU; rw [← hb, if_pos (by omega)]; omega) (by omega) | exact ih (by omega) _ _ (by unfold gsU; rw [← hb, if_neg (by omega)]) (by omega)
          · refine R_iload_n 54 rfl dX8_greatestShare_53 rfl ?_
            refine R_istore_n [_, _, _, _] 55 rfl dX8_greatestShare_54 rfl (by decide) ?_
            refine R_iinc [_, _, _, _] 58 rfl dX8_greatestShare_55 rfl rfl (by decide) ?_
            refine R_goto 4 rfl dX8_greatestShare_58 ?_
            first | exact ih (by omega) _ _ (by unfold gsU; rw [← hb, if_pos (by omega)]; omega) (by omega) | exact ih (by omega) _ _ (by unfold gsU; rw [← hb, if_neg (by omega)]) (by omega)
  refine R_iconst 1 rfl dX8_greatestShare_0 ?_
  refine R_istore_n [_, _, _, _] 2 rfl dX8_greatestShare_1 rfl (by decide) ?_
  refine R_iconst 3 rfl dX8_greatestShare_2 ?_
  refine R_istore_n [_, _, _, _] 4 rfl dX8_greatestShare_3 rfl (by decide) ?_
  exact Lp 0 (by omega) _ _ rfl rfl
theorem c_X8_mostMarks (hPO : PO o d m) (hT : Tl 88 89 90 m mk ab al) (hr : ∀ g, g < 15 → 0 ≤ mk g ∧ mk g ≤ 80) : C Γ mX8_mostMarks 0 0 0 0 [vr 88] SH m (Qi SH m (mmU mk 15 : Int)) := by
  refine C_of_R rfl (Nat.le_of_ble_eq_true rfl) ?_
  have hP := hPO.2
  obtain ⟨h1, h2⟩ := hT
  have Lp : ∀ g, g ≤ 15 → 1 ≤ g → ∀ b z, b = (mmU mk g : Int) → z = (g : Int) → R Γ mX8_mostMarks { frames := 0, cells := 0, slots := 0, locals := 0 } 0 0 (Qi SH m (mmU mk 15 : Int)) 0 0 4 [some (vr 88), some (vi b), some (vi z)] [] SH m := by
    refine up_ind 15 (fun g hg ih h1g b z hb hz => ?_)
    have h9 : mmU mk g ≤ g - 1 := by have := mmU_rg mk (g - 1); rw [show g - 1 + 1 = g by omega] at this; exact this
    refine R_iload_n 5 rfl dX8_mostMarks_4 rfl ?_
    refine R_bipush 7 rfl dX8_mostMarks_5 (by decide) ?_
    refine R_icmp_ge 10 33 rfl rfl dX8_mostMarks_7 (by first | assumption | exact ⟨by omega, by omega⟩) (by first | assumption | exact ⟨by omega, by omega⟩) (fun h7 => ?_) (fun h7 => ?_)
    · refine R_iload_n 34 rfl dX8_mostMarks_33 rfl ?_
      refine R_ireturn dX8_mostMarks_34 rfl ?_
      exact Qi_mk (by rw [hb, show g = 15 by omega])
    · have h3 := h2 g (by omega)
      have h4 := hr g (by omega)
      have h5 := h2 (mmU mk g) (by omega)
      have h6 := hr (mmU mk g) (by omega)
      refine R_aload_n 11 rfl dX8_mostMarks_10 rfl ?_
      refine R_getP 0 14 rfl dX8_mostMarks_11 rfl rfl fl_X8_9 (hP _ _ _ rfl) ?_
      refine R_iload_n 15 rfl dX8_mostMarks_14 rfl ?_
      refine R_iald g 16 rfl dX8_mostMarks_15 rfl (by first | rfl | omega) (by omega) (by decide) ?_
      refine R_aload_n 17 rfl dX8_mostMarks_16 rfl ?_
      refine R_getP 0 20 rfl dX8_mostMarks_17 rfl rfl fl_X8_9 (hP _ _ _ rfl) ?_
      refine R_iload_n 21 rfl dX8_mostMarks_20 rfl ?_
      refine R_iald (mmU mk g) 22 rfl dX8_mostMarks_21 rfl (by first | rfl | omega) (by omega) (by decide) ?_
      refine R_icmp_le 25 27 rfl rfl dX8_mostMarks_22 (by first | assumption | exact ⟨by omega, by omega⟩) (by first | assumption | exact ⟨by omega, by omega⟩) (fun h22 => ?_) (fun h22 => ?_)
      · refine R_iinc [_, _, _] 30 rfl dX8_mostMarks_27 rfl rfl (by decide) ?_
        refine R_goto 4 rfl dX8_mostMarks_30 ?_
        first | exact ih (by omega) (by omega) _ _ (by unfold mmU; rw [if_pos (by omega)]; omega) (by omega) | exact ih (by omega) (by omega) _ _ (by unfold mmU; rw [if_neg (by omega)]; omega) (by omega)
      · refine R_iload_n 26 rfl dX8_mostMarks_25 rfl ?_
        refine R_istore_n [_, _, _] 27 rfl dX8_mostMarks_26 rfl (by decide) ?_
        refine R_iinc [_, _, _] 30 rfl dX8_mostMarks_27 rfl rfl (by decide) ?_
        refine R_goto 4 rfl dX8_mostMarks_30 ?_
        first | exact ih (by omega) (by omega) _ _ (by unfold mmU; rw [if_pos (by omega)]; omega) (by omega) | exact ih (by omega) (by omega) _ _ (by unfold mmU; rw [if_neg (by omega)]; omega) (by omega)
  refine R_iconst 1 rfl dX8_mostMarks_0 ?_
  refine R_istore_n [_, _, _] 2 rfl dX8_mostMarks_1 rfl (by decide) ?_
  refine R_iconst 3 rfl dX8_mostMarks_2 ?_
  refine R_istore_n [_, _, _] 4 rfl dX8_mostMarks_3 rfl (by decide) ?_
  exact Lp 1 (by omega) (by omega) _ _ (by rw [mmU_1]; rfl) rfl
end
