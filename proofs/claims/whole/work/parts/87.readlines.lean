section
variable {Γ : GX} {m m' : Mem} {T : Tp} {o d : Nat} {P : Nat → Bool} {x : PX St} {L : Ld}
theorem PO.r0 {r : Option Nat} (h : PO o d m) : PO o d (setP m 3 0 r) := ⟨h.1, fun a k q e => by
  by_cases h3 : a = 3 ∧ k = 0
  · obtain ⟨rfl, rfl⟩ := h3; cases e
  · show (if a = 3 ∧ k = 0 then r else m.2 a k) = some q
    rw [if_neg h3]; exact h.2 a k q e⟩
theorem PO.r1 {r : Option Nat} (h : PO o d m) : PO o d (setP m 3 1 r) := ⟨h.1, fun a k q e => by
  by_cases h3 : a = 3 ∧ k = 1
  · obtain ⟨rfl, rfl⟩ := h3; cases e
  · show (if a = 3 ∧ k = 1 then r else m.2 a k) = some q
    rw [if_neg h3]; exact h.2 a k q e⟩
theorem sx_n {n : Nat} {x : PX St} : sx (pb x (fun s => (.inr (n, s) : PX (Nat × St)))) = x := by cases x <;> rfl
/-- the reader's memory when it begins -/
def rdM (m : Mem) (d : Nat) : Mem := setP (setP m 3 0 (some 1)) 3 1 (some d)
theorem PO.rd (h : PO o d m) : PO o d (rdM m d) := h.r0.r1
theorem c_X4_clear4 (hPO : PO o 4 m) : C Γ mX4_clear 0 0 0 0 [vr 4] SH m (QV SH (fun m' => Fr (isRD 4) m m' ∧ LdC 4 m' L0)) := by
  refine C_of_R rfl (Nat.le_of_ble_eq_true rfl) ?_
  have hP := hPO.2
  refine R_aload_n 1 rfl dX4_clear_0 rfl ?_
  refine R_iconst 2 rfl dX4_clear_1 ?_
  refine R_putI 0 5 rfl dX4_clear_2 rfl rfl fl_X4_26 ?_
  refine R_aload_n 6 rfl dX4_clear_5 rfl ?_
  refine R_iconst 7 rfl dX4_clear_6 ?_
  refine R_putI 1 10 rfl dX4_clear_7 rfl rfl fl_X4_30 ?_
  refine R_aload_n 11 rfl dX4_clear_10 rfl ?_
  refine R_bipush 13 rfl dX4_clear_11 (by decide) ?_
  refine R_putI 2 16 rfl dX4_clear_13 rfl rfl fl_X4_33 ?_
  refine R_aload_n 17 rfl dX4_clear_16 rfl ?_
  refine R_bipush 19 rfl dX4_clear_17 (by decide) ?_
  refine R_putI 3 22 rfl dX4_clear_19 rfl rfl fl_X4_36 ?_
  refine R_aload_n 23 rfl dX4_clear_22 rfl ?_
  refine R_bipush 25 rfl dX4_clear_23 (by decide) ?_
  refine R_putI 4 28 rfl dX4_clear_25 rfl rfl fl_X4_39 ?_
  refine R_aload_n 29 rfl dX4_clear_28 rfl ?_
  refine R_iconst 30 rfl dX4_clear_29 ?_
  refine R_putI 5 33 rfl dX4_clear_30 rfl rfl fl_X4_42 ?_
  refine R_aload_n 34 rfl dX4_clear_33 rfl ?_
  refine R_iconst 35 rfl dX4_clear_34 ?_
  refine R_putI 6 38 rfl dX4_clear_35 rfl rfl fl_X4_45 ?_
  refine R_aload_n 39 rfl dX4_clear_38 rfl ?_
  refine R_getP 7 42 rfl dX4_clear_39 rfl rfl fl_X4_9 (hP _ _ _ rfl) ?_
  refine R_iconst 43 rfl dX4_clear_42 ?_
  refine R_iconst 44 rfl dX4_clear_43 ?_
  refine R_iast 0 45 rfl dX4_clear_44 rfl (by first | rfl | omega) (by decide) (by decide) ?_
  refine R_aload_n 46 rfl dX4_clear_45 rfl ?_
  refine R_getP 7 49 rfl dX4_clear_46 rfl rfl fl_X4_9 (hP _ _ _ rfl) ?_
  refine R_iconst 50 rfl dX4_clear_49 ?_
  refine R_iconst 51 rfl dX4_clear_50 ?_
  refine R_iast 1 52 rfl dX4_clear_51 rfl (by first | rfl | omega) (by decide) (by decide) ?_
  refine R_aload_n 53 rfl dX4_clear_52 rfl ?_
  refine R_getP 7 56 rfl dX4_clear_53 rfl rfl fl_X4_9 (hP _ _ _ rfl) ?_
  refine R_iconst 57 rfl dX4_clear_56 ?_
  refine R_iconst 58 rfl dX4_clear_57 ?_
  refine R_iast 2 59 rfl dX4_clear_58 rfl (by first | rfl | omega) (by decide) (by decide) ?_
  refine R_aload_n 60 rfl dX4_clear_59 rfl ?_
  refine R_getP 7 63 rfl dX4_clear_60 rfl rfl fl_X4_9 (hP _ _ _ rfl) ?_
  refine R_iconst 64 rfl dX4_clear_63 ?_
  refine R_iconst 65 rfl dX4_clear_64 ?_
  refine R_iast 3 66 rfl dX4_clear_65 rfl (by first | rfl | omega) (by decide) (by decide) ?_
  refine R_return dX4_clear_66 rfl ?_
  refine QV_mk ⟨((((((((((Fr.rf.set rfl).set rfl).set rfl).set rfl).set rfl).set rfl).set rfl).set rfl).set rfl).set rfl).set rfl, LdU.c ⟨fun k hk => ?_, fun k hk => ?_, fun r hr p hp => ?_, fun r hr p hp => ?_⟩ (Or.inl rfl)⟩
  · rcases (show k = 0 ∨ k = 1 ∨ k = 2 ∨ k = 3 ∨ k = 4 ∨ k = 5 ∨ k = 6 by omega) with rfl | rfl | rfl | rfl | rfl | rfl | rfl <;> rfl
  · rcases (show k = 0 ∨ k = 1 ∨ k = 2 ∨ k = 3 by omega) with rfl | rfl | rfl | rfl <;> rfl
  · have : (p : Int) < 0 := hp
    omega
  · have : (p : Int) < 0 := hp
    omega
theorem c_X5_readLines4 (hΓ : GOk Γ) (hPO : PO o 4 m) (hT : TpC m T) (hO : TpOk T) : C Γ mX5_readLines 8 320 0 0 [vr 3, vr 1, vr 4] SH m (QI SH (fun z m' => Fr (isRD 4) (rdM m 4) m' ∧ PCx T 4 m' (sx (landT T)) ∧ ∀ n s, landT T = .inr (n, s) → z = (n : Int))) := by
  refine C_of_R rfl (Nat.le_of_ble_eq_true rfl) ?_
  have w3 : ∀ a, isRD 4 a = false → is3 a = false := fun a h => by simp [isRD] at h; simp [is3]; omega
  have hb0 : PCb o 4 T (rdM m 4) := ⟨hPO.rd, hT, hO, rfl, rfl⟩
  have Lp : ∀ f n : Nat, n + f = 320 → ∀ zn : Int, zn = (n : Int) → ∀ m1 x, Fr (isRD 4) (rdM m 4) m1 → PCx T 4 m1 x → landT T = lns T f n x → R Γ mX5_readLines { frames := 8, cells := 0, slots := 0, locals := 320 } 0 0 (QI SH (fun z m' => Fr (isRD 4) (rdM m 4) m' ∧ PCx T 4 m' (sx (landT T)) ∧ ∀ n s, landT T = .inr (n, s) → z = (n : Int))) 0 0 43 [some (vr 3), some (vr 1), some (vr 4), some (vi zn)] [] SH m1 := by
    intro f
    induction f with
    | zero =>
      intro n hn zn hz m1 x hf hx he
      have e0 : landT T = pb x (fun s => .inr (n, s)) := he
      have r3 : rg (m1.1 3 3) := by
        cases x with
        | inl e => rw [hx.2.2.1]; exact ⟨by omega, by omega⟩
        | inr s => have v4 := hx.2.2.2.2.2.2.1.2.2.2.1; rw [hx.2.1]; exact ⟨by omega, by omega⟩
      refine R_aload_n 44 rfl dX5_readLines_43 rfl ?_
      refine R_getI 3 47 rfl dX5_readLines_44 rfl rfl fl_X5_40 ?_
      refine R_if_eq 50 67 rfl rfl dX5_readLines_47 (by first | assumption | exact ⟨by omega, by omega⟩) (fun h47 => ?_) (fun h47 => ?_)
      · refine R_iload_n 68 rfl dX5_readLines_67 rfl ?_
        refine R_ireturn dX5_readLines_68 rfl ?_
        refine QI_mk ⟨hf, by rw [e0, sx_n]; exact hx, fun n' s h => ?_⟩
        rw [e0] at h
        obtain ⟨s1, a, b⟩ := pb_inv h
        cases b
        exact hz
      · refine R_iload_n 51 rfl dX5_readLines_50 rfl ?_
        refine R_sipush 54 rfl dX5_readLines_51 (by decide) ?_
        refine R_icmp_ge 57 67 rfl rfl dX5_readLines_54 (by first | assumption | exact ⟨by omega, by omega⟩) (by first | assumption | exact ⟨by omega, by omega⟩) (fun h54 => ?_) (fun h54 => ?_)
        · refine R_iload_n 68 rfl dX5_readLines_67 rfl ?_
          refine R_ireturn dX5_readLines_68 rfl ?_
          refine QI_mk ⟨hf, by rw [e0, sx_n]; exact hx, fun n' s h => ?_⟩
          rw [e0] at h
          obtain ⟨s1, a, b⟩ := pb_inv h
          cases b
          exact hz
        · exfalso; omega
    | succ f ih =>
      intro n hn zn hz m1 x hf hx he
      cases x with
      | inl e =>
        have e0 : landT T = .inl e := he
        have g3 : m1.1 3 3 = 0 := hx.2.2.1
        refine R_aload_n 44 rfl dX5_readLines_43 rfl ?_
        refine R_getI 3 47 rfl dX5_readLines_44 rfl rfl fl_X5_40 ?_
        refine R_if_eq 50 67 rfl rfl dX5_readLines_47 (by first | assumption | exact ⟨by omega, by omega⟩) (fun h47 => ?_) (fun h47 => ?_)
        · refine R_iload_n 68 rfl dX5_readLines_67 rfl ?_
          refine R_ireturn dX5_readLines_68 rfl ?_
          refine QI_mk ⟨hf, by rw [e0]; exact hx, fun n s h => ?_⟩
          rw [e0] at h
          cases h
        · exfalso; omega
      | inr s =>
        have e0 : landT T = if s.2.2.1 = 0 then .inr (n, s) else lns T f (n + 1) (lineT T s) := he
        have g3 : m1.1 3 3 = (s.2.2.1 : Int) := hx.2.1
        have v4 := hx.2.2.2.2.2.2.1.2.2.2.1
        refine R_aload_n 44 rfl dX5_readLines_43 rfl ?_
        refine R_getI 3 47 rfl dX5_readLines_44 rfl rfl fl_X5_40 ?_
        refine R_if_eq 50 67 rfl rfl dX5_readLines_47 (by first | assumption | exact ⟨by omega, by omega⟩) (fun h47 => ?_) (fun h47 => ?_)
        · refine R_iload_n 68 rfl dX5_readLines_67 rfl ?_
          refine R_ireturn dX5_readLines_68 rfl ?_
          first
          | (exfalso; omega)
          | (rw [if_pos (by omega)] at e0
             refine QI_mk ⟨hf, by rw [e0]; exact hx, fun n' s' h => ?_⟩
             rw [e0] at h
             cases h
             exact hz)
        · refine R_iload_n 51 rfl dX5_readLines_50 rfl ?_
          refine R_sipush 54 rfl dX5_readLines_51 (by decide) ?_
          refine R_icmp_ge 57 67 rfl rfl dX5_readLines_54 (by first | assumption | exact ⟨by omega, by omega⟩) (by first | assumption | exact ⟨by omega, by omega⟩) (fun h54 => ?_) (fun h54 => ?_)
          · refine R_iload_n 68 rfl dX5_readLines_67 rfl ?_
            refine R_ireturn dX5_readLines_68 rfl ?_
            first
            | (exfalso; omega)
            | (rw [if_pos (by omega)] at e0
               refine QI_mk ⟨hf, by rw [e0]; exact hx, fun n' s' h => ?_⟩
               rw [e0] at h
               cases h
               exact hz)
          · refine R_aload_n 58 rfl dX5_readLines_57 rfl ?_
            refine R_callV_V (M' := mX5_takeLine) 61 rfl dX5_readLines_58 ml_X5_43 kmX5_takeLine im_X5_takeLine se_X5_takeLine rfl ⟨by decide, rfl⟩ (c_X5_takeLine4 s hΓ (hb0.fr hf rfl rfl) hx) rfl rfl ⟨Nat.le_of_ble_eq_true rfl, Nat.le_of_ble_eq_true rfl⟩ (Nat.le_of_ble_eq_true rfl) ⟨Nat.le_of_ble_eq_true rfl, Nat.le_of_ble_eq_true rfl⟩ ?_
            rintro m58 h58
            obtain ⟨f58, p58⟩ := h58
            refine R_iinc [_, _, _, _] 64 rfl dX5_readLines_61 rfl rfl (by decide) ?_
            refine R_goto 43 rfl dX5_readLines_64 ?_
            rw [if_neg (by omega)] at e0
            exact ih (n + 1) (by omega) _ (by omega) _ _ (hf.tr f58) p58 e0
  refine R_aload_n 1 rfl dX5_readLines_0 rfl ?_
  refine R_aload_n 2 rfl dX5_readLines_1 rfl ?_
  refine R_putP 0 5 rfl dX5_readLines_2 rfl rfl fl_X5_9 ?_
  refine R_aload_n 6 rfl dX5_readLines_5 rfl ?_
  refine R_aload_n 7 rfl dX5_readLines_6 rfl ?_
  refine R_putP 1 10 rfl dX5_readLines_7 rfl rfl fl_X5_15 ?_
  refine R_aload_n 11 rfl dX5_readLines_10 rfl ?_
  refine R_getP 1 14 rfl dX5_readLines_11 rfl rfl fl_X5_15 rfl ?_
  refine R_callV_V (M' := mX4_clear) 17 rfl dX5_readLines_14 ml_X5_19 kmX4_clear im_X4_clear se_X4_clear rfl ⟨by decide, rfl⟩ (c_X4_clear4 (m := rdM m 4) hPO.rd) rfl rfl ⟨Nat.le_of_ble_eq_true rfl, Nat.le_of_ble_eq_true rfl⟩ (Nat.le_of_ble_eq_true rfl) ⟨Nat.le_of_ble_eq_true rfl, Nat.le_of_ble_eq_true rfl⟩ ?_
  rintro m14 h14
  obtain ⟨f14, p14⟩ := h14
  have fs : Fr (isRD 4) (rdM m 4) (setI (setI (setI (setI m14 3 2 0) 3 6 0) 3 7 0) 3 8 0) := (((f14.set rfl).set rfl).set rfl).set rfl
  have bs := hb0.fr fs rfl rfl
  have ls : LdC 4 (setI (setI (setI (setI m14 3 2 0) 3 6 0) 3 7 0) 3 8 0) L0 := p14.fr (F := is3) ((((Fr.rf.set rfl).set rfl).set rfl).set rfl) is3_L
  refine R_aload_n 18 rfl dX5_readLines_17 rfl ?_
  refine R_iconst 19 rfl dX5_readLines_18 ?_
  refine R_putI 2 22 rfl dX5_readLines_19 rfl rfl fl_X5_24 ?_
  refine R_aload_n 23 rfl dX5_readLines_22 rfl ?_
  refine R_iconst 24 rfl dX5_readLines_23 ?_
  refine R_putI 6 27 rfl dX5_readLines_24 rfl rfl fl_X5_28 ?_
  refine R_aload_n 28 rfl dX5_readLines_27 rfl ?_
  refine R_iconst 29 rfl dX5_readLines_28 ?_
  refine R_putI 7 32 rfl dX5_readLines_29 rfl rfl fl_X5_31 ?_
  refine R_aload_n 33 rfl dX5_readLines_32 rfl ?_
  refine R_iconst 34 rfl dX5_readLines_33 ?_
  refine R_putI 8 37 rfl dX5_readLines_34 rfl rfl fl_X5_34 ?_
  refine R_aload_n 38 rfl dX5_readLines_37 rfl ?_
  refine R_callV_V (M' := mX5_advance) 41 rfl dX5_readLines_38 ml_X5_37 kmX5_advance im_X5_advance se_X5_advance rfl ⟨by decide, rfl⟩ (c_X5_advance (0, 0, 0, 0, L0) bs (by simp [setI]) (by simp [setI]) (by simp [setI]) (Nat.zero_le _) (by show 0 < 64; decide) ls ⟨by decide, by decide, by decide, by decide⟩) rfl rfl ⟨Nat.le_of_ble_eq_true rfl, Nat.le_of_ble_eq_true rfl⟩ (Nat.le_of_ble_eq_true rfl) ⟨Nat.le_of_ble_eq_true rfl, Nat.le_of_ble_eq_true rfl⟩ ?_
  rintro m38 h38
  obtain ⟨f38, p38⟩ := h38
  refine R_iconst 42 rfl dX5_readLines_41 ?_
  refine R_istore_n [_, _, _, _] 43 rfl dX5_readLines_42 rfl (by decide) ?_
  exact Lp 320 0 rfl _ rfl _ _ (fs.tr (f38.wk w3)) p38 rfl
theorem c_X4_clear17 (hPO : PO o 17 m) : C Γ mX4_clear 0 0 0 0 [vr 17] SH m (QV SH (fun m' => Fr (isRD 17) m m' ∧ LdC 17 m' L0)) := by
  refine C_of_R rfl (Nat.le_of_ble_eq_true rfl) ?_
  have hP := hPO.2
  refine R_aload_n 1 rfl dX4_clear_0 rfl ?_
  refine R_iconst 2 rfl dX4_clear_1 ?_
  refine R_putI 0 5 rfl dX4_clear_2 rfl rfl fl_X4_26 ?_
  refine R_aload_n 6 rfl dX4_clear_5 rfl ?_
  refine R_iconst 7 rfl dX4_clear_6 ?_
  refine R_putI 1 10 rfl dX4_clear_7 rfl rfl fl_X4_30 ?_
  refine R_aload_n 11 rfl dX4_clear_10 rfl ?_
  refine R_bipush 13 rfl dX4_clear_11 (by decide) ?_
  refine R_putI 2 16 rfl dX4_clear_13 rfl rfl fl_X4_33 ?_
  refine R_aload_n 17 rfl dX4_clear_16 rfl ?_
  refine R_bipush 19 rfl dX4_clear_17 (by decide) ?_
  refine R_putI 3 22 rfl dX4_clear_19 rfl rfl fl_X4_36 ?_
  refine R_aload_n 23 rfl dX4_clear_22 rfl ?_
  refine R_bipush 25 rfl dX4_clear_23 (by decide) ?_
  refine R_putI 4 28 rfl dX4_clear_25 rfl rfl fl_X4_39 ?_
  refine R_aload_n 29 rfl dX4_clear_28 rfl ?_
  refine R_iconst 30 rfl dX4_clear_29 ?_
  refine R_putI 5 33 rfl dX4_clear_30 rfl rfl fl_X4_42 ?_
  refine R_aload_n 34 rfl dX4_clear_33 rfl ?_
  refine R_iconst 35 rfl dX4_clear_34 ?_
  refine R_putI 6 38 rfl dX4_clear_35 rfl rfl fl_X4_45 ?_
  refine R_aload_n 39 rfl dX4_clear_38 rfl ?_
  refine R_getP 7 42 rfl dX4_clear_39 rfl rfl fl_X4_9 (hP _ _ _ rfl) ?_
  refine R_iconst 43 rfl dX4_clear_42 ?_
  refine R_iconst 44 rfl dX4_clear_43 ?_
  refine R_iast 0 45 rfl dX4_clear_44 rfl (by first | rfl | omega) (by decide) (by decide) ?_
  refine R_aload_n 46 rfl dX4_clear_45 rfl ?_
  refine R_getP 7 49 rfl dX4_clear_46 rfl rfl fl_X4_9 (hP _ _ _ rfl) ?_
  refine R_iconst 50 rfl dX4_clear_49 ?_
  refine R_iconst 51 rfl dX4_clear_50 ?_
  refine R_iast 1 52 rfl dX4_clear_51 rfl (by first | rfl | omega) (by decide) (by decide) ?_
  refine R_aload_n 53 rfl dX4_clear_52 rfl ?_
  refine R_getP 7 56 rfl dX4_clear_53 rfl rfl fl_X4_9 (hP _ _ _ rfl) ?_
  refine R_iconst 57 rfl dX4_clear_56 ?_
  refine R_iconst 58 rfl dX4_clear_57 ?_
  refine R_iast 2 59 rfl dX4_clear_58 rfl (by first | rfl | omega) (by decide) (by decide) ?_
  refine R_aload_n 60 rfl dX4_clear_59 rfl ?_
  refine R_getP 7 63 rfl dX4_clear_60 rfl rfl fl_X4_9 (hP _ _ _ rfl) ?_
  refine R_iconst 64 rfl dX4_clear_63 ?_
  refine R_iconst 65 rfl dX4_clear_64 ?_
  refine R_iast 3 66 rfl dX4_clear_65 rfl (by first | rfl | omega) (by decide) (by decide) ?_
  refine R_return dX4_clear_66 rfl ?_
  refine QV_mk ⟨((((((((((Fr.rf.set rfl).set rfl).set rfl).set rfl).set rfl).set rfl).set rfl).set rfl).set rfl).set rfl).set rfl, LdU.c ⟨fun k hk => ?_, fun k hk => ?_, fun r hr p hp => ?_, fun r hr p hp => ?_⟩ (Or.inr rfl)⟩
  · rcases (show k = 0 ∨ k = 1 ∨ k = 2 ∨ k = 3 ∨ k = 4 ∨ k = 5 ∨ k = 6 by omega) with rfl | rfl | rfl | rfl | rfl | rfl | rfl <;> rfl
  · rcases (show k = 0 ∨ k = 1 ∨ k = 2 ∨ k = 3 by omega) with rfl | rfl | rfl | rfl <;> rfl
  · have : (p : Int) < 0 := hp
    omega
  · have : (p : Int) < 0 := hp
    omega
theorem c_X5_readLines17 (hΓ : GOk Γ) (hPO : PO o 17 m) (hT : TpC m T) (hO : TpOk T) : C Γ mX5_readLines 8 320 0 0 [vr 3, vr 1, vr 17] SH m (QI SH (fun z m' => Fr (isRD 17) (rdM m 17) m' ∧ PCx T 17 m' (sx (landT T)) ∧ ∀ n s, landT T = .inr (n, s) → z = (n : Int))) := by
  refine C_of_R rfl (Nat.le_of_ble_eq_true rfl) ?_
  have w3 : ∀ a, isRD 17 a = false → is3 a = false := fun a h => by simp [isRD] at h; simp [is3]; omega
  have hb0 : PCb o 17 T (rdM m 17) := ⟨hPO.rd, hT, hO, rfl, rfl⟩
  have Lp : ∀ f n : Nat, n + f = 320 → ∀ zn : Int, zn = (n : Int) → ∀ m1 x, Fr (isRD 17) (rdM m 17) m1 → PCx T 17 m1 x → landT T = lns T f n x → R Γ mX5_readLines { frames := 8, cells := 0, slots := 0, locals := 320 } 0 0 (QI SH (fun z m' => Fr (isRD 17) (rdM m 17) m' ∧ PCx T 17 m' (sx (landT T)) ∧ ∀ n s, landT T = .inr (n, s) → z = (n : Int))) 0 0 43 [some (vr 3), some (vr 1), some (vr 17), some (vi zn)] [] SH m1 := by
    intro f
    induction f with
    | zero =>
      intro n hn zn hz m1 x hf hx he
      have e0 : landT T = pb x (fun s => .inr (n, s)) := he
      have r3 : rg (m1.1 3 3) := by
        cases x with
        | inl e => rw [hx.2.2.1]; exact ⟨by omega, by omega⟩
        | inr s => have v4 := hx.2.2.2.2.2.2.1.2.2.2.1; rw [hx.2.1]; exact ⟨by omega, by omega⟩
      refine R_aload_n 44 rfl dX5_readLines_43 rfl ?_
      refine R_getI 3 47 rfl dX5_readLines_44 rfl rfl fl_X5_40 ?_
      refine R_if_eq 50 67 rfl rfl dX5_readLines_47 (by first | assumption | exact ⟨by omega, by omega⟩) (fun h47 => ?_) (fun h47 => ?_)
      · refine R_iload_n 68 rfl dX5_readLines_67 rfl ?_
        refine R_ireturn dX5_readLines_68 rfl ?_
        refine QI_mk ⟨hf, by rw [e0, sx_n]; exact hx, fun n' s h => ?_⟩
        rw [e0] at h
        obtain ⟨s1, a, b⟩ := pb_inv h
        cases b
        exact hz
      · refine R_iload_n 51 rfl dX5_readLines_50 rfl ?_
        refine R_sipush 54 rfl dX5_readLines_51 (by decide) ?_
        refine R_icmp_ge 57 67 rfl rfl dX5_readLines_54 (by first | assumption | exact ⟨by omega, by omega⟩) (by first | assumption | exact ⟨by omega, by omega⟩) (fun h54 => ?_) (fun h54 => ?_)
        · refine R_iload_n 68 rfl dX5_readLines_67 rfl ?_
          refine R_ireturn dX5_readLines_68 rfl ?_
          refine QI_mk ⟨hf, by rw [e0, sx_n]; exact hx, fun n' s h => ?_⟩
          rw [e0] at h
          obtain ⟨s1, a, b⟩ := pb_inv h
          cases b
          exact hz
        · exfalso; omega
    | succ f ih =>
      intro n hn zn hz m1 x hf hx he
      cases x with
      | inl e =>
        have e0 : landT T = .inl e := he
        have g3 : m1.1 3 3 = 0 := hx.2.2.1
        refine R_aload_n 44 rfl dX5_readLines_43 rfl ?_
        refine R_getI 3 47 rfl dX5_readLines_44 rfl rfl fl_X5_40 ?_
        refine R_if_eq 50 67 rfl rfl dX5_readLines_47 (by first | assumption | exact ⟨by omega, by omega⟩) (fun h47 => ?_) (fun h47 => ?_)
        · refine R_iload_n 68 rfl dX5_readLines_67 rfl ?_
          refine R_ireturn dX5_readLines_68 rfl ?_
          refine QI_mk ⟨hf, by rw [e0]; exact hx, fun n s h => ?_⟩
          rw [e0] at h
          cases h
        · exfalso; omega
      | inr s =>
        have e0 : landT T = if s.2.2.1 = 0 then .inr (n, s) else lns T f (n + 1) (lineT T s) := he
        have g3 : m1.1 3 3 = (s.2.2.1 : Int) := hx.2.1
        have v4 := hx.2.2.2.2.2.2.1.2.2.2.1
        refine R_aload_n 44 rfl dX5_readLines_43 rfl ?_
        refine R_getI 3 47 rfl dX5_readLines_44 rfl rfl fl_X5_40 ?_
        refine R_if_eq 50 67 rfl rfl dX5_readLines_47 (by first | assumption | exact ⟨by omega, by omega⟩) (fun h47 => ?_) (fun h47 => ?_)
        · refine R_iload_n 68 rfl dX5_readLines_67 rfl ?_
          refine R_ireturn dX5_readLines_68 rfl ?_
          first
          | (exfalso; omega)
          | (rw [if_pos (by omega)] at e0
             refine QI_mk ⟨hf, by rw [e0]; exact hx, fun n' s' h => ?_⟩
             rw [e0] at h
             cases h
             exact hz)
        · refine R_iload_n 51 rfl dX5_readLines_50 rfl ?_
          refine R_sipush 54 rfl dX5_readLines_51 (by decide) ?_
          refine R_icmp_ge 57 67 rfl rfl dX5_readLines_54 (by first | assumption | exact ⟨by omega, by omega⟩) (by first | assumption | exact ⟨by omega, by omega⟩) (fun h54 => ?_) (fun h54 => ?_)
          · refine R_iload_n 68 rfl dX5_readLines_67 rfl ?_
            refine R_ireturn dX5_readLines_68 rfl ?_
            first
            | (exfalso; omega)
            | (rw [if_pos (by omega)] at e0
               refine QI_mk ⟨hf, by rw [e0]; exact hx, fun n' s' h => ?_⟩
               rw [e0] at h
               cases h
               exact hz)
          · refine R_aload_n 58 rfl dX5_readLines_57 rfl ?_
            refine R_callV_V (M' := mX5_takeLine) 61 rfl dX5_readLines_58 ml_X5_43 kmX5_takeLine im_X5_takeLine se_X5_takeLine rfl ⟨by decide, rfl⟩ (c_X5_takeLine17 s hΓ (hb0.fr hf rfl rfl) hx) rfl rfl ⟨Nat.le_of_ble_eq_true rfl, Nat.le_of_ble_eq_true rfl⟩ (Nat.le_of_ble_eq_true rfl) ⟨Nat.le_of_ble_eq_true rfl, Nat.le_of_ble_eq_true rfl⟩ ?_
            rintro m58 h58
            obtain ⟨f58, p58⟩ := h58
            refine R_iinc [_, _, _, _] 64 rfl dX5_readLines_61 rfl rfl (by decide) ?_
            refine R_goto 43 rfl dX5_readLines_64 ?_
            rw [if_neg (by omega)] at e0
            exact ih (n + 1) (by omega) _ (by omega) _ _ (hf.tr f58) p58 e0
  refine R_aload_n 1 rfl dX5_readLines_0 rfl ?_
  refine R_aload_n 2 rfl dX5_readLines_1 rfl ?_
  refine R_putP 0 5 rfl dX5_readLines_2 rfl rfl fl_X5_9 ?_
  refine R_aload_n 6 rfl dX5_readLines_5 rfl ?_
  refine R_aload_n 7 rfl dX5_readLines_6 rfl ?_
  refine R_putP 1 10 rfl dX5_readLines_7 rfl rfl fl_X5_15 ?_
  refine R_aload_n 11 rfl dX5_readLines_10 rfl ?_
  refine R_getP 1 14 rfl dX5_readLines_11 rfl rfl fl_X5_15 rfl ?_
  refine R_callV_V (M' := mX4_clear) 17 rfl dX5_readLines_14 ml_X5_19 kmX4_clear im_X4_clear se_X4_clear rfl ⟨by decide, rfl⟩ (c_X4_clear17 (m := rdM m 17) hPO.rd) rfl rfl ⟨Nat.le_of_ble_eq_true rfl, Nat.le_of_ble_eq_true rfl⟩ (Nat.le_of_ble_eq_true rfl) ⟨Nat.le_of_ble_eq_true rfl, Nat.le_of_ble_eq_true rfl⟩ ?_
  rintro m14 h14
  obtain ⟨f14, p14⟩ := h14
  have fs : Fr (isRD 17) (rdM m 17) (setI (setI (setI (setI m14 3 2 0) 3 6 0) 3 7 0) 3 8 0) := (((f14.set rfl).set rfl).set rfl).set rfl
  have bs := hb0.fr fs rfl rfl
  have ls : LdC 17 (setI (setI (setI (setI m14 3 2 0) 3 6 0) 3 7 0) 3 8 0) L0 := p14.fr (F := is3) ((((Fr.rf.set rfl).set rfl).set rfl).set rfl) is3_L
  refine R_aload_n 18 rfl dX5_readLines_17 rfl ?_
  refine R_iconst 19 rfl dX5_readLines_18 ?_
  refine R_putI 2 22 rfl dX5_readLines_19 rfl rfl fl_X5_24 ?_
  refine R_aload_n 23 rfl dX5_readLines_22 rfl ?_
  refine R_iconst 24 rfl dX5_readLines_23 ?_
  refine R_putI 6 27 rfl dX5_readLines_24 rfl rfl fl_X5_28 ?_
  refine R_aload_n 28 rfl dX5_readLines_27 rfl ?_
  refine R_iconst 29 rfl dX5_readLines_28 ?_
  refine R_putI 7 32 rfl dX5_readLines_29 rfl rfl fl_X5_31 ?_
  refine R_aload_n 33 rfl dX5_readLines_32 rfl ?_
  refine R_iconst 34 rfl dX5_readLines_33 ?_
  refine R_putI 8 37 rfl dX5_readLines_34 rfl rfl fl_X5_34 ?_
  refine R_aload_n 38 rfl dX5_readLines_37 rfl ?_
  refine R_callV_V (M' := mX5_advance) 41 rfl dX5_readLines_38 ml_X5_37 kmX5_advance im_X5_advance se_X5_advance rfl ⟨by decide, rfl⟩ (c_X5_advance (0, 0, 0, 0, L0) bs (by simp [setI]) (by simp [setI]) (by simp [setI]) (Nat.zero_le _) (by show 0 < 64; decide) ls ⟨by decide, by decide, by decide, by decide⟩) rfl rfl ⟨Nat.le_of_ble_eq_true rfl, Nat.le_of_ble_eq_true rfl⟩ (Nat.le_of_ble_eq_true rfl) ⟨Nat.le_of_ble_eq_true rfl, Nat.le_of_ble_eq_true rfl⟩ ?_
  rintro m38 h38
  obtain ⟨f38, p38⟩ := h38
  refine R_iconst 42 rfl dX5_readLines_41 ?_
  refine R_istore_n [_, _, _, _] 43 rfl dX5_readLines_42 rfl (by decide) ?_
  exact Lp 320 0 rfl _ rfl _ _ (fs.tr (f38.wk w3)) p38 rfl
end
