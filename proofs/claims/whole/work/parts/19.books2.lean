def sideM (m : Mem) (k : Nat) (put : Int) : Mem := setI (setI (setI (setI (setI m 36 k put) 37 k 0) 38 k 0) 39 k 0) 40 k 1
def bkAddM (m : Mem) (n : Nat) (p y t g b : Int) : Mem := setI (sideM (sideM (setI (setI (setI m 32 n p) 33 n y) 34 n t) (2 * n) g) (2 * n + 1) b) 30 0 ((n : Int) + 1)
def sideI (put : Int) (w : Nat) : Int := if w = 0 then put else if w = 4 then 1 else 0
def bkAdd (B : Bk) (p y t g b : Int) : Bk := (B.1 + 1, fun w k => if k = B.1 then (if w = 0 then p else if w = 1 then y else t) else B.2.1 w k, fun w k => if k = 2 * B.1 then sideI g w else if k = 2 * B.1 + 1 then sideI b w else B.2.2 w k)
def cpyB (m : Mem) (sp dp c sp2 dp2 c2 p0 p1 p2 s0 s1 s2 s3 s4 q0 q1 q2 t0 t1 t2 t3 t4 : Nat) : Mem := cpyI (cpyI (cpyI (cpyI (cpyI (cpyI (cpyI (cpyI m p0 q0 sp dp c) p1 q1 sp dp c) p2 q2 sp dp c) s0 t0 sp2 dp2 c2) s1 t1 sp2 dp2 c2) s2 t2 sp2 dp2 c2) s3 t3 sp2 dp2 c2) s4 t4 sp2 dp2 c2
def bkDropM (m : Mem) (n k : Nat) : Mem := setI (cpyB m (k + 1) k (n - k - 1) (2 * k + 2) (2 * k) (2 * (n - k - 1)) 32 33 34 36 37 38 39 40 32 33 34 36 37 38 39 40) 30 0 ((n : Int) - 1)
def bkDrop (B : Bk) (i : Nat) : Bk := (B.1 - 1, fun w k => if k < i then B.2.1 w k else B.2.1 w (k + 1), fun w k => if k < 2 * i then B.2.2 w k else B.2.2 w (k + 2))
def isBk (o : Nat) : Bool := decide (30 ≤ o ∧ o ≤ 40)
theorem bkAdd_ok {m : Mem} {B : Bk} (h : Bk0 m B) (p y t g b : Int) : Bk0 (bkAddM m B.1 p y t g b) (bkAdd B p y t g b) := by
  refine ⟨by simp [bkAddM, bkAdd, setI], fun k hk => ?_, fun k hk => ?_⟩
  · have hk : k < B.1 + 1 := hk
    have h1 := h.2.1 k
    by_cases e : k = B.1
    · subst e; simp [bkAddM, bkAdd, sideM, setI]
    · have h1 := h1 (by omega)
      simp [bkAddM, bkAdd, sideM, setI, e]; exact h1
  · have hk : k < 2 * (B.1 + 1) := hk
    have h1 := h.2.2 k
    by_cases e : k = 2 * B.1
    · subst e; simp [bkAddM, bkAdd, sideM, setI, sideI]
    · by_cases e2 : k = 2 * B.1 + 1
      · subst e2; simp [bkAddM, bkAdd, sideM, setI, sideI]
      · have h1 := h1 (by omega)
        simp [bkAddM, bkAdd, sideM, setI, sideI, e, e2]; exact h1
theorem bkAdd_fr (m : Mem) (n : Nat) (p y t g b : Int) : Fr isBk m (bkAddM m n p y t g b) := by
  unfold bkAddM sideM
  refine Fr.set (Fr.set (Fr.set (Fr.set (Fr.set (Fr.set (Fr.set (Fr.set (Fr.set (Fr.set (Fr.set (Fr.set (Fr.set (Fr.set Fr.rf ?_) ?_) ?_) ?_) ?_) ?_) ?_) ?_) ?_) ?_) ?_) ?_) ?_) ?_ <;> rfl
theorem Fr.cpy {F : Nat → Bool} {m m' : Mem} {a b sp dp c : Nat} (h : Fr F m m') (ho : F b = true) : Fr F m (cpyI m' a b sp dp c) := ⟨fun x j hx => by
  have : x ≠ b := fun e => by rw [e, ho] at hx; cases hx
  unfold cpyI
  simp only [this, false_and, if_false]
  exact h.1 x j hx, h.2⟩
theorem bkDrop_fr (m : Mem) (n k : Nat) : Fr isBk m (bkDropM m n k) := by
  unfold bkDropM cpyB
  refine Fr.set (Fr.cpy (Fr.cpy (Fr.cpy (Fr.cpy (Fr.cpy (Fr.cpy (Fr.cpy (Fr.cpy Fr.rf ?_) ?_) ?_) ?_) ?_) ?_) ?_) ?_) ?_ <;> rfl
theorem bkDrop_ok {m : Mem} {B : Bk} (h : Bk0 m B) (i : Nat) (hi : i < B.1) : Bk0 (bkDropM m B.1 i) (bkDrop B i) := by
  refine ⟨by simp [bkDropM, bkDrop, setI]; omega, fun k hk => ?_, fun k hk => ?_⟩
  · have hk : k < B.1 - 1 := hk
    by_cases e : k < i
    · have h1 := h.2.1 k (by omega)
      simp [bkDropM, bkDrop, cpyB, cpyI, setI, e, show ¬ i ≤ k by omega]; exact h1
    · have h1 := h.2.1 (k + 1) (by omega)
      simp [bkDropM, bkDrop, cpyB, cpyI, setI, e, show i ≤ k by omega, show k < i + (B.1 - i - 1) by omega, show i + 1 + (k - i) = k + 1 by omega]; exact h1
  · have hk : k < 2 * (B.1 - 1) := hk
    by_cases e : k < 2 * i
    · have h1 := h.2.2 k (by omega)
      simp [bkDropM, bkDrop, cpyB, cpyI, setI, e, show ¬ 2 * i ≤ k by omega]; exact h1
    · have h1 := h.2.2 (k + 2) (by omega)
      simp [bkDropM, bkDrop, cpyB, cpyI, setI, e, show 2 * i ≤ k by omega, show k < 2 * i + 2 * (B.1 - i - 1) by omega, show 2 * i + 2 + (k - 2 * i) = k + 2 by omega]; exact h1
section
variable {Γ : GX} {m : Mem} {B : Bk} {np : Int} {o d : Nat}
theorem c_X0_startSide (z put : Int) (k : Nat) (hPO : PO o d m) (hz : z = (k : Int)) (hk : k < 80) : C Γ mX0_startSide 0 0 0 0 [vr 30, vi z, vi put] SH m (Qv SH (sideM m k put)) := by
  refine C_of_R rfl (Nat.le_of_ble_eq_true rfl) ?_
  subst hz
  have hP := hPO.2
  refine R_aload_n 1 rfl dX0_startSide_0 rfl ?_
  refine R_getP 2 4 rfl dX0_startSide_1 rfl rfl fl_X0_20 (hP _ _ _ rfl) ?_
  refine R_iconst 5 rfl dX0_startSide_4 ?_
  refine R_aald 0 6 rfl dX0_startSide_5 rfl rfl (by first | rfl | omega) (by decide) (by decide) (hP _ _ _ rfl) ?_
  refine R_iload_n 7 rfl dX0_startSide_6 rfl ?_
  refine R_iload_n 8 rfl dX0_startSide_7 rfl ?_
  refine R_iast k 9 rfl dX0_startSide_8 rfl (by first | rfl | omega) (by omega) (by decide) ?_
  refine R_aload_n 10 rfl dX0_startSide_9 rfl ?_
  refine R_getP 2 13 rfl dX0_startSide_10 rfl rfl fl_X0_20 (hP _ _ _ rfl) ?_
  refine R_iconst 14 rfl dX0_startSide_13 ?_
  refine R_aald 1 15 rfl dX0_startSide_14 rfl rfl (by first | rfl | omega) (by decide) (by decide) (hP _ _ _ rfl) ?_
  refine R_iload_n 16 rfl dX0_startSide_15 rfl ?_
  refine R_iconst 17 rfl dX0_startSide_16 ?_
  refine R_iast k 18 rfl dX0_startSide_17 rfl (by first | rfl | omega) (by omega) (by decide) ?_
  refine R_aload_n 19 rfl dX0_startSide_18 rfl ?_
  refine R_getP 2 22 rfl dX0_startSide_19 rfl rfl fl_X0_20 (hP _ _ _ rfl) ?_
  refine R_iconst 23 rfl dX0_startSide_22 ?_
  refine R_aald 2 24 rfl dX0_startSide_23 rfl rfl (by first | rfl | omega) (by decide) (by decide) (hP _ _ _ rfl) ?_
  refine R_iload_n 25 rfl dX0_startSide_24 rfl ?_
  refine R_iconst 26 rfl dX0_startSide_25 ?_
  refine R_iast k 27 rfl dX0_startSide_26 rfl (by first | rfl | omega) (by omega) (by decide) ?_
  refine R_aload_n 28 rfl dX0_startSide_27 rfl ?_
  refine R_getP 2 31 rfl dX0_startSide_28 rfl rfl fl_X0_20 (hP _ _ _ rfl) ?_
  refine R_iconst 32 rfl dX0_startSide_31 ?_
  refine R_aald 3 33 rfl dX0_startSide_32 rfl rfl (by first | rfl | omega) (by decide) (by decide) (hP _ _ _ rfl) ?_
  refine R_iload_n 34 rfl dX0_startSide_33 rfl ?_
  refine R_iconst 35 rfl dX0_startSide_34 ?_
  refine R_iast k 36 rfl dX0_startSide_35 rfl (by first | rfl | omega) (by omega) (by decide) ?_
  refine R_aload_n 37 rfl dX0_startSide_36 rfl ?_
  refine R_getP 2 40 rfl dX0_startSide_37 rfl rfl fl_X0_20 (hP _ _ _ rfl) ?_
  refine R_iconst 41 rfl dX0_startSide_40 ?_
  refine R_aald 4 42 rfl dX0_startSide_41 rfl rfl (by first | rfl | omega) (by decide) (by decide) (hP _ _ _ rfl) ?_
  refine R_iload_n 43 rfl dX0_startSide_42 rfl ?_
  refine R_iconst 44 rfl dX0_startSide_43 ?_
  refine R_iast k 45 rfl dX0_startSide_44 rfl (by first | rfl | omega) (by omega) (by decide) ?_
  refine R_return dX0_startSide_45 rfl ?_
  exact Qv_mk rfl
theorem c_X0_append (p y t g b : Int) (hPO : PO o d m) (hB : Bk0 m B) (hn : B.1 < 40) : C Γ mX0_append 1 40 0 0 [vr 30, vi p, vi y, vi t, vi g, vi b] SH m (Qi SH (bkAddM m B.1 p y t g b) (B.1 : Int)) := by
  refine C_of_R rfl (Nat.le_of_ble_eq_true rfl) ?_
  have h0 := hB.1
  have hP := hPO.2
  refine R_aload_n 1 rfl dX0_append_0 rfl ?_
  refine R_getI 0 4 rfl dX0_append_1 rfl rfl fl_X0_9 ?_
  refine R_istore [_, _, _, _, _, _, _] 6 rfl dX0_append_4 rfl (by decide) ?_
  refine R_aload_n 7 rfl dX0_append_6 rfl ?_
  refine R_getP 1 10 rfl dX0_append_7 rfl rfl fl_X0_17 (hP _ _ _ rfl) ?_
  refine R_iconst 11 rfl dX0_append_10 ?_
  refine R_aald 0 12 rfl dX0_append_11 rfl rfl (by first | rfl | omega) (by decide) (by decide) (hP _ _ _ rfl) ?_
  refine R_iload 14 rfl dX0_append_12 rfl ?_
  refine R_iload_n 15 rfl dX0_append_14 rfl ?_
  refine R_iast B.1 16 rfl dX0_append_15 rfl (by first | rfl | omega) (by omega) (by decide) ?_
  refine R_aload_n 17 rfl dX0_append_16 rfl ?_
  refine R_getP 1 20 rfl dX0_append_17 rfl rfl fl_X0_17 (hP _ _ _ rfl) ?_
  refine R_iconst 21 rfl dX0_append_20 ?_
  refine R_aald 1 22 rfl dX0_append_21 rfl rfl (by first | rfl | omega) (by decide) (by decide) (hP _ _ _ rfl) ?_
  refine R_iload 24 rfl dX0_append_22 rfl ?_
  refine R_iload_n 25 rfl dX0_append_24 rfl ?_
  refine R_iast B.1 26 rfl dX0_append_25 rfl (by first | rfl | omega) (by omega) (by decide) ?_
  refine R_aload_n 27 rfl dX0_append_26 rfl ?_
  refine R_getP 1 30 rfl dX0_append_27 rfl rfl fl_X0_17 (hP _ _ _ rfl) ?_
  refine R_iconst 31 rfl dX0_append_30 ?_
  refine R_aald 2 32 rfl dX0_append_31 rfl rfl (by first | rfl | omega) (by decide) (by decide) (hP _ _ _ rfl) ?_
  refine R_iload 34 rfl dX0_append_32 rfl ?_
  refine R_iload_n 35 rfl dX0_append_34 rfl ?_
  refine R_iast B.1 36 rfl dX0_append_35 rfl (by first | rfl | omega) (by omega) (by decide) ?_
  refine R_aload_n 37 rfl dX0_append_36 rfl ?_
  refine R_iconst 38 rfl dX0_append_37 ?_
  refine R_iload 40 rfl dX0_append_38 rfl ?_
  refine R_imul 41 rfl dX0_append_40 ?_
  refine R_iload 43 rfl dX0_append_41 rfl ?_
  refine R_callV_v (M' := mX0_startSide) 46 rfl dX0_append_43 ml_X0_23 kmX0_startSide im_X0_startSide se_X0_startSide rfl ⟨by decide, rfl⟩ (c_X0_startSide _ _ (2 * B.1) (o := o) (d := d) ⟨hPO.1, hP⟩ (by omega) (by omega)) rfl rfl ⟨Nat.le_of_ble_eq_true rfl, Nat.le_of_ble_eq_true rfl⟩ (Nat.le_of_ble_eq_true rfl) ⟨Nat.le_of_ble_eq_true rfl, Nat.le_of_ble_eq_true rfl⟩ ?_
  refine R_aload_n 47 rfl dX0_append_46 rfl ?_
  refine R_iconst 48 rfl dX0_append_47 ?_
  refine R_iload 50 rfl dX0_append_48 rfl ?_
  refine R_imul 51 rfl dX0_append_50 ?_
  refine R_iconst 52 rfl dX0_append_51 ?_
  refine R_iadd 53 rfl dX0_append_52 ?_
  refine R_iload 55 rfl dX0_append_53 rfl ?_
  refine R_callV_v (M' := mX0_startSide) 58 rfl dX0_append_55 ml_X0_23 kmX0_startSide im_X0_startSide se_X0_startSide rfl ⟨by decide, rfl⟩ (c_X0_startSide _ _ (2 * B.1 + 1) (o := o) (d := d) ⟨hPO.1, hP⟩ (by omega) (by omega)) rfl rfl ⟨Nat.le_of_ble_eq_true rfl, Nat.le_of_ble_eq_true rfl⟩ (Nat.le_of_ble_eq_true rfl) ⟨Nat.le_of_ble_eq_true rfl, Nat.le_of_ble_eq_true rfl⟩ ?_
  refine R_aload_n 59 rfl dX0_append_58 rfl ?_
  refine R_dup 60 rfl dX0_append_59 rfl ?_
  refine R_getI 0 63 rfl dX0_append_60 rfl rfl fl_X0_9 ?_
  refine R_iconst 64 rfl dX0_append_63 ?_
  refine R_iadd 65 rfl dX0_append_64 ?_
  refine R_putI 0 68 rfl dX0_append_65 rfl rfl fl_X0_9 ?_
  refine R_iload 70 rfl dX0_append_68 rfl ?_
  refine R_ireturn dX0_append_70 rfl ?_
  exact Qi_mm h0 (by unfold bkAddM; congr 1; simp [sideM, setI, h0])
theorem c_X0_drop (z : Int) (i : Nat) (hPO : PO o d m) (hB : Bk0 m B) (hz : z = (i : Int)) (hi : i < B.1) (hn : B.1 ≤ 40) : C Γ mX0_drop 1 60 0 0 [vr 30, vi z] SH m (Qv SH (bkDropM m B.1 i)) := by
  refine C_of_R rfl (Nat.le_of_ble_eq_true rfl) ?_
  subst hz
  have h0 := hB.1
  have hP := hPO.2
  refine R_aload_n 1 rfl dX0_drop_0 rfl ?_
  refine R_getI 0 4 rfl dX0_drop_1 rfl rfl fl_X0_9 ?_
  refine R_iload_n 5 rfl dX0_drop_4 rfl ?_
  refine R_isub 6 rfl dX0_drop_5 ?_
  refine R_iconst 7 rfl dX0_drop_6 ?_
  refine R_isub 8 rfl dX0_drop_7 ?_
  refine R_istore_n [_, _, _, _] 9 rfl dX0_drop_8 rfl (by decide) ?_
  refine R_iconst 10 rfl dX0_drop_9 ?_
  refine R_istore_n [_, _, _, _] 11 rfl dX0_drop_10 rfl (by decide) ?_
  refine R_iload_n 12 rfl dX0_drop_11 rfl ?_
  refine R_aload_n 13 rfl dX0_drop_12 rfl ?_
  refine R_getP 1 16 rfl dX0_drop_13 rfl rfl fl_X0_17 (hP _ _ _ rfl) ?_
  refine R_alen 17 rfl dX0_drop_16 rfl rfl ?_
  refine R_icmp_ge 20 46 rfl rfl dX0_drop_17 (by first | assumption | exact ⟨by omega, by omega⟩) (by first | assumption | exact ⟨by omega, by omega⟩) (fun h17 => ?_) (fun h17 => ?_)
  · exact absurd h17 (by omega)
  refine R_aload_n 21 rfl dX0_drop_20 rfl ?_
  refine R_getP 1 24 rfl dX0_drop_21 rfl rfl fl_X0_17 (hP _ _ _ rfl) ?_
  refine R_iload_n 25 rfl dX0_drop_24 rfl ?_
  refine R_aald 0 26 rfl dX0_drop_25 rfl rfl (by first | rfl | omega) (by decide) (by decide) (hP _ _ _ rfl) ?_
  refine R_iload_n 27 rfl dX0_drop_26 rfl ?_
  refine R_iconst 28 rfl dX0_drop_27 ?_
  refine R_iadd 29 rfl dX0_drop_28 ?_
  refine R_aload_n 30 rfl dX0_drop_29 rfl ?_
  refine R_getP 1 33 rfl dX0_drop_30 rfl rfl fl_X0_17 (hP _ _ _ rfl) ?_
  refine R_iload_n 34 rfl dX0_drop_33 rfl ?_
  refine R_aald 0 35 rfl dX0_drop_34 rfl rfl (by first | rfl | omega) (by decide) (by decide) (hP _ _ _ rfl) ?_
  refine R_iload_n 36 rfl dX0_drop_35 rfl ?_
  refine R_iload_n 37 rfl dX0_drop_36 rfl ?_
  refine R_acopy (i + 1) i (B.1 - i - 1) 40 rfl dX0_drop_37 ml_X0_27 rfl rfl (by first | rfl | omega) (by first | rfl | omega) (by first | rfl | omega) (by omega) (by omega) (by decide) (Nat.le_of_ble_eq_true rfl) ⟨Nat.le_of_ble_eq_true rfl, Nat.le_of_ble_eq_true rfl⟩ ?_
  refine R_iinc [_, _, _, _] 43 rfl dX0_drop_40 rfl rfl (by decide) ?_
  refine R_goto 11 rfl dX0_drop_43 ?_
  refine R_iload_n 12 rfl dX0_drop_11 rfl ?_
  refine R_aload_n 13 rfl dX0_drop_12 rfl ?_
  refine R_getP 1 16 rfl dX0_drop_13 rfl rfl fl_X0_17 (hP _ _ _ rfl) ?_
  refine R_alen 17 rfl dX0_drop_16 rfl rfl ?_
  refine R_icmp_ge 20 46 rfl rfl dX0_drop_17 (by first | assumption | exact ⟨by omega, by omega⟩) (by first | assumption | exact ⟨by omega, by omega⟩) (fun h17 => ?_) (fun h17 => ?_)
  · exact absurd h17 (by omega)
  refine R_aload_n 21 rfl dX0_drop_20 rfl ?_
  refine R_getP 1 24 rfl dX0_drop_21 rfl rfl fl_X0_17 (hP _ _ _ rfl) ?_
  refine R_iload_n 25 rfl dX0_drop_24 rfl ?_
  refine R_aald 1 26 rfl dX0_drop_25 rfl rfl (by first | rfl | omega) (by decide) (by decide) (hP _ _ _ rfl) ?_
  refine R_iload_n 27 rfl dX0_drop_26 rfl ?_
  refine R_iconst 28 rfl dX0_drop_27 ?_
  refine R_iadd 29 rfl dX0_drop_28 ?_
  refine R_aload_n 30 rfl dX0_drop_29 rfl ?_
  refine R_getP 1 33 rfl dX0_drop_30 rfl rfl fl_X0_17 (hP _ _ _ rfl) ?_
  refine R_iload_n 34 rfl dX0_drop_33 rfl ?_
  refine R_aald 1 35 rfl dX0_drop_34 rfl rfl (by first | rfl | omega) (by decide) (by decide) (hP _ _ _ rfl) ?_
  refine R_iload_n 36 rfl dX0_drop_35 rfl ?_
  refine R_iload_n 37 rfl dX0_drop_36 rfl ?_
  refine R_acopy (i + 1) i (B.1 - i - 1) 40 rfl dX0_drop_37 ml_X0_27 rfl rfl (by first | rfl | omega) (by first | rfl | omega) (by first | rfl | omega) (by omega) (by omega) (by decide) (Nat.le_of_ble_eq_true rfl) ⟨Nat.le_of_ble_eq_true rfl, Nat.le_of_ble_eq_true rfl⟩ ?_
  refine R_iinc [_, _, _, _] 43 rfl dX0_drop_40 rfl rfl (by decide) ?_
  refine R_goto 11 rfl dX0_drop_43 ?_
  refine R_iload_n 12 rfl dX0_drop_11 rfl ?_
  refine R_aload_n 13 rfl dX0_drop_12 rfl ?_
  refine R_getP 1 16 rfl dX0_drop_13 rfl rfl fl_X0_17 (hP _ _ _ rfl) ?_
  refine R_alen 17 rfl dX0_drop_16 rfl rfl ?_
  refine R_icmp_ge 20 46 rfl rfl dX0_drop_17 (by first | assumption | exact ⟨by omega, by omega⟩) (by first | assumption | exact ⟨by omega, by omega⟩) (fun h17 => ?_) (fun h17 => ?_)
  · exact absurd h17 (by omega)
  refine R_aload_n 21 rfl dX0_drop_20 rfl ?_
  refine R_getP 1 24 rfl dX0_drop_21 rfl rfl fl_X0_17 (hP _ _ _ rfl) ?_
  refine R_iload_n 25 rfl dX0_drop_24 rfl ?_
  refine R_aald 2 26 rfl dX0_drop_25 rfl rfl (by first | rfl | omega) (by decide) (by decide) (hP _ _ _ rfl) ?_
  refine R_iload_n 27 rfl dX0_drop_26 rfl ?_
  refine R_iconst 28 rfl dX0_drop_27 ?_
  refine R_iadd 29 rfl dX0_drop_28 ?_
  refine R_aload_n 30 rfl dX0_drop_29 rfl ?_
  refine R_getP 1 33 rfl dX0_drop_30 rfl rfl fl_X0_17 (hP _ _ _ rfl) ?_
  refine R_iload_n 34 rfl dX0_drop_33 rfl ?_
  refine R_aald 2 35 rfl dX0_drop_34 rfl rfl (by first | rfl | omega) (by decide) (by decide) (hP _ _ _ rfl) ?_
  refine R_iload_n 36 rfl dX0_drop_35 rfl ?_
  refine R_iload_n 37 rfl dX0_drop_36 rfl ?_
  refine R_acopy (i + 1) i (B.1 - i - 1) 40 rfl dX0_drop_37 ml_X0_27 rfl rfl (by first | rfl | omega) (by first | rfl | omega) (by first | rfl | omega) (by omega) (by omega) (by decide) (Nat.le_of_ble_eq_true rfl) ⟨Nat.le_of_ble_eq_true rfl, Nat.le_of_ble_eq_true rfl⟩ ?_
  refine R_iinc [_, _, _, _] 43 rfl dX0_drop_40 rfl rfl (by decide) ?_
  refine R_goto 11 rfl dX0_drop_43 ?_
  refine R_iload_n 12 rfl dX0_drop_11 rfl ?_
  refine R_aload_n 13 rfl dX0_drop_12 rfl ?_
  refine R_getP 1 16 rfl dX0_drop_13 rfl rfl fl_X0_17 (hP _ _ _ rfl) ?_
  refine R_alen 17 rfl dX0_drop_16 rfl rfl ?_
  refine R_icmp_ge 20 46 rfl rfl dX0_drop_17 (by first | assumption | exact ⟨by omega, by omega⟩) (by first | assumption | exact ⟨by omega, by omega⟩) (fun h17 => ?_) (fun h17 => ?_)
  rotate_left
  · exact absurd h17 (by omega)
  refine R_iconst 47 rfl dX0_drop_46 ?_
  refine R_istore_n [_, _, _, _] 48 rfl dX0_drop_47 rfl (by decide) ?_
  refine R_iload_n 49 rfl dX0_drop_48 rfl ?_
  refine R_aload_n 50 rfl dX0_drop_49 rfl ?_
  refine R_getP 2 53 rfl dX0_drop_50 rfl rfl fl_X0_20 (hP _ _ _ rfl) ?_
  refine R_alen 54 rfl dX0_drop_53 rfl rfl ?_
  refine R_icmp_ge 57 89 rfl rfl dX0_drop_54 (by first | assumption | exact ⟨by omega, by omega⟩) (by first | assumption | exact ⟨by omega, by omega⟩) (fun h54 => ?_) (fun h54 => ?_)
  · exact absurd h54 (by omega)
  refine R_aload_n 58 rfl dX0_drop_57 rfl ?_
  refine R_getP 2 61 rfl dX0_drop_58 rfl rfl fl_X0_20 (hP _ _ _ rfl) ?_
  refine R_iload_n 62 rfl dX0_drop_61 rfl ?_
  refine R_aald 0 63 rfl dX0_drop_62 rfl rfl (by first | rfl | omega) (by decide) (by decide) (hP _ _ _ rfl) ?_
  refine R_iconst 64 rfl dX0_drop_63 ?_
  refine R_iload_n 65 rfl dX0_drop_64 rfl ?_
  refine R_imul 66 rfl dX0_drop_65 ?_
  refine R_iconst 67 rfl dX0_drop_66 ?_
  refine R_iadd 68 rfl dX0_drop_67 ?_
  refine R_aload_n 69 rfl dX0_drop_68 rfl ?_
  refine R_getP 2 72 rfl dX0_drop_69 rfl rfl fl_X0_20 (hP _ _ _ rfl) ?_
  refine R_iload_n 73 rfl dX0_drop_72 rfl ?_
  refine R_aald 0 74 rfl dX0_drop_73 rfl rfl (by first | rfl | omega) (by decide) (by decide) (hP _ _ _ rfl) ?_
  refine R_iconst 75 rfl dX0_drop_74 ?_
  refine R_iload_n 76 rfl dX0_drop_75 rfl ?_
  refine R_imul 77 rfl dX0_drop_76 ?_
  refine R_iconst 78 rfl dX0_drop_77 ?_
  refine R_iload_n 79 rfl dX0_drop_78 rfl ?_
  refine R_imul 80 rfl dX0_drop_79 ?_
  refine R_acopy (2 * i + 2) (2 * i) (2 * (B.1 - i - 1)) 83 rfl dX0_drop_80 ml_X0_27 rfl rfl (by first | rfl | omega) (by first | rfl | omega) (by first | rfl | omega) (by omega) (by omega) (by decide) (Nat.le_of_ble_eq_true rfl) ⟨Nat.le_of_ble_eq_true rfl, Nat.le_of_ble_eq_true rfl⟩ ?_
  refine R_iinc [_, _, _, _] 86 rfl dX0_drop_83 rfl rfl (by decide) ?_
  refine R_goto 48 rfl dX0_drop_86 ?_
  refine R_iload_n 49 rfl dX0_drop_48 rfl ?_
  refine R_aload_n 50 rfl dX0_drop_49 rfl ?_
  refine R_getP 2 53 rfl dX0_drop_50 rfl rfl fl_X0_20 (hP _ _ _ rfl) ?_
  refine R_alen 54 rfl dX0_drop_53 rfl rfl ?_
  refine R_icmp_ge 57 89 rfl rfl dX0_drop_54 (by first | assumption | exact ⟨by omega, by omega⟩) (by first | assumption | exact ⟨by omega, by omega⟩) (fun h54 => ?_) (fun h54 => ?_)
  · exact absurd h54 (by omega)
  refine R_aload_n 58 rfl dX0_drop_57 rfl ?_
  refine R_getP 2 61 rfl dX0_drop_58 rfl rfl fl_X0_20 (hP _ _ _ rfl) ?_
  refine R_iload_n 62 rfl dX0_drop_61 rfl ?_
  refine R_aald 1 63 rfl dX0_drop_62 rfl rfl (by first | rfl | omega) (by decide) (by decide) (hP _ _ _ rfl) ?_
  refine R_iconst 64 rfl dX0_drop_63 ?_
  refine R_iload_n 65 rfl dX0_drop_64 rfl ?_
  refine R_imul 66 rfl dX0_drop_65 ?_
  refine R_iconst 67 rfl dX0_drop_66 ?_
  refine R_iadd 68 rfl dX0_drop_67 ?_
  refine R_aload_n 69 rfl dX0_drop_68 rfl ?_
  refine R_getP 2 72 rfl dX0_drop_69 rfl rfl fl_X0_20 (hP _ _ _ rfl) ?_
  refine R_iload_n 73 rfl dX0_drop_72 rfl ?_
  refine R_aald 1 74 rfl dX0_drop_73 rfl rfl (by first | rfl | omega) (by decide) (by decide) (hP _ _ _ rfl) ?_
  refine R_iconst 75 rfl dX0_drop_74 ?_
  refine R_iload_n 76 rfl dX0_drop_75 rfl ?_
  refine R_imul 77 rfl dX0_drop_76 ?_
  refine R_iconst 78 rfl dX0_drop_77 ?_
  refine R_iload_n 79 rfl dX0_drop_78 rfl ?_
  refine R_imul 80 rfl dX0_drop_79 ?_
  refine R_acopy (2 * i + 2) (2 * i) (2 * (B.1 - i - 1)) 83 rfl dX0_drop_80 ml_X0_27 rfl rfl (by first | rfl | omega) (by first | rfl | omega) (by first | rfl | omega) (by omega) (by omega) (by decide) (Nat.le_of_ble_eq_true rfl) ⟨Nat.le_of_ble_eq_true rfl, Nat.le_of_ble_eq_true rfl⟩ ?_
  refine R_iinc [_, _, _, _] 86 rfl dX0_drop_83 rfl rfl (by decide) ?_
  refine R_goto 48 rfl dX0_drop_86 ?_
  refine R_iload_n 49 rfl dX0_drop_48 rfl ?_
  refine R_aload_n 50 rfl dX0_drop_49 rfl ?_
  refine R_getP 2 53 rfl dX0_drop_50 rfl rfl fl_X0_20 (hP _ _ _ rfl) ?_
  refine R_alen 54 rfl dX0_drop_53 rfl rfl ?_
  refine R_icmp_ge 57 89 rfl rfl dX0_drop_54 (by first | assumption | exact ⟨by omega, by omega⟩) (by first | assumption | exact ⟨by omega, by omega⟩) (fun h54 => ?_) (fun h54 => ?_)
  · exact absurd h54 (by omega)
  refine R_aload_n 58 rfl dX0_drop_57 rfl ?_
  refine R_getP 2 61 rfl dX0_drop_58 rfl rfl fl_X0_20 (hP _ _ _ rfl) ?_
  refine R_iload_n 62 rfl dX0_drop_61 rfl ?_
  refine R_aald 2 63 rfl dX0_drop_62 rfl rfl (by first | rfl | omega) (by decide) (by decide) (hP _ _ _ rfl) ?_
  refine R_iconst 64 rfl dX0_drop_63 ?_
  refine R_iload_n 65 rfl dX0_drop_64 rfl ?_
  refine R_imul 66 rfl dX0_drop_65 ?_
  refine R_iconst 67 rfl dX0_drop_66 ?_
  refine R_iadd 68 rfl dX0_drop_67 ?_
  refine R_aload_n 69 rfl dX0_drop_68 rfl ?_
  refine R_getP 2 72 rfl dX0_drop_69 rfl rfl fl_X0_20 (hP _ _ _ rfl) ?_
  refine R_iload_n 73 rfl dX0_drop_72 rfl ?_
  refine R_aald 2 74 rfl dX0_drop_73 rfl rfl (by first | rfl | omega) (by decide) (by decide) (hP _ _ _ rfl) ?_
  refine R_iconst 75 rfl dX0_drop_74 ?_
  refine R_iload_n 76 rfl dX0_drop_75 rfl ?_
  refine R_imul 77 rfl dX0_drop_76 ?_
  refine R_iconst 78 rfl dX0_drop_77 ?_
  refine R_iload_n 79 rfl dX0_drop_78 rfl ?_
  refine R_imul 80 rfl dX0_drop_79 ?_
  refine R_acopy (2 * i + 2) (2 * i) (2 * (B.1 - i - 1)) 83 rfl dX0_drop_80 ml_X0_27 rfl rfl (by first | rfl | omega) (by first | rfl | omega) (by first | rfl | omega) (by omega) (by omega) (by decide) (Nat.le_of_ble_eq_true rfl) ⟨Nat.le_of_ble_eq_true rfl, Nat.le_of_ble_eq_true rfl⟩ ?_
  refine R_iinc [_, _, _, _] 86 rfl dX0_drop_83 rfl rfl (by decide) ?_
  refine R_goto 48 rfl dX0_drop_86 ?_
  refine R_iload_n 49 rfl dX0_drop_48 rfl ?_
  refine R_aload_n 50 rfl dX0_drop_49 rfl ?_
  refine R_getP 2 53 rfl dX0_drop_50 rfl rfl fl_X0_20 (hP _ _ _ rfl) ?_
  refine R_alen 54 rfl dX0_drop_53 rfl rfl ?_
  refine R_icmp_ge 57 89 rfl rfl dX0_drop_54 (by first | assumption | exact ⟨by omega, by omega⟩) (by first | assumption | exact ⟨by omega, by omega⟩) (fun h54 => ?_) (fun h54 => ?_)
  · exact absurd h54 (by omega)
  refine R_aload_n 58 rfl dX0_drop_57 rfl ?_
  refine R_getP 2 61 rfl dX0_drop_58 rfl rfl fl_X0_20 (hP _ _ _ rfl) ?_
  refine R_iload_n 62 rfl dX0_drop_61 rfl ?_
  refine R_aald 3 63 rfl dX0_drop_62 rfl rfl (by first | rfl | omega) (by decide) (by decide) (hP _ _ _ rfl) ?_
  refine R_iconst 64 rfl dX0_drop_63 ?_
  refine R_iload_n 65 rfl dX0_drop_64 rfl ?_
  refine R_imul 66 rfl dX0_drop_65 ?_
  refine R_iconst 67 rfl dX0_drop_66 ?_
  refine R_iadd 68 rfl dX0_drop_67 ?_
  refine R_aload_n 69 rfl dX0_drop_68 rfl ?_
  refine R_getP 2 72 rfl dX0_drop_69 rfl rfl fl_X0_20 (hP _ _ _ rfl) ?_
  refine R_iload_n 73 rfl dX0_drop_72 rfl ?_
  refine R_aald 3 74 rfl dX0_drop_73 rfl rfl (by first | rfl | omega) (by decide) (by decide) (hP _ _ _ rfl) ?_
  refine R_iconst 75 rfl dX0_drop_74 ?_
  refine R_iload_n 76 rfl dX0_drop_75 rfl ?_
  refine R_imul 77 rfl dX0_drop_76 ?_
  refine R_iconst 78 rfl dX0_drop_77 ?_
  refine R_iload_n 79 rfl dX0_drop_78 rfl ?_
  refine R_imul 80 rfl dX0_drop_79 ?_
  refine R_acopy (2 * i + 2) (2 * i) (2 * (B.1 - i - 1)) 83 rfl dX0_drop_80 ml_X0_27 rfl rfl (by first | rfl | omega) (by first | rfl | omega) (by first | rfl | omega) (by omega) (by omega) (by decide) (Nat.le_of_ble_eq_true rfl) ⟨Nat.le_of_ble_eq_true rfl, Nat.le_of_ble_eq_true rfl⟩ ?_
  refine R_iinc [_, _, _, _] 86 rfl dX0_drop_83 rfl rfl (by decide) ?_
  refine R_goto 48 rfl dX0_drop_86 ?_
  refine R_iload_n 49 rfl dX0_drop_48 rfl ?_
  refine R_aload_n 50 rfl dX0_drop_49 rfl ?_
  refine R_getP 2 53 rfl dX0_drop_50 rfl rfl fl_X0_20 (hP _ _ _ rfl) ?_
  refine R_alen 54 rfl dX0_drop_53 rfl rfl ?_
  refine R_icmp_ge 57 89 rfl rfl dX0_drop_54 (by first | assumption | exact ⟨by omega, by omega⟩) (by first | assumption | exact ⟨by omega, by omega⟩) (fun h54 => ?_) (fun h54 => ?_)
  · exact absurd h54 (by omega)
  refine R_aload_n 58 rfl dX0_drop_57 rfl ?_
  refine R_getP 2 61 rfl dX0_drop_58 rfl rfl fl_X0_20 (hP _ _ _ rfl) ?_
  refine R_iload_n 62 rfl dX0_drop_61 rfl ?_
  refine R_aald 4 63 rfl dX0_drop_62 rfl rfl (by first | rfl | omega) (by decide) (by decide) (hP _ _ _ rfl) ?_
  refine R_iconst 64 rfl dX0_drop_63 ?_
  refine R_iload_n 65 rfl dX0_drop_64 rfl ?_
  refine R_imul 66 rfl dX0_drop_65 ?_
  refine R_iconst 67 rfl dX0_drop_66 ?_
  refine R_iadd 68 rfl dX0_drop_67 ?_
  refine R_aload_n 69 rfl dX0_drop_68 rfl ?_
  refine R_getP 2 72 rfl dX0_drop_69 rfl rfl fl_X0_20 (hP _ _ _ rfl) ?_
  refine R_iload_n 73 rfl dX0_drop_72 rfl ?_
  refine R_aald 4 74 rfl dX0_drop_73 rfl rfl (by first | rfl | omega) (by decide) (by decide) (hP _ _ _ rfl) ?_
  refine R_iconst 75 rfl dX0_drop_74 ?_
  refine R_iload_n 76 rfl dX0_drop_75 rfl ?_
  refine R_imul 77 rfl dX0_drop_76 ?_
  refine R_iconst 78 rfl dX0_drop_77 ?_
  refine R_iload_n 79 rfl dX0_drop_78 rfl ?_
  refine R_imul 80 rfl dX0_drop_79 ?_
  refine R_acopy (2 * i + 2) (2 * i) (2 * (B.1 - i - 1)) 83 rfl dX0_drop_80 ml_X0_27 rfl rfl (by first | rfl | omega) (by first | rfl | omega) (by first | rfl | omega) (by omega) (by omega) (by decide) (Nat.le_of_ble_eq_true rfl) ⟨Nat.le_of_ble_eq_true rfl, Nat.le_of_ble_eq_true rfl⟩ ?_
  refine R_iinc [_, _, _, _] 86 rfl dX0_drop_83 rfl rfl (by decide) ?_
  refine R_goto 48 rfl dX0_drop_86 ?_
  refine R_iload_n 49 rfl dX0_drop_48 rfl ?_
  refine R_aload_n 50 rfl dX0_drop_49 rfl ?_
  refine R_getP 2 53 rfl dX0_drop_50 rfl rfl fl_X0_20 (hP _ _ _ rfl) ?_
  refine R_alen 54 rfl dX0_drop_53 rfl rfl ?_
  refine R_icmp_ge 57 89 rfl rfl dX0_drop_54 (by first | assumption | exact ⟨by omega, by omega⟩) (by first | assumption | exact ⟨by omega, by omega⟩) (fun h54 => ?_) (fun h54 => ?_)
  rotate_left
  · exact absurd h54 (by omega)
  refine R_aload_n 90 rfl dX0_drop_89 rfl ?_
  refine R_dup 91 rfl dX0_drop_90 rfl ?_
  refine R_getI 0 94 rfl dX0_drop_91 rfl rfl fl_X0_9 ?_
  refine R_iconst 95 rfl dX0_drop_94 ?_
  refine R_isub 96 rfl dX0_drop_95 ?_
  refine R_putI 0 99 rfl dX0_drop_96 rfl rfl fl_X0_9 ?_
  refine R_return dX0_drop_99 rfl ?_
  refine Qv_mk ?_
  unfold bkDropM cpyB
  congr 1
  simp [cpyI, h0]
end
