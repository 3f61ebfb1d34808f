/-! CrossOrName$Books (the marriages there are, place 30) -/
def Fr (F : Nat → Bool) (m m' : Mem) : Prop := (∀ o k, F o = false → m'.1 o k = m.1 o k) ∧ m'.2 = m.2
theorem Fr.rf {F : Nat → Bool} {m : Mem} : Fr F m m := ⟨fun _ _ _ => rfl, rfl⟩
theorem Fr.tr {F : Nat → Bool} {m m' m'' : Mem} (h : Fr F m m') (h' : Fr F m' m'') : Fr F m m'' := ⟨fun o k hf => (h'.1 o k hf).trans (h.1 o k hf), h'.2.trans h.2⟩
theorem Fr.wk {F G : Nat → Bool} {m m' : Mem} (h : Fr F m m') (hg : ∀ o, G o = false → F o = false) : Fr G m m' := ⟨fun o k hf => h.1 o k (hg o hf), h.2⟩
theorem Fr.set {F : Nat → Bool} {m m' : Mem} {o k : Nat} {z : Int} (h : Fr F m m') (ho : F o = true) : Fr F m (setI m' o k z) := ⟨fun a j ha => by
  have : a ≠ o := fun e => by rw [e, ho] at ha; cases ha
  unfold setI
  simp only [this, false_and, if_false]
  exact h.1 a j ha, h.2⟩
theorem up_ind {P : Nat → Prop} (N : Nat) (h : ∀ k, k ≤ N → (k < N → P (k + 1)) → P k) : ∀ k, k ≤ N → P k := by
  have key : ∀ f k, k + f = N → P k := by
    intro f
    induction f with
    | zero => intro k hk; exact h k (by omega) (fun q => by omega)
    | succ f ih => intro k hk; exact h k (by omega) (fun _ => ih (k + 1) (by omega))
  exact fun k hk => key (N - k) k (by omega)
def grp (B : Bk) (k : Nat) (g : Int) : Int := if g = 0 then B.2.1 0 (k / 2) else if g = 1 then B.2.1 2 (k / 2) else if g = 2 then ((k % 2 : Nat) : Int) else B.2.2 4 k
section
variable {Γ : GX} {m : Mem} {B : Bk} {np : Int} {o d : Nat}
theorem c_X0_marks (hB : Bk0 m B) : C Γ mX0_marks 0 0 0 0 [vr 30] SH m (Qi SH m (2 * (B.1 : Int))) := by
  refine C_of_R rfl (Nat.le_of_ble_eq_true rfl) ?_
  have h1 := hB.1
  refine R_iconst 1 rfl dX0_marks_0 ?_
  refine R_aload_n 2 rfl dX0_marks_1 rfl ?_
  refine R_getI 0 5 rfl dX0_marks_2 rfl rfl fl_X0_9 ?_
  refine R_imul 6 rfl dX0_marks_5 ?_
  refine R_ireturn dX0_marks_6 rfl ?_
  exact Qi_mk (by first | rfl | exact pI_1 (by omega) | exact pI_0 (by omega) | omega)
theorem c_X0_yearOf (z : Int) (k : Nat) (hP : PO o d m) (hB : Bk0 m B) (hz : z = (k : Int)) (hk : k < 2 * B.1) (hn : B.1 ≤ 40) : C Γ mX0_yearOf 0 0 0 0 [vr 30, vi z] SH m (Qi SH m (B.2.1 1 (k / 2))) := by
  refine C_of_R rfl (Nat.le_of_ble_eq_true rfl) ?_
  subst hz
  have hP := hP.2
  have h1 := (hB.2.1 (k / 2) (by omega)).2.1
  refine R_aload_n 1 rfl dX0_yearOf_0 rfl ?_
  refine R_getP 1 4 rfl dX0_yearOf_1 rfl rfl fl_X0_17 (hP _ _ _ rfl) ?_
  refine R_iconst 5 rfl dX0_yearOf_4 ?_
  refine R_aald 1 6 rfl dX0_yearOf_5 rfl rfl (by first | rfl | omega) (by decide) (by decide) (hP _ _ _ rfl) ?_
  refine R_iload_n 7 rfl dX0_yearOf_6 rfl ?_
  refine R_iconst 8 rfl dX0_yearOf_7 ?_
  refine R_idiv_p 9 rfl dX0_yearOf_8 (by first | assumption | exact ⟨by omega, by omega⟩) (by first | assumption | exact ⟨by omega, by omega⟩) (by omega) (by omega) ?_
  refine R_iald (k / 2) 10 rfl dX0_yearOf_9 rfl (by first | rfl | omega) (by omega) (by decide) ?_
  refine R_ireturn dX0_yearOf_10 rfl ?_
  exact Qi_mk h1
theorem c_X0_isOf (z p f : Int) (k : Nat) (hP : PO o d m) (hB : Bk0 m B) (hO : BkOk np B) (hz : z = (k : Int)) (hk : k < 2 * B.1) (hp : rg p) (hf : rg f) : C Γ mX0_isOf 0 0 0 0 [vr 30, vi z, vi p, vi f] SH m (Qi SH m (pI (B.2.2 3 k = p ∧ B.2.2 0 k = f))) := by
  refine C_of_R rfl (Nat.le_of_ble_eq_true rfl) ?_
  subst hz
  have hP := hP.2
  have h1 := hB.2.2 k hk
  have h2 := hO.2.2 k hk
  have h3 := hO.1
  refine R_aload_n 1 rfl dX0_isOf_0 rfl ?_
  refine R_getP 2 4 rfl dX0_isOf_1 rfl rfl fl_X0_20 (hP _ _ _ rfl) ?_
  refine R_iconst 5 rfl dX0_isOf_4 ?_
  refine R_aald 3 6 rfl dX0_isOf_5 rfl rfl (by first | rfl | omega) (by decide) (by decide) (hP _ _ _ rfl) ?_
  refine R_iload_n 7 rfl dX0_isOf_6 rfl ?_
  refine R_iald _ 8 rfl dX0_isOf_7 rfl (by first | rfl | omega) (by omega) (by decide) ?_
  refine R_iload_n 9 rfl dX0_isOf_8 rfl ?_
  refine R_icmp_ne 12 28 rfl rfl dX0_isOf_9 (by first | assumption | exact ⟨by omega, by omega⟩) (by first | assumption | exact ⟨by omega, by omega⟩) (fun h9 => ?_) (fun h9 => ?_)
  · refine R_iconst 29 rfl dX0_isOf_28 ?_
    refine R_zreturn dX0_isOf_29 rfl (by first | decide | exact pI_01 _) ?_
    exact Qi_mk (by first | rfl | exact pI_1 (by omega) | exact pI_0 (by omega) | omega)
  · refine R_aload_n 13 rfl dX0_isOf_12 rfl ?_
    refine R_getP 2 16 rfl dX0_isOf_13 rfl rfl fl_X0_20 (hP _ _ _ rfl) ?_
    refine R_iconst 17 rfl dX0_isOf_16 ?_
    refine R_aald 0 18 rfl dX0_isOf_17 rfl rfl (by first | rfl | omega) (by decide) (by decide) (hP _ _ _ rfl) ?_
    refine R_iload_n 19 rfl dX0_isOf_18 rfl ?_
    refine R_iald _ 20 rfl dX0_isOf_19 rfl (by first | rfl | omega) (by omega) (by decide) ?_
    refine R_iload_n 21 rfl dX0_isOf_20 rfl ?_
    refine R_icmp_ne 24 28 rfl rfl dX0_isOf_21 (by first | assumption | exact ⟨by omega, by omega⟩) (by first | assumption | exact ⟨by omega, by omega⟩) (fun h21 => ?_) (fun h21 => ?_)
    · refine R_iconst 29 rfl dX0_isOf_28 ?_
      refine R_zreturn dX0_isOf_29 rfl (by first | decide | exact pI_01 _) ?_
      exact Qi_mk (by first | rfl | exact pI_1 (by omega) | exact pI_0 (by omega) | omega)
    · refine R_iconst 25 rfl dX0_isOf_24 ?_
      refine R_goto 29 rfl dX0_isOf_25 ?_
      refine R_zreturn dX0_isOf_29 rfl (by first | decide | exact pI_01 _) ?_
      exact Qi_mk (by first | rfl | exact pI_1 (by omega) | exact pI_0 (by omega) | omega)
theorem c_X0_groupOf (z g : Int) (k : Nat) (hP : PO o d m) (hB : Bk0 m B) (hO : BkOk np B) (hz : z = (k : Int)) (hk : k < 2 * B.1) (hg : 0 ≤ g ∧ g ≤ 3) : C Γ mX0_groupOf 0 0 0 0 [vr 30, vi z, vi g] SH m (Qi SH m (grp B k g)) := by
  refine C_of_R rfl (Nat.le_of_ble_eq_true rfl) ?_
  subst hz
  have hP := hP.2
  have h1 := hB.2.2 k hk
  have h2 := hB.2.1 (k / 2) (by omega)
  have h3 := hO.1
  refine R_iload_n 1 rfl dX0_groupOf_0 rfl ?_
  rcases (show g < 0 ∨ 2 < g ∨ g = 0 ∨ g = 1 ∨ g = 2 by omega) with h1 | h1 | rfl | rfl | rfl
  · refine R_tsOut 54 dX0_groupOf_1 (by first | assumption | exact ⟨by omega, by omega⟩) (by omega) rfl ?_
    refine R_aload_n 55 rfl dX0_groupOf_54 rfl ?_
    refine R_getP 2 58 rfl dX0_groupOf_55 rfl rfl fl_X0_20 (hP _ _ _ rfl) ?_
    refine R_iconst 59 rfl dX0_groupOf_58 ?_
    refine R_aald 4 60 rfl dX0_groupOf_59 rfl rfl (by first | rfl | omega) (by decide) (by decide) (hP _ _ _ rfl) ?_
    refine R_iload_n 61 rfl dX0_groupOf_60 rfl ?_
    refine R_iald _ 62 rfl dX0_groupOf_61 rfl (by first | rfl | omega) (by omega) (by decide) ?_
    refine R_ireturn dX0_groupOf_62 rfl ?_
    exact Qi_mk (by unfold grp; simp <;> omega)
  · refine R_tsOut 54 dX0_groupOf_1 (by first | assumption | exact ⟨by omega, by omega⟩) (by omega) rfl ?_
    refine R_aload_n 55 rfl dX0_groupOf_54 rfl ?_
    refine R_getP 2 58 rfl dX0_groupOf_55 rfl rfl fl_X0_20 (hP _ _ _ rfl) ?_
    refine R_iconst 59 rfl dX0_groupOf_58 ?_
    refine R_aald 4 60 rfl dX0_groupOf_59 rfl rfl (by first | rfl | omega) (by decide) (by decide) (hP _ _ _ rfl) ?_
    refine R_iload_n 61 rfl dX0_groupOf_60 rfl ?_
    refine R_iald _ 62 rfl dX0_groupOf_61 rfl (by first | rfl | omega) (by omega) (by decide) ?_
    refine R_ireturn dX0_groupOf_62 rfl ?_
    exact Qi_mk (by unfold grp; simp <;> omega)
  · refine R_tsIn 28 dX0_groupOf_1 ⟨by omega, by omega⟩ (by omega) (by omega) rfl rfl ?_
    refine R_aload_n 29 rfl dX0_groupOf_28 rfl ?_
    refine R_getP 1 32 rfl dX0_groupOf_29 rfl rfl fl_X0_17 (hP _ _ _ rfl) ?_
    refine R_iconst 33 rfl dX0_groupOf_32 ?_
    refine R_aald 0 34 rfl dX0_groupOf_33 rfl rfl (by first | rfl | omega) (by decide) (by decide) (hP _ _ _ rfl) ?_
    refine R_iload_n 35 rfl dX0_groupOf_34 rfl ?_
    refine R_iconst 36 rfl dX0_groupOf_35 ?_
    refine R_idiv_p 37 rfl dX0_groupOf_36 (by first | assumption | exact ⟨by omega, by omega⟩) (by first | assumption | exact ⟨by omega, by omega⟩) (by omega) (by omega) ?_
    refine R_iald (k / 2) 38 rfl dX0_groupOf_37 rfl (by first | rfl | omega) (by omega) (by decide) ?_
    refine R_ireturn dX0_groupOf_38 rfl ?_
    exact Qi_mk (by unfold grp; simp <;> omega)
  · refine R_tsIn 39 dX0_groupOf_1 ⟨by omega, by omega⟩ (by omega) (by omega) rfl rfl ?_
    refine R_aload_n 40 rfl dX0_groupOf_39 rfl ?_
    refine R_getP 1 43 rfl dX0_groupOf_40 rfl rfl fl_X0_17 (hP _ _ _ rfl) ?_
    refine R_iconst 44 rfl dX0_groupOf_43 ?_
    refine R_aald 2 45 rfl dX0_groupOf_44 rfl rfl (by first | rfl | omega) (by decide) (by decide) (hP _ _ _ rfl) ?_
    refine R_iload_n 46 rfl dX0_groupOf_45 rfl ?_
    refine R_iconst 47 rfl dX0_groupOf_46 ?_
    refine R_idiv_p 48 rfl dX0_groupOf_47 (by first | assumption | exact ⟨by omega, by omega⟩) (by first | assumption | exact ⟨by omega, by omega⟩) (by omega) (by omega) ?_
    refine R_iald (k / 2) 49 rfl dX0_groupOf_48 rfl (by first | rfl | omega) (by omega) (by decide) ?_
    refine R_ireturn dX0_groupOf_49 rfl ?_
    exact Qi_mk (by unfold grp; simp <;> omega)
  · refine R_tsIn 50 dX0_groupOf_1 ⟨by omega, by omega⟩ (by omega) (by omega) rfl rfl ?_
    refine R_iload_n 51 rfl dX0_groupOf_50 rfl ?_
    refine R_iconst 52 rfl dX0_groupOf_51 ?_
    refine R_irem_p 53 rfl dX0_groupOf_52 (by first | assumption | exact ⟨by omega, by omega⟩) (by first | assumption | exact ⟨by omega, by omega⟩) (by omega) (by omega) ?_
    refine R_ireturn dX0_groupOf_53 rfl ?_
    exact Qi_mk (by unfold grp; simp <;> omega)
theorem c_X0_marriagesIn (p : Int) (hP : PO o d m) (hB : Bk0 m B) (hO : BkOk np B) (hnp : np ≤ 12) (hp : rg p) : C Γ mX0_marriagesIn 0 0 0 0 [vr 30, vi p] SH m (Qi SH m (cnt (fun k => decide (B.2.1 0 k = p)) B.1 : Int)) := by
  refine C_of_R rfl (Nat.le_of_ble_eq_true rfl) ?_
  have hP := hP.2
  have h0 := hB.1
  have h3 := hO.1
  have L : ∀ k, k ≤ B.1 → ∀ a z, a = (cnt (fun k => decide (B.2.1 0 k = p)) k : Int) → z = (k : Int) → R Γ mX0_marriagesIn { frames := 0, cells := 0, slots := 0, locals := 0 } 0 0 (Qi SH m (cnt (fun k => decide (B.2.1 0 k = p)) B.1 : Int)) 0 0 4 [some (vr 30), some (vi p), some (vi a), some (vi z)] [] SH m := by
    refine up_ind B.1 (fun k hk ih a z ha hz => ?_)
    refine R_iload_n 5 rfl dX0_marriagesIn_4 rfl ?_
    refine R_aload_n 6 rfl dX0_marriagesIn_5 rfl ?_
    refine R_getI 0 9 rfl dX0_marriagesIn_6 rfl rfl fl_X0_9 ?_
    refine R_icmp_ge 12 33 rfl rfl dX0_marriagesIn_9 (by first | assumption | exact ⟨by omega, by omega⟩) (by first | assumption | exact ⟨by omega, by omega⟩) (fun h9 => ?_) (fun h9 => ?_)
    · refine R_iload_n 34 rfl dX0_marriagesIn_33 rfl ?_
      refine R_ireturn dX0_marriagesIn_34 rfl ?_
      exact Qi_mk (by rw [ha, show k = B.1 by omega])
    · have h1 := hB.2.1 k (by omega)
      have h2 := hO.2.1 k (by omega)
      refine R_aload_n 13 rfl dX0_marriagesIn_12 rfl ?_
      refine R_getP 1 16 rfl dX0_marriagesIn_13 rfl rfl fl_X0_17 (hP _ _ _ rfl) ?_
      refine R_iconst 17 rfl dX0_marriagesIn_16 ?_
      refine R_aald 0 18 rfl dX0_marriagesIn_17 rfl rfl (by first | rfl | omega) (by decide) (by decide) (hP _ _ _ rfl) ?_
      refine R_iload_n 19 rfl dX0_marriagesIn_18 rfl ?_
      refine R_iald k 20 rfl dX0_marriagesIn_19 rfl (by first | rfl | omega) (by omega) (by decide) ?_
      refine R_iload_n 21 rfl dX0_marriagesIn_20 rfl ?_
      refine R_icmp_ne 24 27 rfl rfl dX0_marriagesIn_21 (by first | assumption | exact ⟨by omega, by omega⟩) (by first | assumption | exact ⟨by omega, by omega⟩) (fun h21 => ?_) (fun h21 => ?_)
      · refine R_iinc [_, _, _, _] 30 rfl dX0_marriagesIn_27 rfl rfl (by decide) ?_
        refine R_goto 4 rfl dX0_marriagesIn_30 ?_
        first | exact ih (by omega) _ _ (by rw [cnt_y (by simp; omega)]; omega) (by omega) | exact ih (by omega) _ _ (by rw [cnt_n (by simp; omega)]; omega) (by omega)
      · refine R_iinc [_, _, _, _] 27 rfl dX0_marriagesIn_24 rfl rfl (by decide) ?_
        refine R_iinc [_, _, _, _] 30 rfl dX0_marriagesIn_27 rfl rfl (by decide) ?_
        refine R_goto 4 rfl dX0_marriagesIn_30 ?_
        first | exact ih (by omega) _ _ (by rw [cnt_y (by simp; omega)]; omega) (by omega) | exact ih (by omega) _ _ (by rw [cnt_n (by simp; omega)]; omega) (by omega)
  refine R_iconst 1 rfl dX0_marriagesIn_0 ?_
  refine R_istore_n [_, _, _, _] 2 rfl dX0_marriagesIn_1 rfl (by decide) ?_
  refine R_iconst 3 rfl dX0_marriagesIn_2 ?_
  refine R_istore_n [_, _, _, _] 4 rfl dX0_marriagesIn_3 rfl (by decide) ?_
  exact L 0 (by omega) _ _ rfl rfl
theorem c_X0_marksOf (p f : Int) (hPO : PO o d m) (hB : Bk0 m B) (hO : BkOk np B) (hp : rg p) (hf : rg f) : C Γ mX0_marksOf 1 40 0 0 [vr 30, vi p, vi f] SH m (Qi SH m (cnt (fun k => decide (B.2.2 3 k = p ∧ B.2.2 0 k = f)) (2 * B.1) : Int)) := by
  refine C_of_R rfl (Nat.le_of_ble_eq_true rfl) ?_
  have h3 := hO.1
  have L : ∀ k, k ≤ 2 * B.1 → ∀ a z, a = (cnt (fun k => decide (B.2.2 3 k = p ∧ B.2.2 0 k = f)) k : Int) → z = (k : Int) → R Γ mX0_marksOf { frames := 1, cells := 0, slots := 0, locals := 40 } 0 0 (Qi SH m (cnt (fun k => decide (B.2.2 3 k = p ∧ B.2.2 0 k = f)) (2 * B.1) : Int)) 0 0 5 [some (vr 30), some (vi p), some (vi f), some (vi a), some (vi z)] [] SH m := by
    refine up_ind (2 * B.1) (fun k hk ih a z ha hz => ?_)
    refine R_iload 7 rfl dX0_marksOf_5 rfl ?_
    refine R_aload_n 8 rfl dX0_marksOf_7 rfl ?_
    refine R_callV_i (M' := mX0_marks) 11 rfl dX0_marksOf_8 ml_X0_33 kmX0_marks im_X0_marks se_X0_marks rfl ⟨by decide, rfl⟩ (c_X0_marks hB) rfl rfl ⟨Nat.le_of_ble_eq_true rfl, Nat.le_of_ble_eq_true rfl⟩ (Nat.le_of_ble_eq_true rfl) ⟨Nat.le_of_ble_eq_true rfl, Nat.le_of_ble_eq_true rfl⟩ ?_
    refine R_icmp_ge 14 34 rfl rfl dX0_marksOf_11 (by first | assumption | exact ⟨by omega, by omega⟩) (by first | assumption | exact ⟨by omega, by omega⟩) (fun h11 => ?_) (fun h11 => ?_)
    · refine R_iload_n 35 rfl dX0_marksOf_34 rfl ?_
      refine R_ireturn dX0_marksOf_35 rfl ?_
      exact Qi_mk (by rw [ha, show k = 2 * B.1 by omega])
    · refine R_aload_n 15 rfl dX0_marksOf_14 rfl ?_
      refine R_iload 17 rfl dX0_marksOf_15 rfl ?_
      refine R_iload_n 18 rfl dX0_marksOf_17 rfl ?_
      refine R_iload_n 19 rfl dX0_marksOf_18 rfl ?_
      refine R_callV_i (M' := mX0_isOf) 22 rfl dX0_marksOf_19 ml_X0_37 kmX0_isOf im_X0_isOf se_X0_isOf rfl ⟨by decide, rfl⟩ (c_X0_isOf _ _ _ k hPO hB hO (by omega) (by omega) hp hf) rfl rfl ⟨Nat.le_of_ble_eq_true rfl, Nat.le_of_ble_eq_true rfl⟩ (Nat.le_of_ble_eq_true rfl) ⟨Nat.le_of_ble_eq_true rfl, Nat.le_of_ble_eq_true rfl⟩ ?_
      refine R_ifp_eq 25 28 rfl rfl dX0_marksOf_22 (fun h22 => ?_) (fun h22 => ?_)
      · refine R_iinc [_, _, _, _, _] 31 rfl dX0_marksOf_28 rfl rfl (by decide) ?_
        refine R_goto 5 rfl dX0_marksOf_31 ?_
        first | exact ih (by omega) _ _ (by rw [cnt_y (by simp; omega)]; omega) (by omega) | exact ih (by omega) _ _ (by rw [cnt_n (by simp; omega)]; omega) (by omega)
      · refine R_iinc [_, _, _, _, _] 28 rfl dX0_marksOf_25 rfl rfl (by decide) ?_
        refine R_iinc [_, _, _, _, _] 31 rfl dX0_marksOf_28 rfl rfl (by decide) ?_
        refine R_goto 5 rfl dX0_marksOf_31 ?_
        first | exact ih (by omega) _ _ (by rw [cnt_y (by simp; omega)]; omega) (by omega) | exact ih (by omega) _ _ (by rw [cnt_n (by simp; omega)]; omega) (by omega)
  refine R_iconst 1 rfl dX0_marksOf_0 ?_
  refine R_istore_n [_, _, _, _, _] 2 rfl dX0_marksOf_1 rfl (by decide) ?_
  refine R_iconst 3 rfl dX0_marksOf_2 ?_
  refine R_istore [_, _, _, _, _] 5 rfl dX0_marksOf_3 rfl (by decide) ?_
  exact L 0 (by omega) _ _ rfl rfl
theorem c_X0_areAllBelow (b p0 p1 p2 s0 s1 s2 s3 s4 pp : Nat) (np : Int) (hs : shp SH b = some (0, 3)) (hs2 : shp SH pp = some (15, 3)) (hs3 : shp SH p0 = some (12, 40)) (h1 : m.2 b 1 = some pp) (h2 : m.2 pp 0 = some p0) (hB : BkC b p0 p1 p2 s0 s1 s2 s3 s4 m B) (hO : BkOk 12 B) (hn : rg np) : C Γ mX0_areAllBelow 0 0 0 0 [vr b, vi np] SH m (Qi SH m (pI (allN (fun k => decide (B.2.1 0 k < np)) B.1 = true))) := by
  refine C_of_R rfl (Nat.le_of_ble_eq_true rfl) ?_
  have h0 := hB.1
  have h3 := hO.1
  have L : ∀ k, k ≤ B.1 → ∀ z, (∀ j, j < k → B.2.1 0 j < np) → z = (k : Int) → R Γ mX0_areAllBelow { frames := 0, cells := 0, slots := 0, locals := 0 } 0 0 (Qi SH m (pI (allN (fun k => decide (B.2.1 0 k < np)) B.1 = true))) 0 0 2 [some (vr b), some (vi np), some (vi z)] [] SH m := by
    refine up_ind B.1 (fun k hk ih z ha hz => ?_)
    refine R_iload_n 3 rfl dX0_areAllBelow_2 rfl ?_
    refine R_aload_n 4 rfl dX0_areAllBelow_3 rfl ?_
    refine R_getI 0 7 rfl dX0_areAllBelow_4 hs rfl fl_X0_9 ?_
    refine R_icmp_ge 10 30 rfl rfl dX0_areAllBelow_7 (by first | assumption | exact ⟨by omega, by omega⟩) (by first | assumption | exact ⟨by omega, by omega⟩) (fun h7 => ?_) (fun h7 => ?_)
    · refine R_iconst 31 rfl dX0_areAllBelow_30 ?_
      refine R_zreturn dX0_areAllBelow_31 rfl (by first | decide | exact pI_01 _) ?_
      exact Qi_mk (pI_1 ((allN_iff _ _).mpr (fun j hj => by simp; exact ha j (by omega))))
    · have h4 := hB.2.1 k (by omega)
      have h5 := hO.2.1 k (by omega)
      refine R_aload_n 11 rfl dX0_areAllBelow_10 rfl ?_
      refine R_getP 1 14 rfl dX0_areAllBelow_11 hs rfl fl_X0_17 h1 ?_
      refine R_iconst 15 rfl dX0_areAllBelow_14 ?_
      refine R_aald 0 16 rfl dX0_areAllBelow_15 hs2 rfl (by first | rfl | omega) (by decide) (by decide) h2 ?_
      refine R_iload_n 17 rfl dX0_areAllBelow_16 rfl ?_
      refine R_iald k 18 rfl dX0_areAllBelow_17 hs3 (by first | rfl | omega) (by omega) (by decide) ?_
      refine R_iload_n 19 rfl dX0_areAllBelow_18 rfl ?_
      refine R_icmp_lt 22 24 rfl rfl dX0_areAllBelow_19 (by first | assumption | exact ⟨by omega, by omega⟩) (by first | assumption | exact ⟨by omega, by omega⟩) (fun h19 => ?_) (fun h19 => ?_)
      · refine R_iinc [_, _, _] 27 rfl dX0_areAllBelow_24 rfl rfl (by decide) ?_
        refine R_goto 2 rfl dX0_areAllBelow_27 ?_
        exact ih (by omega) _ (fun j hj => by by_cases e : j = k; (subst e; omega); exact ha j (by omega)) (by omega)
      · refine R_iconst 23 rfl dX0_areAllBelow_22 ?_
        refine R_zreturn dX0_areAllBelow_23 rfl (by first | decide | exact pI_01 _) ?_
        exact Qi_mk (pI_0 (fun q => by have := (allN_iff _ _).mp q k (by omega); simp at this; omega))
  refine R_iconst 1 rfl dX0_areAllBelow_0 ?_
  refine R_istore_n [_, _, _] 2 rfl dX0_areAllBelow_1 rfl (by decide) ?_
  exact L 0 (by omega) _ (fun j hj => by omega) rfl
end
