def chg (B : Bk) (p f : Int) : Bool := anyN (fun i => anyN (fun j => decide (B.2.2 3 i = p ∧ B.2.2 0 i = f ∧ B.2.2 3 j = p ∧ ¬ B.2.2 0 j = f ∧ B.2.1 1 (i / 2) < B.2.1 1 (j / 2))) (2 * B.1)) (2 * B.1)
def chI (B : Bk) (p f : Int) (e l : Int) (k : Nat) : Prop := 0 ≤ e ∧ e ≤ 90 ∧ -1 ≤ l ∧ l ≤ 89 ∧ (∀ i, i < k → B.2.2 3 i = p → B.2.2 0 i = f → e ≤ B.2.1 1 (i / 2)) ∧ (e = 90 ∨ ∃ i, i < k ∧ B.2.2 3 i = p ∧ B.2.2 0 i = f ∧ B.2.1 1 (i / 2) = e) ∧ (∀ j, j < k → B.2.2 3 j = p → ¬ B.2.2 0 j = f → B.2.1 1 (j / 2) ≤ l) ∧ (l = -1 ∨ ∃ j, j < k ∧ B.2.2 3 j = p ∧ ¬ B.2.2 0 j = f ∧ B.2.1 1 (j / 2) = l)
theorem chI_0 (B : Bk) (p f : Int) : chI B p f 90 (-1) 0 := ⟨by omega, by omega, by omega, by omega, fun i hi => by omega, Or.inl rfl, fun i hi => by omega, Or.inl rfl⟩
theorem chI_e {B : Bk} {p f e l : Int} {k : Nat} (h : chI B p f e l k) (h1 : B.2.2 3 k = p) (h2 : B.2.2 0 k = f) (hy : 0 ≤ B.2.1 1 (k / 2) ∧ B.2.1 1 (k / 2) ≤ 89) : chI B p f (min e (B.2.1 1 (k / 2))) l (k + 1) := by
  obtain ⟨a1, a2, a3, a4, a5, a6, a7, a8⟩ := h
  refine ⟨by omega, by omega, a3, a4, fun i hi q1 q2 => ?_, ?_, fun j hj q1 q2 => ?_, ?_⟩
  · by_cases e1 : i = k
    · subst e1; omega
    · have := a5 i (by omega) q1 q2; omega
  · by_cases e1 : B.2.1 1 (k / 2) ≤ e
    · right; exact ⟨k, by omega, h1, h2, by omega⟩
    · rcases a6 with a6 | ⟨i, i1, i2, i3, i4⟩
      · omega
      · right; exact ⟨i, by omega, i2, i3, by omega⟩
  · by_cases e1 : j = k
    · subst e1; exact absurd h2 q2
    · exact a7 j (by omega) q1 q2
  · rcases a8 with a8 | ⟨j, i1, i2, i3, i4⟩
    · exact Or.inl a8
    · exact Or.inr ⟨j, by omega, i2, i3, i4⟩
theorem chI_l {B : Bk} {p f e l : Int} {k : Nat} (h : chI B p f e l k) (h1 : B.2.2 3 k = p) (h2 : ¬ B.2.2 0 k = f) (hy : 0 ≤ B.2.1 1 (k / 2) ∧ B.2.1 1 (k / 2) ≤ 89) : chI B p f e (max l (B.2.1 1 (k / 2))) (k + 1) := by
  obtain ⟨a1, a2, a3, a4, a5, a6, a7, a8⟩ := h
  refine ⟨a1, a2, by omega, by omega, fun i hi q1 q2 => ?_, ?_, fun j hj q1 q2 => ?_, ?_⟩
  · by_cases e1 : i = k
    · subst e1; exact absurd q2 h2
    · exact a5 i (by omega) q1 q2
  · rcases a6 with a6 | ⟨j, i1, i2, i3, i4⟩
    · exact Or.inl a6
    · exact Or.inr ⟨j, by omega, i2, i3, i4⟩
  · by_cases e1 : j = k
    · subst e1; omega
    · have := a7 j (by omega) q1 q2; omega
  · by_cases e1 : l ≤ B.2.1 1 (k / 2)
    · right; exact ⟨k, by omega, h1, h2, by omega⟩
    · rcases a8 with a8 | ⟨i, i1, i2, i3, i4⟩
      · omega
      · right; exact ⟨i, by omega, i2, i3, by omega⟩
theorem chI_n {B : Bk} {p f e l : Int} {k : Nat} (h : chI B p f e l k) (h1 : ¬ B.2.2 3 k = p) : chI B p f e l (k + 1) := by
  obtain ⟨a1, a2, a3, a4, a5, a6, a7, a8⟩ := h
  refine ⟨a1, a2, a3, a4, fun i hi q1 q2 => ?_, ?_, fun j hj q1 q2 => ?_, ?_⟩
  · by_cases e1 : i = k
    · subst e1; exact absurd q1 h1
    · exact a5 i (by omega) q1 q2
  · rcases a6 with a6 | ⟨j, i1, i2, i3, i4⟩
    · exact Or.inl a6
    · exact Or.inr ⟨j, by omega, i2, i3, i4⟩
  · by_cases e1 : j = k
    · subst e1; exact absurd q1 h1
    · exact a7 j (by omega) q1 q2
  · rcases a8 with a8 | ⟨j, i1, i2, i3, i4⟩
    · exact Or.inl a8
    · exact Or.inr ⟨j, by omega, i2, i3, i4⟩
theorem chI_end {B : Bk} {p f e l : Int} (h : chI B p f e l (2 * B.1)) : e < l ↔ chg B p f = true := by
  obtain ⟨a1, a2, a3, a4, a5, a6, a7, a8⟩ := h
  unfold chg
  rw [anyN_iff]
  constructor
  · intro hl
    rcases a6 with a6 | ⟨i, i1, i2, i3, i4⟩
    · omega
    · rcases a8 with a8 | ⟨j, j1, j2, j3, j4⟩
      · omega
      · exact ⟨i, i1, (anyN_iff _ _).mpr ⟨j, j1, by simp; exact ⟨i2, i3, j2, j3, by omega⟩⟩⟩
  · rintro ⟨i, i1, hi⟩
    obtain ⟨j, j1, hj⟩ := (anyN_iff _ _).mp hi
    simp at hj
    have := a5 i i1 hj.1 hj.2.1
    have := a7 j j1 hj.2.2.1 hj.2.2.2.1
    omega
section
variable {Γ : GX} {m : Mem} {B : Bk} {np : Int} {o d : Nat}
theorem c_X0_changedFrom (p f : Int) (hPO : PO o d m) (hB : Bk0 m B) (hO : BkOk np B) (hp : rg p) (hf : rg f) : C Γ mX0_changedFrom 1 40 0 0 [vr 30, vi p, vi f] SH m (Qi SH m (pI (chg B p f = true))) := by
  refine C_of_R rfl (Nat.le_of_ble_eq_true rfl) ?_
  have h3 := hO.1
  have hP := hPO.2
  have L : ∀ k, k ≤ 2 * B.1 → ∀ e l z, chI B p f e l k → z = (k : Int) → R Γ mX0_changedFrom { frames := 1, cells := 0, slots := 0, locals := 40 } 0 0 (Qi SH m (pI (chg B p f = true))) 0 0 9 [some (vr 30), some (vi p), some (vi f), some (vi e), some (vi l), some (vi z)] [] SH m := by
    refine up_ind (2 * B.1) (fun k hk ih e l z hc hz => ?_)
    have hc' := hc
    obtain ⟨a1, a2, a3, a4, -⟩ := hc'
    refine R_iload 11 rfl dX0_changedFrom_9 rfl ?_
    refine R_aload_n 12 rfl dX0_changedFrom_11 rfl ?_
    refine R_callV_i (M' := mX0_marks) 15 rfl dX0_changedFrom_12 ml_X0_33 kmX0_marks im_X0_marks se_X0_marks rfl ⟨by decide, rfl⟩ (c_X0_marks hB) rfl rfl ⟨Nat.le_of_ble_eq_true rfl, Nat.le_of_ble_eq_true rfl⟩ (Nat.le_of_ble_eq_true rfl) ⟨Nat.le_of_ble_eq_true rfl, Nat.le_of_ble_eq_true rfl⟩ ?_
    refine R_icmp_ge 18 75 rfl rfl dX0_changedFrom_15 (by first | assumption | exact ⟨by omega, by omega⟩) (by first | assumption | exact ⟨by omega, by omega⟩) (fun h15 => ?_) (fun h15 => ?_)
    · refine R_iload_n 76 rfl dX0_changedFrom_75 rfl ?_
      refine R_iload 78 rfl dX0_changedFrom_76 rfl ?_
      refine R_icmp_ge 81 85 rfl rfl dX0_changedFrom_78 (by first | assumption | exact ⟨by omega, by omega⟩) (by first | assumption | exact ⟨by omega, by omega⟩) (fun h78 => ?_) (fun h78 => ?_)
      · refine R_iconst 86 rfl dX0_changedFrom_85 ?_
        refine R_zreturn dX0_changedFrom_86 rfl (by first | decide | exact pI_01 _) ?_
        have e9 : k = 2 * B.1 := by omega
        subst e9
        first | exact Qi_mk (pI_1 ((chI_end hc).mp (by omega))) | exact Qi_mk (pI_0 (fun q => by have := (chI_end hc).mpr q; omega))
      · refine R_iconst 82 rfl dX0_changedFrom_81 ?_
        refine R_goto 86 rfl dX0_changedFrom_82 ?_
        refine R_zreturn dX0_changedFrom_86 rfl (by first | decide | exact pI_01 _) ?_
        have e9 : k = 2 * B.1 := by omega
        subst e9
        first | exact Qi_mk (pI_1 ((chI_end hc).mp (by omega))) | exact Qi_mk (pI_0 (fun q => by have := (chI_end hc).mpr q; omega))
    · have h6 := hB.2.2 k (by omega)
      have h7 := hO.2.2 k (by omega)
      have h8 := hO.2.1 (k / 2) (by omega)
      refine R_aload_n 19 rfl dX0_changedFrom_18 rfl ?_
      refine R_iload 21 rfl dX0_changedFrom_19 rfl ?_
      refine R_iload_n 22 rfl dX0_changedFrom_21 rfl ?_
      refine R_iload_n 23 rfl dX0_changedFrom_22 rfl ?_
      refine R_callV_i (M' := mX0_isOf) 26 rfl dX0_changedFrom_23 ml_X0_37 kmX0_isOf im_X0_isOf se_X0_isOf rfl ⟨by decide, rfl⟩ (c_X0_isOf _ _ _ k hPO hB hO (by omega) (by omega) hp hf) rfl rfl ⟨Nat.le_of_ble_eq_true rfl, Nat.le_of_ble_eq_true rfl⟩ (Nat.le_of_ble_eq_true rfl) ⟨Nat.le_of_ble_eq_true rfl, Nat.le_of_ble_eq_true rfl⟩ ?_
      refine R_ifp_eq 29 43 rfl rfl dX0_changedFrom_26 (fun h26 => ?_) (fun h26 => ?_)
      · refine R_aload_n 44 rfl dX0_changedFrom_43 rfl ?_
        refine R_getP 2 47 rfl dX0_changedFrom_44 rfl rfl fl_X0_20 (hP _ _ _ rfl) ?_
        refine R_iconst 48 rfl dX0_changedFrom_47 ?_
        refine R_aald 3 49 rfl dX0_changedFrom_48 rfl rfl (by first | rfl | omega) (by decide) (by decide) (hP _ _ _ rfl) ?_
        refine R_iload 51 rfl dX0_changedFrom_49 rfl ?_
        refine R_iald k 52 rfl dX0_changedFrom_51 rfl (by first | rfl | omega) (by omega) (by decide) ?_
        refine R_iload_n 53 rfl dX0_changedFrom_52 rfl ?_
        refine R_icmp_ne 56 69 rfl rfl dX0_changedFrom_53 (by first | assumption | exact ⟨by omega, by omega⟩) (by first | assumption | exact ⟨by omega, by omega⟩) (fun h53 => ?_) (fun h53 => ?_)
        · refine R_iinc [_, _, _, _, _, _] 72 rfl dX0_changedFrom_69 rfl rfl (by decide) ?_
          refine R_goto 9 rfl dX0_changedFrom_72 ?_
          first | exact ih (by omega) _ _ _ (chI_e hc (by omega) (by omega) (by omega)) (by omega) | exact ih (by omega) _ _ _ (chI_l hc (by omega) (by omega) (by omega)) (by omega) | exact ih (by omega) _ _ _ (chI_n hc (by omega)) (by omega)
        · refine R_iload 58 rfl dX0_changedFrom_56 rfl ?_
          refine R_aload_n 59 rfl dX0_changedFrom_58 rfl ?_
          refine R_iload 61 rfl dX0_changedFrom_59 rfl ?_
          refine R_callV_i (M' := mX0_yearOf) 64 rfl dX0_changedFrom_61 ml_X0_41 kmX0_yearOf im_X0_yearOf se_X0_yearOf rfl ⟨by decide, rfl⟩ (c_X0_yearOf _ k hPO hB (by omega) (by omega) (by omega)) rfl rfl ⟨Nat.le_of_ble_eq_true rfl, Nat.le_of_ble_eq_true rfl⟩ (Nat.le_of_ble_eq_true rfl) ⟨Nat.le_of_ble_eq_true rfl, Nat.le_of_ble_eq_true rfl⟩ ?_
          refine R_max 67 rfl dX0_changedFrom_64 ml_X0_51 (by first | assumption | exact ⟨by omega, by omega⟩) (by first | assumption | exact ⟨by omega, by omega⟩) ⟨Nat.le_of_ble_eq_true rfl, Nat.le_of_ble_eq_true rfl⟩ ⟨Nat.le_of_ble_eq_true rfl, Nat.le_of_ble_eq_true rfl⟩ ?_
          refine R_istore [_, _, _, _, _, _] 69 rfl dX0_changedFrom_67 rfl (by decide) ?_
          refine R_iinc [_, _, _, _, _, _] 72 rfl dX0_changedFrom_69 rfl rfl (by decide) ?_
          refine R_goto 9 rfl dX0_changedFrom_72 ?_
          first | exact ih (by omega) _ _ _ (chI_e hc (by omega) (by omega) (by omega)) (by omega) | exact ih (by omega) _ _ _ (chI_l hc (by omega) (by omega) (by omega)) (by omega) | exact ih (by omega) _ _ _ (chI_n hc (by omega)) (by omega)
      · refine R_iload_n 30 rfl dX0_changedFrom_29 rfl ?_
        refine R_aload_n 31 rfl dX0_changedFrom_30 rfl ?_
        refine R_iload 33 rfl dX0_changedFrom_31 rfl ?_
        refine R_callV_i (M' := mX0_yearOf) 36 rfl dX0_changedFrom_33 ml_X0_41 kmX0_yearOf im_X0_yearOf se_X0_yearOf rfl ⟨by decide, rfl⟩ (c_X0_yearOf _ k hPO hB (by omega) (by omega) (by omega)) rfl rfl ⟨Nat.le_of_ble_eq_true rfl, Nat.le_of_ble_eq_true rfl⟩ (Nat.le_of_ble_eq_true rfl) ⟨Nat.le_of_ble_eq_true rfl, Nat.le_of_ble_eq_true rfl⟩ ?_
        refine R_min 39 rfl dX0_changedFrom_36 ml_X0_45 (by first | assumption | exact ⟨by omega, by omega⟩) (by first | assumption | exact ⟨by omega, by omega⟩) ⟨Nat.le_of_ble_eq_true rfl, Nat.le_of_ble_eq_true rfl⟩ ⟨Nat.le_of_ble_eq_true rfl, Nat.le_of_ble_eq_true rfl⟩ ?_
        refine R_istore_n [_, _, _, _, _, _] 40 rfl dX0_changedFrom_39 rfl (by decide) ?_
        refine R_goto 69 rfl dX0_changedFrom_40 ?_
        refine R_iinc [_, _, _, _, _, _] 72 rfl dX0_changedFrom_69 rfl rfl (by decide) ?_
        refine R_goto 9 rfl dX0_changedFrom_72 ?_
        first | exact ih (by omega) _ _ _ (chI_e hc (by omega) (by omega) (by omega)) (by omega) | exact ih (by omega) _ _ _ (chI_l hc (by omega) (by omega) (by omega)) (by omega) | exact ih (by omega) _ _ _ (chI_n hc (by omega)) (by omega)
  refine R_bipush 2 rfl dX0_changedFrom_0 (by decide) ?_
  refine R_istore_n [_, _, _, _, _, _] 3 rfl dX0_changedFrom_2 rfl (by decide) ?_
  refine R_iconst 4 rfl dX0_changedFrom_3 ?_
  refine R_istore [_, _, _, _, _, _] 6 rfl dX0_changedFrom_4 rfl (by decide) ?_
  refine R_iconst 7 rfl dX0_changedFrom_6 ?_
  refine R_istore [_, _, _, _, _, _] 9 rfl dX0_changedFrom_7 rfl (by decide) ?_
  exact L 0 (by omega) _ _ _ (chI_0 B p f) rfl
end
