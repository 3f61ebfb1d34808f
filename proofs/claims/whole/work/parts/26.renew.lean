def isK (a : Nat) : Bool := decide (41 ≤ a ∧ a ≤ 43)
def Fk (m m' : Mem) : Prop := (∀ a k, isK a = false → m'.1 a k = m.1 a k) ∧ (∀ a k, a ≠ 41 → m'.2 a k = m.2 a k)
def KF (L : Ld) (B : Bk) (m : Mem) : Prop := m.1 41 0 = 0 ∧ ∀ k, k < 2 * B.1 → m.1 42 k = kd L B k ∧ m.1 43 k = wr L B k
theorem isK_30 : ∀ a, 30 ≤ a → a ≤ 40 → isK a = false := fun a h1 h2 => by simp [isK]; omega
theorem isK_4 : ∀ a, 4 ≤ a → a ≤ 29 → isK a = false := fun a h1 h2 => by simp [isK]; omega
theorem PO.k3 {o d : Nat} {m : Mem} {r : Option Nat} (h : PO o d m) : PO o d (setP m 41 3 r) := ⟨h.1, fun a k q e => by
  by_cases h3 : a = 41 ∧ k = 3
  · obtain ⟨rfl, rfl⟩ := h3; cases e
  · show (if a = 41 ∧ k = 3 then r else m.2 a k) = some q
    rw [if_neg h3]; exact h.2 a k q e⟩
theorem PO.k4 {o d : Nat} {m : Mem} {r : Option Nat} (h : PO o d m) : PO o d (setP m 41 4 r) := ⟨h.1, fun a k q e => by
  by_cases h3 : a = 41 ∧ k = 4
  · obtain ⟨rfl, rfl⟩ := h3; cases e
  · show (if a = 41 ∧ k = 4 then r else m.2 a k) = some q
    rw [if_neg h3]; exact h.2 a k q e⟩
theorem kd_y {L : Ld} {B : Bk} {k : Nat} (h1 : s2 L B k = 1) (h2 : before L B k = true) : kd L B k = 2 := by
  have h3 := nkd_rg L B k
  unfold s2 at h1
  split at h1
  · omega
  · rename_i h
    unfold kd; rw [if_neg h, if_pos h2]
theorem kd_n {L : Ld} {B : Bk} {k : Nat} (h1 : s2 L B k = 1) (h2 : ¬ before L B k = true) : kd L B k = 1 := by
  have h3 := nkd_rg L B k
  unfold s2 at h1
  split at h1
  · omega
  · rename_i h
    unfold kd; rw [if_neg h, if_neg h2]
theorem kd_s {L : Ld} {B : Bk} {k : Nat} (h1 : s2 L B k ≠ 1) : kd L B k = s2 L B k := by
  unfold s2 at h1 ⊢
  split at h1
  · rename_i h; unfold kd; rw [if_pos h, if_pos h]
  · exact absurd rfl h1
theorem s2_3 {L : Ld} {B : Bk} {k : Nat} : s2 L B k = 3 ↔ (B.2.2 0 k = 1 ∧ nkd L B k = 3) := by
  unfold s2
  split
  · rename_i h; simp [h]
  · rename_i h; constructor
    · intro q; omega
    · intro q; exact absurd q.1 h
theorem kd_3 {L : Ld} {B : Bk} {k : Nat} : kd L B k = 3 ↔ (B.2.2 0 k = 1 ∧ nkd L B k = 3) := by
  unfold kd
  split
  · rename_i h; simp [h]
  · rename_i h
    have : ¬ (B.2.2 0 k = 1 ∧ nkd L B k = 3) := fun q => h q.1
    split <;> simp [this]
section
variable {Γ : GX} {m : Mem} {B : Bk} {L : Ld} {ch : Cs} {np : Int} {o d : Nat}
set_option maxHeartbeats 2000000 in
theorem c_X3_renew (hPO : PO o d m) (hB : Bk0 m B) (hO : BkOk np B) (hnp : np ≤ 12) (hL : LdC o m L) (hLO : LdOk L) (h01 : m.1 41 0 = 0 ∨ m.1 41 0 = 1) (hKC : m.1 41 0 = 0 → KF L B m) : C Γ mX3_renew 4 160 0 0 [vr 41, vr 30, vr o] SH m (QV SH (fun m' => Fk m m' ∧ PO o d m' ∧ KF L B m')) := by
  refine C_of_R rfl (Nat.le_of_ble_eq_true rfl) ?_
  have hP := hPO.2
  have h5 := hO.1
  obtain ⟨m0, hm0⟩ : ∃ m0 : Mem, m0 = setP (setP (setI m 41 0 0) 41 3 (some 30)) 41 4 (some o) := ⟨_, rfl⟩
  have q1 : PO o d m0 := by rw [hm0]; exact PO.k4 (PO.k3 (hPO.eq rfl))
  have q2 : m0.2 41 3 = some 30 := by rw [hm0]; simp [setP]
  have q3 : m0.2 41 4 = some o := by rw [hm0]; simp [setP]
  have q4 : m0.1 41 0 = 0 := by rw [hm0]; simp [setP, setI]
  have q5 : ∀ a k, isK a = false → m0.1 a k = m.1 a k := fun a k ha => by
    have : a ≠ 41 := fun e => by rw [e] at ha; cases ha
    rw [hm0]; simp [setP, setI, this]
  have q6 : ∀ a k, a ≠ 41 → m0.2 a k = m.2 a k := fun a k ha => by rw [hm0]; simp [setP, setI, ha]
  have q7 : Bk0 m0 B := BkC.eq hB (fun a k ha => q5 a k (isK_30 a (by omega) (by omega)))
  have q8 : LdC o m0 L := by
    rcases hL with ⟨e, h⟩ | ⟨e, h⟩
    · exact Or.inl ⟨e, h.eq (fun a k ha => q5 a k (isK_4 a (by omega) (by omega)))⟩
    · exact Or.inr ⟨e, h.eq (fun a k ha => q5 a k (isK_4 a (by omega) (by omega)))⟩
  have L3 : ∀ k, k ≤ 2 * B.1 → ∀ mm z, Fr (fun a => decide (a = 42 ∨ a = 43)) m0 mm → (∀ j, j < 2 * B.1 → mm.1 43 j = wr L B j) → (∀ j, j < k → mm.1 42 j = kd L B j) → (∀ j, k ≤ j → j < 2 * B.1 → mm.1 42 j = s2 L B j) → z = (k : Int) → R Γ mX3_renew { frames := 4, cells := 0, slots := 0, locals := 160 } 0 0 (QV SH (fun m' => Fk m m' ∧ PO o d m' ∧ KF L B m')) 0 0 104 [some (vr 41), some (vr 30), some (vr o), some (vi z)] [] SH mm := by
    refine up_ind (2 * B.1) (fun k hk ih mm z hf hw hka hkb hz => ?_)
    have hPO := q1.eq hf.2
    have hP := hPO.2
    have hB := q7.fr hf (fun a h1 h2 => by simp; omega)
    have hk3 : mm.2 41 3 = some 30 := by rw [hf.2]; exact q2
    have hK : ∀ j, j < 2 * B.1 → 1 ≤ mm.1 42 j ∧ mm.1 42 j ≤ 5 ∧ (mm.1 42 j = 3 ↔ (B.2.2 0 j = 1 ∧ nkd L B j = 3)) := fun j hj => by
      by_cases e : j < k
      · rw [hka j e]; have := kd_rg L B j; exact ⟨this.1, this.2, kd_3⟩
      · rw [hkb j (by omega) hj]; have := s2_rg L B j; exact ⟨this.1, this.2, s2_3⟩
    refine R_iload_n 105 rfl dX3_renew_104 rfl ?_
    refine R_aload_n 106 rfl dX3_renew_105 rfl ?_
    refine R_getP 3 109 rfl dX3_renew_106 rfl rfl fl_X3_22 hk3 ?_
    refine R_callV_i (M' := mX0_marks) 112 rfl dX3_renew_109 ml_X3_30 kmX0_marks im_X0_marks se_X0_marks rfl ⟨by decide, rfl⟩ (c_X0_marks hB) rfl rfl ⟨Nat.le_of_ble_eq_true rfl, Nat.le_of_ble_eq_true rfl⟩ (Nat.le_of_ble_eq_true rfl) ⟨Nat.le_of_ble_eq_true rfl, Nat.le_of_ble_eq_true rfl⟩ ?_
    refine R_icmp_ge 115 146 rfl rfl dX3_renew_112 (by first | assumption | exact ⟨by omega, by omega⟩) (by first | assumption | exact ⟨by omega, by omega⟩) (fun h112 => ?_) (fun h112 => ?_)
    · refine R_return dX3_renew_146 rfl ?_
      refine QV_mk ⟨⟨fun a k ha => ?_, fun a k ha => ?_⟩, hPO, ?_, fun j hj => ⟨hka j (by omega), hw j hj⟩⟩
      · rw [hf.1 a k (by simp [isK] at ha ⊢; omega)]; exact q5 a k ha
      · rw [hf.2]; exact q6 a k ha
      · rw [hf.1 41 0 rfl]; exact q4
    · have r1 := hkb k (by omega) (by omega)
      have r2 := s2_rg L B k
      refine R_aload_n 116 rfl dX3_renew_115 rfl ?_
      refine R_getP 1 119 rfl dX3_renew_116 rfl rfl fl_X3_15 (hP _ _ _ rfl) ?_
      refine R_iload_n 120 rfl dX3_renew_119 rfl ?_
      refine R_iald k 121 rfl dX3_renew_120 rfl (by first | rfl | omega) (by omega) (by decide) ?_
      refine R_iconst 122 rfl dX3_renew_121 ?_
      refine R_icmp_ne 125 140 rfl rfl dX3_renew_122 (by first | assumption | exact ⟨by omega, by omega⟩) (by first | assumption | exact ⟨by omega, by omega⟩) (fun h122 => ?_) (fun h122 => ?_)
      · refine R_iinc [_, _, _, _] 143 rfl dX3_renew_140 rfl rfl (by decide) ?_
        refine R_goto 104 rfl dX3_renew_143 ?_
        first | exact ih (by omega) _ _ (hf.set rfl) (fun j hj => by simp [setI]; exact hw j hj) (fun j hj => by by_cases e : j = k; (subst e; simp [setI]; rw [kd_y (by omega) h130]); (simp [setI, e]; exact hka j (by omega))) (fun j hj1 hj2 => by simp [setI, show j ≠ k by omega]; exact hkb j (by omega) hj2) (by omega) | exact ih (by omega) _ _ hf hw (fun j hj => by by_cases e : j = k; (subst e; rw [kd_n (by omega) h130]; omega); exact hka j (by omega)) (fun j hj1 hj2 => hkb j (by omega) hj2) (by omega) | exact ih (by omega) _ _ hf hw (fun j hj => by by_cases e : j = k; (subst e; rw [kd_s (by omega)]; exact r1); exact hka j (by omega)) (fun j hj1 hj2 => hkb j (by omega) hj2) (by omega)
      · refine R_aload_n 126 rfl dX3_renew_125 rfl ?_
        refine R_iload_n 127 rfl dX3_renew_126 rfl ?_
        refine R_callV_i (M' := mX3_wasNamedBefore) 130 rfl dX3_renew_127 ml_X3_47 kmX3_wasNamedBefore im_X3_wasNamedBefore se_X3_wasNamedBefore rfl ⟨by decide, rfl⟩ (c_X3_wasNamedBefore _ _ hPO hk3 hB hO hK (by first | rfl | assumption | omega) (by omega)) rfl rfl ⟨Nat.le_of_ble_eq_true rfl, Nat.le_of_ble_eq_true rfl⟩ (Nat.le_of_ble_eq_true rfl) ⟨Nat.le_of_ble_eq_true rfl, Nat.le_of_ble_eq_true rfl⟩ ?_
        refine R_ifp_eq 133 140 rfl rfl dX3_renew_130 (fun h130 => ?_) (fun h130 => ?_)
        · refine R_iinc [_, _, _, _] 143 rfl dX3_renew_140 rfl rfl (by decide) ?_
          refine R_goto 104 rfl dX3_renew_143 ?_
          first | exact ih (by omega) _ _ (hf.set rfl) (fun j hj => by simp [setI]; exact hw j hj) (fun j hj => by by_cases e : j = k; (subst e; simp [setI]; rw [kd_y (by omega) h130]); (simp [setI, e]; exact hka j (by omega))) (fun j hj1 hj2 => by simp [setI, show j ≠ k by omega]; exact hkb j (by omega) hj2) (by omega) | exact ih (by omega) _ _ hf hw (fun j hj => by by_cases e : j = k; (subst e; rw [kd_n (by omega) h130]; omega); exact hka j (by omega)) (fun j hj1 hj2 => hkb j (by omega) hj2) (by omega) | exact ih (by omega) _ _ hf hw (fun j hj => by by_cases e : j = k; (subst e; rw [kd_s (by omega)]; exact r1); exact hka j (by omega)) (fun j hj1 hj2 => hkb j (by omega) hj2) (by omega)
        · refine R_aload_n 134 rfl dX3_renew_133 rfl ?_
          refine R_getP 1 137 rfl dX3_renew_134 rfl rfl fl_X3_15 (hP _ _ _ rfl) ?_
          refine R_iload_n 138 rfl dX3_renew_137 rfl ?_
          refine R_iconst 139 rfl dX3_renew_138 ?_
          refine R_iast k 140 rfl dX3_renew_139 rfl (by first | rfl | omega) (by omega) (by decide) ?_
          refine R_iinc [_, _, _, _] 143 rfl dX3_renew_140 rfl rfl (by decide) ?_
          refine R_goto 104 rfl dX3_renew_143 ?_
          first | exact ih (by omega) _ _ (hf.set rfl) (fun j hj => by simp [setI]; exact hw j hj) (fun j hj => by by_cases e : j = k; (subst e; simp [setI]; rw [kd_y (by omega) h130]); (simp [setI, e]; exact hka j (by omega))) (fun j hj1 hj2 => by simp [setI, show j ≠ k by omega]; exact hkb j (by omega) hj2) (by omega) | exact ih (by omega) _ _ hf hw (fun j hj => by by_cases e : j = k; (subst e; rw [kd_n (by omega) h130]; omega); exact hka j (by omega)) (fun j hj1 hj2 => hkb j (by omega) hj2) (by omega) | exact ih (by omega) _ _ hf hw (fun j hj => by by_cases e : j = k; (subst e; rw [kd_s (by omega)]; exact r1); exact hka j (by omega)) (fun j hj1 hj2 => hkb j (by omega) hj2) (by omega)
  have L2 : ∀ k, k ≤ 2 * B.1 → ∀ mm z, Fr (fun a => decide (a = 42 ∨ a = 43)) m0 mm → (∀ j, j < 2 * B.1 → mm.1 43 j = wr L B j) → (∀ j, j < k → mm.1 42 j = s2 L B j) → z = (k : Int) → R Γ mX3_renew { frames := 4, cells := 0, slots := 0, locals := 160 } 0 0 (QV SH (fun m' => Fk m m' ∧ PO o d m' ∧ KF L B m')) 0 0 55 [some (vr 41), some (vr 30), some (vr o), some (vi z)] [] SH mm := by
    refine up_ind (2 * B.1) (fun k hk ih mm z hf hw hka hz => ?_)
    have hPO := q1.eq hf.2
    have hP := hPO.2
    have hB := q7.fr hf (fun a h1 h2 => by simp; omega)
    have hL := q8.fr hf (fun a h1 h2 => by simp; omega)
    have hk3 : mm.2 41 3 = some 30 := by rw [hf.2]; exact q2
    have hk4 : mm.2 41 4 = some o := by rw [hf.2]; exact q3
    refine R_iload_n 56 rfl dX3_renew_55 rfl ?_
    refine R_aload_n 57 rfl dX3_renew_56 rfl ?_
    refine R_getP 3 60 rfl dX3_renew_57 rfl rfl fl_X3_22 hk3 ?_
    refine R_callV_i (M' := mX0_marks) 63 rfl dX3_renew_60 ml_X3_30 kmX0_marks im_X0_marks se_X0_marks rfl ⟨by decide, rfl⟩ (c_X0_marks hB) rfl rfl ⟨Nat.le_of_ble_eq_true rfl, Nat.le_of_ble_eq_true rfl⟩ (Nat.le_of_ble_eq_true rfl) ⟨Nat.le_of_ble_eq_true rfl, Nat.le_of_ble_eq_true rfl⟩ ?_
    refine R_icmp_ge 66 102 rfl rfl dX3_renew_63 (by first | assumption | exact ⟨by omega, by omega⟩) (by first | assumption | exact ⟨by omega, by omega⟩) (fun h63 => ?_) (fun h63 => ?_)
    · refine R_iconst 103 rfl dX3_renew_102 ?_
      refine R_istore_n [_, _, _, _] 104 rfl dX3_renew_103 rfl (by decide) ?_
      exact L3 0 (by omega) _ _ hf hw (fun j hj => by omega) (fun j _ hj => hka j (by omega)) rfl
    · have r1 := hO.2.2 k (by omega)
      obtain ⟨t0, t1, t2, t3, t4⟩ := hB.2.2 k (by omega)
      refine R_aload_n 67 rfl dX3_renew_66 rfl ?_
      refine R_getP 1 70 rfl dX3_renew_67 rfl rfl fl_X3_15 (hP _ _ _ rfl) ?_
      refine R_iload_n 71 rfl dX3_renew_70 rfl ?_
      refine R_aload_n 72 rfl dX3_renew_71 rfl ?_
      refine R_getP 3 75 rfl dX3_renew_72 rfl rfl fl_X3_22 hk3 ?_
      refine R_getP 2 78 rfl dX3_renew_75 rfl rfl fl_X3_40 (hP _ _ _ rfl) ?_
      refine R_iconst 79 rfl dX3_renew_78 ?_
      refine R_aald 0 80 rfl dX3_renew_79 rfl rfl (by first | rfl | omega) (by decide) (by decide) (hP _ _ _ rfl) ?_
      refine R_iload_n 81 rfl dX3_renew_80 rfl ?_
      refine R_iald k 82 rfl dX3_renew_81 rfl (by first | rfl | omega) (by omega) (by decide) ?_
      refine R_iconst 83 rfl dX3_renew_82 ?_
      refine R_icmp_ne 86 94 rfl rfl dX3_renew_83 (by first | assumption | exact ⟨by omega, by omega⟩) (by first | assumption | exact ⟨by omega, by omega⟩) (fun h83 => ?_) (fun h83 => ?_)
      · refine R_iconst 95 rfl dX3_renew_94 ?_
        refine R_iast k 96 rfl dX3_renew_95 rfl (by first | rfl | omega) (by omega) (by decide) ?_
        refine R_iinc [_, _, _, _] 99 rfl dX3_renew_96 rfl rfl (by decide) ?_
        refine R_goto 55 rfl dX3_renew_99 ?_
        first | exact ih (by omega) _ _ (hf.set rfl) (fun j hj => by simp [setI]; exact hw j hj) (fun j hj => by by_cases e : j = k; (subst e; simp [setI]; unfold s2; rw [if_pos (by omega)]); (simp [setI, e]; exact hka j (by omega))) (by omega) | exact ih (by omega) _ _ (hf.set rfl) (fun j hj => by simp [setI]; exact hw j hj) (fun j hj => by by_cases e : j = k; (subst e; simp [setI]; unfold s2; rw [if_neg (by omega)]); (simp [setI, e]; exact hka j (by omega))) (by omega)
      · refine R_aload_n 87 rfl dX3_renew_86 rfl ?_
        refine R_iload_n 88 rfl dX3_renew_87 rfl ?_
        refine R_callV_i (M' := mX3_kindOfName) 91 rfl dX3_renew_88 ml_X3_44 kmX3_kindOfName im_X3_kindOfName se_X3_kindOfName rfl ⟨by decide, rfl⟩ (c_X3_kindOfName _ k hPO hk3 hk4 hB hO hL hLO hw (by omega) (by omega)) rfl rfl ⟨Nat.le_of_ble_eq_true rfl, Nat.le_of_ble_eq_true rfl⟩ (Nat.le_of_ble_eq_true rfl) ⟨Nat.le_of_ble_eq_true rfl, Nat.le_of_ble_eq_true rfl⟩ ?_
        refine R_goto 95 rfl dX3_renew_91 ?_
        refine R_iast k 96 rfl dX3_renew_95 rfl (by first | rfl | omega) (by omega) (by decide) ?_
        refine R_iinc [_, _, _, _] 99 rfl dX3_renew_96 rfl rfl (by decide) ?_
        refine R_goto 55 rfl dX3_renew_99 ?_
        first | exact ih (by omega) _ _ (hf.set rfl) (fun j hj => by simp [setI]; exact hw j hj) (fun j hj => by by_cases e : j = k; (subst e; simp [setI]; unfold s2; rw [if_pos (by omega)]); (simp [setI, e]; exact hka j (by omega))) (by omega) | exact ih (by omega) _ _ (hf.set rfl) (fun j hj => by simp [setI]; exact hw j hj) (fun j hj => by by_cases e : j = k; (subst e; simp [setI]; unfold s2; rw [if_neg (by omega)]); (simp [setI, e]; exact hka j (by omega))) (by omega)
  have L1 : ∀ k, k ≤ 2 * B.1 → ∀ mm z, Fr (fun a => decide (a = 42 ∨ a = 43)) m0 mm → (∀ j, j < k → mm.1 43 j = wr L B j) → z = (k : Int) → R Γ mX3_renew { frames := 4, cells := 0, slots := 0, locals := 160 } 0 0 (QV SH (fun m' => Fk m m' ∧ PO o d m' ∧ KF L B m')) 0 0 25 [some (vr 41), some (vr 30), some (vr o), some (vi z)] [] SH mm := by
    refine up_ind (2 * B.1) (fun k hk ih mm z hf hw hz => ?_)
    have hPO := q1.eq hf.2
    have hP := hPO.2
    have hB := q7.fr hf (fun a h1 h2 => by simp; omega)
    have hL := q8.fr hf (fun a h1 h2 => by simp; omega)
    have hk3 : mm.2 41 3 = some 30 := by rw [hf.2]; exact q2
    have hk4 : mm.2 41 4 = some o := by rw [hf.2]; exact q3
    refine R_iload_n 26 rfl dX3_renew_25 rfl ?_
    refine R_aload_n 27 rfl dX3_renew_26 rfl ?_
    refine R_getP 3 30 rfl dX3_renew_27 rfl rfl fl_X3_22 hk3 ?_
    refine R_callV_i (M' := mX0_marks) 33 rfl dX3_renew_30 ml_X3_30 kmX0_marks im_X0_marks se_X0_marks rfl ⟨by decide, rfl⟩ (c_X0_marks hB) rfl rfl ⟨Nat.le_of_ble_eq_true rfl, Nat.le_of_ble_eq_true rfl⟩ (Nat.le_of_ble_eq_true rfl) ⟨Nat.le_of_ble_eq_true rfl, Nat.le_of_ble_eq_true rfl⟩ ?_
    refine R_icmp_ge 36 53 rfl rfl dX3_renew_33 (by first | assumption | exact ⟨by omega, by omega⟩) (by first | assumption | exact ⟨by omega, by omega⟩) (fun h33 => ?_) (fun h33 => ?_)
    · refine R_iconst 54 rfl dX3_renew_53 ?_
      refine R_istore_n [_, _, _, _] 55 rfl dX3_renew_54 rfl (by decide) ?_
      exact L2 0 (by omega) _ _ hf (fun j hj => hw j (by omega)) (fun j hj => by omega) rfl
    · refine R_aload_n 37 rfl dX3_renew_36 rfl ?_
      refine R_getP 2 40 rfl dX3_renew_37 rfl rfl fl_X3_19 (hP _ _ _ rfl) ?_
      refine R_iload_n 41 rfl dX3_renew_40 rfl ?_
      refine R_aload_n 42 rfl dX3_renew_41 rfl ?_
      refine R_iload_n 43 rfl dX3_renew_42 rfl ?_
      refine R_callV_i (M' := mX3_firstWriter) 46 rfl dX3_renew_43 ml_X3_36 kmX3_firstWriter im_X3_firstWriter se_X3_firstWriter rfl ⟨by decide, rfl⟩ (c_X3_firstWriter _ k hPO hk3 hk4 hB hO hnp hL hLO (by omega) (by omega)) rfl rfl ⟨Nat.le_of_ble_eq_true rfl, Nat.le_of_ble_eq_true rfl⟩ (Nat.le_of_ble_eq_true rfl) ⟨Nat.le_of_ble_eq_true rfl, Nat.le_of_ble_eq_true rfl⟩ ?_
      refine R_iast k 47 rfl dX3_renew_46 rfl (by first | rfl | omega) (by omega) (by decide) ?_
      refine R_iinc [_, _, _, _] 50 rfl dX3_renew_47 rfl rfl (by decide) ?_
      refine R_goto 25 rfl dX3_renew_50 ?_
      exact ih (by omega) _ _ (hf.set rfl) (fun j hj => by by_cases e : j = k; (subst e; simp [setI]); (simp [setI, e]; exact hw j (by omega))) (by omega)
  refine R_aload_n 1 rfl dX3_renew_0 rfl ?_
  refine R_getI 0 4 rfl dX3_renew_1 rfl rfl fl_X3_9 ?_
  refine R_if_ne 7 8 rfl rfl dX3_renew_4 (by first | assumption | exact ⟨by omega, by omega⟩) (fun h4 => ?_) (fun h4 => ?_)
  · refine R_aload_n 9 rfl dX3_renew_8 rfl ?_
    refine R_iconst 10 rfl dX3_renew_9 ?_
    refine R_putZ 0 13 rfl dX3_renew_10 rfl rfl fl_X3_9 (by decide) ?_
    refine R_aload_n 14 rfl dX3_renew_13 rfl ?_
    refine R_aload_n 15 rfl dX3_renew_14 rfl ?_
    refine R_putP 3 18 rfl dX3_renew_15 rfl rfl fl_X3_22 ?_
    refine R_aload_n 19 rfl dX3_renew_18 rfl ?_
    refine R_aload_n 20 rfl dX3_renew_19 rfl ?_
    refine R_putP 4 23 rfl dX3_renew_20 rfl rfl fl_X3_26 ?_
    refine R_iconst 24 rfl dX3_renew_23 ?_
    refine R_istore_n [_, _, _, _] 25 rfl dX3_renew_24 rfl (by decide) ?_
    exact L1 0 (by omega) _ _ (by rw [hm0]; exact Fr.rf) (fun j hj => by omega) rfl
  · refine R_return dX3_renew_7 rfl ?_
    exact QV_mk ⟨⟨fun _ _ _ => rfl, fun _ _ _ => rfl⟩, hPO, hKC (by omega)⟩
end
