/-! the class's state, and what a question may change: the kinds that are kept, and scratch rows -/
def CS (o d : Nat) (L : Ld) (B : Bk) (ch : Cs) (m : Mem) : Prop := PO o d m ∧ Bk0 m B ∧ BkOk (L.1 0) B ∧ LdC o m L ∧ LdOk L ∧ ChC m ch ∧ ChOk ch ∧ (m.1 41 0 = 0 ∨ m.1 41 0 = 1) ∧ (m.1 41 0 = 0 → KF L B m)
def isQ (a : Nat) : Bool := decide ((41 ≤ a ∧ a ≤ 43) ∨ (85 ≤ a ∧ a ≤ 95))
def Fs (m m' : Mem) : Prop := (∀ a k, isQ a = false → m'.1 a k = m.1 a k) ∧ (∀ a k, a ≠ 41 → m'.2 a k = m.2 a k)
theorem Fs.rf {m : Mem} : Fs m m := ⟨fun _ _ _ => rfl, fun _ _ _ => rfl⟩
theorem Fs.tr {m m' m'' : Mem} (h : Fs m m') (h' : Fs m' m'') : Fs m m'' := ⟨fun a k q => (h'.1 a k q).trans (h.1 a k q), fun a k q => (h'.2 a k q).trans (h.2 a k q)⟩
theorem Fk.s {m m' : Mem} (h : Fk m m') : Fs m m' := ⟨fun a k q => h.1 a k (by simp [isQ] at q; simp [isK]; omega), h.2⟩
theorem Fr.s {F : Nat → Bool} {m m' : Mem} (h : Fr F m m') (hF : ∀ a, isQ a = false → F a = false) : Fs m m' := ⟨fun a k q => h.1 a k (hF a q), fun a k _ => by rw [h.2]⟩
theorem isT_88 : ∀ a, isQ a = false → isT 88 a = false := fun a h => by simp [isQ] at h; simp [isT]; omega
theorem isT_85 : ∀ a, isQ a = false → isT 85 a = false := fun a h => by simp [isQ] at h; simp [isT]; omega
theorem C_wk {Γ : GX} {M : MD} {fr lo mc ms : Nat} {as : List AV} {S : Shp} {m : Mem} {Q Q' : Option AV → Shp → Mem → Prop} (h : C Γ M fr lo mc ms as S m Q) (hq : ∀ r S' m', Q r S' m' → Q' r S' m') : C Γ M fr lo mc ms as S m Q' := by
  intro p e ha hc hk s mi args below hf hsp hP htr
  obtain ⟨k, o, h1, h2, h3, h4, h5⟩ := h p e ha hc hk s mi args below hf hsp hP htr
  obtain ⟨⟨r, S', m', q1, q2, q3⟩, q4⟩ := h4
  exact ⟨k, o, h1, h2, h3, ⟨⟨r, S', m', q1, hq _ _ _ q2, q3⟩, q4⟩, h5⟩
section
variable {Γ : GX} {m m' : Mem} {B : Bk} {L : Ld} {ch : Cs} {o d : Nat}
theorem CS.fk (h : CS o d L B ch m) (hf : Fk m m') (hp : PO o d m') (hk : KF L B m') : CS o d L B ch m' := by
  obtain ⟨-, h2, h3, h4, h5, h6, h7, -, -⟩ := h
  refine ⟨hp, BkC.eq h2 (fun a k ha => hf.1 a k (isK_30 a (by omega) (by omega))), h3, ?_, h5, ?_, h7, Or.inl hk.1, fun _ => hk⟩
  · rcases h4 with ⟨e, h⟩ | ⟨e, h⟩
    · exact Or.inl ⟨e, h.eq (fun a k ha => hf.1 a k (isK_4 a (by omega) (by omega)))⟩
    · exact Or.inr ⟨e, h.eq (fun a k ha => hf.1 a k (isK_4 a (by omega) (by omega)))⟩
  · obtain ⟨⟨a0, a1, a2, a3, a4⟩, ⟨b0, b1, b2, b3, b4⟩⟩ := h6
    refine ⟨⟨?_, ?_, ?_, ?_, ?_⟩, ⟨?_, ?_, ?_, ?_, ?_⟩⟩
    all_goals first | (rw [hf.1 45 _ rfl]; assumption) | (rw [hf.1 46 _ rfl]; assumption)
/-- scratch rows don't matter -/
theorem CS.fr {F : Nat → Bool} (h : CS o d L B ch m) (hf : Fr F m m') (hF : ∀ a, 4 ≤ a → a ≤ 46 → F a = false) : CS o d L B ch m' := by
  obtain ⟨h1, h2, h3, h4, h5, h6, h7, h8, h9⟩ := h
  refine ⟨h1.eq hf.2, h2.fr hf (fun a q1 q2 => hF a (by omega) (by omega)), h3, h4.fr hf (fun a q1 q2 => hF a (by omega) (by omega)), h5, h6.fr hf (hF 45 (by omega) (by omega)) (hF 46 (by omega) (by omega)), h7, ?_, ?_⟩
  · rw [hf.1 41 0 (hF 41 (by omega) (by omega))]; exact h8
  · rw [hf.1 41 0 (hF 41 (by omega) (by omega))]
    intro e
    have := h9 e
    refine ⟨?_, fun k hk => ?_⟩
    · rw [hf.1 41 0 (hF 41 (by omega) (by omega))]; exact e
    · rw [hf.1 42 k (hF 42 (by omega) (by omega)), hf.1 43 k (hF 43 (by omega) (by omega))]; exact this.2 k hk
theorem KF.fr {F : Nat → Bool} (h : KF L B m) (hf : Fr F m m') (h1 : F 41 = false) (h2 : F 42 = false) (h3 : F 43 = false) : KF L B m' := ⟨by rw [hf.1 41 0 h1]; exact h.1, fun k hk => by rw [hf.1 42 k h2, hf.1 43 k h3]; exact h.2 k hk⟩
theorem PO_o (h : PO o d m) : m.2 0 2 = some o := h.2 0 2 o rfl
theorem PO_d (h : PO o d m) : m.2 0 3 = some d := h.2 0 3 d rfl
theorem c_renew (h : CS o d L B ch m) : C Γ mX3_renew 4 160 0 0 [vr 41, vr 30, vr o] SH m (QV SH (fun m' => Fk m m' ∧ CS o d L B ch m' ∧ KF L B m')) := by
  have h' := h
  obtain ⟨h1, h2, h3, h4, h5, h6, h7, h8, h9⟩ := h'
  have hc := c_X3_renew (Γ := Γ) h1 h2 h3 h5.1.2.1 h4 h5 h8 h9
  refine C_wk hc (fun r S' m' q => ?_)
  obtain ⟨q1, q2, q3, q4, q5⟩ := q
  exact ⟨q1, q2, q3, h.fk q3 q4 q5, q5⟩
theorem c_X10_isParish (z : Int) (hCS : CS o d L B ch m) (hz : rg z) : C Γ mX10_isParish 1 40 0 0 [vr 0, vi z] SH m (Qi SH m (pI (0 ≤ z ∧ z < L.1 0))) := by
  refine C_of_R rfl (Nat.le_of_ble_eq_true rfl) ?_
  obtain ⟨hPO, -, -, hL, hLO, -⟩ := hCS
  have hP := hPO.2
  have h1 := hLO.1
  rcases hL with ⟨rfl, hL⟩ | ⟨rfl, hL⟩
  all_goals
    have h2 := hL.1
    refine R_iload_n 1 rfl dX10_isParish_0 rfl ?_
    refine R_iconst 2 rfl dX10_isParish_1 ?_
    refine R_aload_n 3 rfl dX10_isParish_2 rfl ?_
    refine R_getP 2 6 rfl dX10_isParish_3 rfl rfl fl_X10_26 (PO_o hPO) ?_
    refine R_getI 0 9 rfl dX10_isParish_6 rfl rfl fl_X10_125 ?_
    refine R_iconst 10 rfl dX10_isParish_9 ?_
    refine R_isub 11 rfl dX10_isParish_10 ?_
    refine R_callS_i (M' := mX10_within) 14 rfl dX10_isParish_11 ml_X10_108 kmX10_within st_X10_within (c_X10_within _ _ _ (by first | assumption | exact ⟨by omega, by omega⟩) (by first | assumption | exact ⟨by omega, by omega⟩) (by first | assumption | exact ⟨by omega, by omega⟩)) rfl rfl ⟨Nat.le_of_ble_eq_true rfl, Nat.le_of_ble_eq_true rfl⟩ (Nat.le_of_ble_eq_true rfl) ⟨Nat.le_of_ble_eq_true rfl, Nat.le_of_ble_eq_true rfl⟩ ?_
    refine R_zreturn dX10_isParish_14 rfl (by first | decide | exact pI_01 _) ?_
    exact Qi_mk (pI_congr (by omega))
theorem c_X10_areParishes (z : Int) (hCS : CS o d L B ch m) (hz : rg z) : C Γ mX10_areParishes 1 40 0 0 [vr 0, vi z] SH m (Qi SH m (pI (0 ≤ z ∧ z ≤ allB L))) := by
  refine C_of_R rfl (Nat.le_of_ble_eq_true rfl) ?_
  obtain ⟨hPO, -, -, hL, hLO, -⟩ := hCS
  have hP := hPO.2
  have h1 := allB_rg hLO
  have hL2 := hL
  rcases hL with ⟨rfl, hL⟩ | ⟨rfl, hL⟩
  all_goals
    refine R_iload_n 1 rfl dX10_areParishes_0 rfl ?_
    refine R_iconst 2 rfl dX10_areParishes_1 ?_
    refine R_aload_n 3 rfl dX10_areParishes_2 rfl ?_
    refine R_getP 2 6 rfl dX10_areParishes_3 rfl rfl fl_X10_26 (PO_o hPO) ?_
    refine R_callV_i (M' := mX4_allParishes) 9 rfl dX10_areParishes_6 ml_X10_273 kmX4_allParishes im_X4_allParishes se_X4_allParishes rfl ⟨by decide, rfl⟩ (c_X4_allParishes hL2 hLO) rfl rfl ⟨Nat.le_of_ble_eq_true rfl, Nat.le_of_ble_eq_true rfl⟩ (Nat.le_of_ble_eq_true rfl) ⟨Nat.le_of_ble_eq_true rfl, Nat.le_of_ble_eq_true rfl⟩ ?_
    refine R_callS_i (M' := mX10_within) 12 rfl dX10_areParishes_9 ml_X10_108 kmX10_within st_X10_within (c_X10_within _ _ _ (by first | assumption | exact ⟨by omega, by omega⟩) (by first | assumption | exact ⟨by omega, by omega⟩) (by first | assumption | exact ⟨by omega, by omega⟩)) rfl rfl ⟨Nat.le_of_ble_eq_true rfl, Nat.le_of_ble_eq_true rfl⟩ (Nat.le_of_ble_eq_true rfl) ⟨Nat.le_of_ble_eq_true rfl, Nat.le_of_ble_eq_true rfl⟩ ?_
    refine R_zreturn dX10_areParishes_12 rfl (by first | decide | exact pI_01 _) ?_
    exact Qi_mk rfl
theorem c_X10_isInBooks (z : Int) (hCS : CS o d L B ch m) (hz : rg z) : C Γ mX10_isInBooks 1 40 0 0 [vr 0, vi z] SH m (Qi SH m (pI (0 ≤ z ∧ z < B.1))) := by
  refine C_of_R rfl (Nat.le_of_ble_eq_true rfl) ?_
  obtain ⟨hPO, hB, hO, -⟩ := hCS
  have hP := hPO.2
  have h1 := hB.1
  have h2 := hO.1
  refine R_iload_n 1 rfl dX10_isInBooks_0 rfl ?_
  refine R_iconst 2 rfl dX10_isInBooks_1 ?_
  refine R_aload_n 3 rfl dX10_isInBooks_2 rfl ?_
  refine R_getP 5 6 rfl dX10_isInBooks_3 rfl rfl fl_X10_40 (hP _ _ _ rfl) ?_
  refine R_getI 0 9 rfl dX10_isInBooks_6 rfl rfl fl_X10_179 ?_
  refine R_iconst 10 rfl dX10_isInBooks_9 ?_
  refine R_isub 11 rfl dX10_isInBooks_10 ?_
  refine R_callS_i (M' := mX10_within) 14 rfl dX10_isInBooks_11 ml_X10_108 kmX10_within st_X10_within (c_X10_within _ _ _ (by first | assumption | exact ⟨by omega, by omega⟩) (by first | assumption | exact ⟨by omega, by omega⟩) (by first | assumption | exact ⟨by omega, by omega⟩)) rfl rfl ⟨Nat.le_of_ble_eq_true rfl, Nat.le_of_ble_eq_true rfl⟩ (Nat.le_of_ble_eq_true rfl) ⟨Nat.le_of_ble_eq_true rfl, Nat.le_of_ble_eq_true rfl⟩ ?_
  refine R_zreturn dX10_isInBooks_14 rfl (by first | decide | exact pI_01 _) ?_
  exact Qi_mk (pI_congr (by omega))
theorem c_X10_isMark (z s : Int) (hCS : CS o d L B ch m) (hz : rg z) (hs : rg s) : C Γ mX10_isMark 2 80 0 0 [vr 0, vi z, vi s] SH m (Qi SH m (pI ((0 ≤ z ∧ z < B.1) ∧ 0 ≤ s ∧ s ≤ 1))) := by
  refine C_of_R rfl (Nat.le_of_ble_eq_true rfl) ?_
  refine R_aload_n 1 rfl dX10_isMark_0 rfl ?_
  refine R_iload_n 2 rfl dX10_isMark_1 rfl ?_
  refine R_callV_i (M' := mX10_isInBooks) 5 rfl dX10_isMark_2 ml_X10_199 kmX10_isInBooks im_X10_isInBooks se_X10_isInBooks rfl ⟨by decide, rfl⟩ (c_X10_isInBooks _ hCS (by first | assumption | exact ⟨by omega, by omega⟩)) rfl rfl ⟨Nat.le_of_ble_eq_true rfl, Nat.le_of_ble_eq_true rfl⟩ (Nat.le_of_ble_eq_true rfl) ⟨Nat.le_of_ble_eq_true rfl, Nat.le_of_ble_eq_true rfl⟩ ?_
  refine R_ifp_eq 8 21 rfl rfl dX10_isMark_5 (fun h5 => ?_) (fun h5 => ?_)
  · refine R_iconst 22 rfl dX10_isMark_21 ?_
    refine R_zreturn dX10_isMark_22 rfl (by first | decide | exact pI_01 _) ?_
    exact Qi_mk (by first | rfl | exact pI_1 (by omega) | exact pI_0 (by omega) | omega)
  · refine R_iload_n 9 rfl dX10_isMark_8 rfl ?_
    refine R_iconst 10 rfl dX10_isMark_9 ?_
    refine R_iconst 11 rfl dX10_isMark_10 ?_
    refine R_callS_i (M' := mX10_within) 14 rfl dX10_isMark_11 ml_X10_108 kmX10_within st_X10_within (c_X10_within _ _ _ (by first | assumption | exact ⟨by omega, by omega⟩) (by first | assumption | exact ⟨by omega, by omega⟩) (by first | assumption | exact ⟨by omega, by omega⟩)) rfl rfl ⟨Nat.le_of_ble_eq_true rfl, Nat.le_of_ble_eq_true rfl⟩ (Nat.le_of_ble_eq_true rfl) ⟨Nat.le_of_ble_eq_true rfl, Nat.le_of_ble_eq_true rfl⟩ ?_
    refine R_ifp_eq 17 21 rfl rfl dX10_isMark_14 (fun h14 => ?_) (fun h14 => ?_)
    · refine R_iconst 22 rfl dX10_isMark_21 ?_
      refine R_zreturn dX10_isMark_22 rfl (by first | decide | exact pI_01 _) ?_
      exact Qi_mk (by first | rfl | exact pI_1 (by omega) | exact pI_0 (by omega) | omega)
    · refine R_iconst 18 rfl dX10_isMark_17 ?_
      refine R_goto 22 rfl dX10_isMark_18 ?_
      refine R_zreturn dX10_isMark_22 rfl (by first | decide | exact pI_01 _) ?_
      exact Qi_mk (by first | rfl | exact pI_1 (by omega) | exact pI_0 (by omega) | omega)
theorem c_X10_isSheet {S : Shp} (v : Int) (hv : rg v) : C Γ mX10_isSheet 1 30 0 0 [vi v] S m (Qi S m (pI (0 ≤ v ∧ v ≤ 3))) := by
  refine C_of_R rfl (Nat.le_of_ble_eq_true rfl) ?_
  refine R_iload_n 1 rfl dX10_isSheet_0 rfl ?_
  refine R_iconst 2 rfl dX10_isSheet_1 ?_
  refine R_iconst 3 rfl dX10_isSheet_2 ?_
  refine R_callS_i (M' := mX10_within) 6 rfl dX10_isSheet_3 ml_X10_108 kmX10_within st_X10_within (c_X10_within _ _ _ (by first | assumption | exact ⟨by omega, by omega⟩) (by first | assumption | exact ⟨by omega, by omega⟩) (by first | assumption | exact ⟨by omega, by omega⟩)) rfl rfl ⟨Nat.le_of_ble_eq_true rfl, Nat.le_of_ble_eq_true rfl⟩ (Nat.le_of_ble_eq_true rfl) ⟨Nat.le_of_ble_eq_true rfl, Nat.le_of_ble_eq_true rfl⟩ ?_
  refine R_zreturn dX10_isSheet_6 rfl (by first | decide | exact pI_01 _) ?_
  exact Qi_mk (by first | rfl | exact pI_1 (by omega) | exact pI_0 (by omega) | omega)
theorem c_X10_isLane {S : Shp} (v : Int) (hv : rg v) : C Γ mX10_isLane 1 30 0 0 [vi v] S m (Qi S m (pI (0 ≤ v ∧ v ≤ 2))) := by
  refine C_of_R rfl (Nat.le_of_ble_eq_true rfl) ?_
  refine R_iload_n 1 rfl dX10_isLane_0 rfl ?_
  refine R_iconst 2 rfl dX10_isLane_1 ?_
  refine R_iconst 3 rfl dX10_isLane_2 ?_
  refine R_callS_i (M' := mX10_within) 6 rfl dX10_isLane_3 ml_X10_108 kmX10_within st_X10_within (c_X10_within _ _ _ (by first | assumption | exact ⟨by omega, by omega⟩) (by first | assumption | exact ⟨by omega, by omega⟩) (by first | assumption | exact ⟨by omega, by omega⟩)) rfl rfl ⟨Nat.le_of_ble_eq_true rfl, Nat.le_of_ble_eq_true rfl⟩ (Nat.le_of_ble_eq_true rfl) ⟨Nat.le_of_ble_eq_true rfl, Nat.le_of_ble_eq_true rfl⟩ ?_
  refine R_zreturn dX10_isLane_6 rfl (by first | decide | exact pI_01 _) ?_
  exact Qi_mk (by first | rfl | exact pI_1 (by omega) | exact pI_0 (by omega) | omega)
theorem c_X10_areLearntYears {S : Shp} (a b : Int) (ha : rg a) (hb : rg b) : C Γ mX10_areLearntYears 1 30 0 0 [vi a, vi b] S m (Qi S m (pI ((-60 ≤ a ∧ a ≤ 89) ∧ a ≤ b ∧ b ≤ 89))) := by
  refine C_of_R rfl (Nat.le_of_ble_eq_true rfl) ?_
  refine R_iload_n 1 rfl dX10_areLearntYears_0 rfl ?_
  refine R_bipush 3 rfl dX10_areLearntYears_1 (by decide) ?_
  refine R_bipush 5 rfl dX10_areLearntYears_3 (by decide) ?_
  refine R_callS_i (M' := mX10_within) 8 rfl dX10_areLearntYears_5 ml_X10_108 kmX10_within st_X10_within (c_X10_within _ _ _ (by first | assumption | exact ⟨by omega, by omega⟩) (by first | assumption | exact ⟨by omega, by omega⟩) (by first | assumption | exact ⟨by omega, by omega⟩)) rfl rfl ⟨Nat.le_of_ble_eq_true rfl, Nat.le_of_ble_eq_true rfl⟩ (Nat.le_of_ble_eq_true rfl) ⟨Nat.le_of_ble_eq_true rfl, Nat.le_of_ble_eq_true rfl⟩ ?_
  refine R_ifp_eq 11 25 rfl rfl dX10_areLearntYears_8 (fun h8 => ?_) (fun h8 => ?_)
  · refine R_iconst 26 rfl dX10_areLearntYears_25 ?_
    refine R_zreturn dX10_areLearntYears_26 rfl (by first | decide | exact pI_01 _) ?_
    exact Qi_mk (by first | rfl | exact pI_1 (by omega) | exact pI_0 (by omega) | omega)
  · refine R_iload_n 12 rfl dX10_areLearntYears_11 rfl ?_
    refine R_iload_n 13 rfl dX10_areLearntYears_12 rfl ?_
    refine R_bipush 15 rfl dX10_areLearntYears_13 (by decide) ?_
    refine R_callS_i (M' := mX10_within) 18 rfl dX10_areLearntYears_15 ml_X10_108 kmX10_within st_X10_within (c_X10_within _ _ _ (by first | assumption | exact ⟨by omega, by omega⟩) (by first | assumption | exact ⟨by omega, by omega⟩) (by first | assumption | exact ⟨by omega, by omega⟩)) rfl rfl ⟨Nat.le_of_ble_eq_true rfl, Nat.le_of_ble_eq_true rfl⟩ (Nat.le_of_ble_eq_true rfl) ⟨Nat.le_of_ble_eq_true rfl, Nat.le_of_ble_eq_true rfl⟩ ?_
    refine R_ifp_eq 21 25 rfl rfl dX10_areLearntYears_18 (fun h18 => ?_) (fun h18 => ?_)
    · refine R_iconst 26 rfl dX10_areLearntYears_25 ?_
      refine R_zreturn dX10_areLearntYears_26 rfl (by first | decide | exact pI_01 _) ?_
      exact Qi_mk (by first | rfl | exact pI_1 (by omega) | exact pI_0 (by omega) | omega)
    · refine R_iconst 22 rfl dX10_areLearntYears_21 ?_
      refine R_goto 26 rfl dX10_areLearntYears_22 ?_
      refine R_zreturn dX10_areLearntYears_26 rfl (by first | decide | exact pI_01 _) ?_
      exact Qi_mk (by first | rfl | exact pI_1 (by omega) | exact pI_0 (by omega) | omega)
def isMr (L : Ld) (p y t g b : Int) : Prop := (0 ≤ p ∧ p < L.1 0) ∧ (0 ≤ y ∧ y ≤ 89) ∧ (0 ≤ t ∧ t ≤ 7) ∧ (0 ≤ g ∧ g ≤ 1) ∧ (0 ≤ b ∧ b ≤ 1)
theorem c_X10_isMarriage (p y t g b : Int) (hCS : CS o d L B ch m) (hp : rg p) (hy : rg y) (ht : rg t) (hg : rg g) (hb : rg b) : C Γ mX10_isMarriage 2 80 0 0 [vr 0, vi p, vi y, vi t, vi g, vi b] SH m (Qi SH m (pI ((0 ≤ p ∧ p < L.1 0) ∧ (0 ≤ y ∧ y ≤ 89) ∧ (0 ≤ t ∧ t ≤ 7) ∧ (0 ≤ g ∧ g ≤ 1) ∧ (0 ≤ b ∧ b ≤ 1)))) := by
  refine C_of_R rfl (Nat.le_of_ble_eq_true rfl) ?_
  refine R_aload_n 1 rfl dX10_isMarriage_0 rfl ?_
  refine R_iload_n 2 rfl dX10_isMarriage_1 rfl ?_
  refine R_callV_i (M' := mX10_isParish) 5 rfl dX10_isMarriage_2 ml_X10_149 kmX10_isParish im_X10_isParish se_X10_isParish rfl ⟨by decide, rfl⟩ (c_X10_isParish _ hCS (by first | assumption | exact ⟨by omega, by omega⟩)) rfl rfl ⟨Nat.le_of_ble_eq_true rfl, Nat.le_of_ble_eq_true rfl⟩ (Nat.le_of_ble_eq_true rfl) ⟨Nat.le_of_ble_eq_true rfl, Nat.le_of_ble_eq_true rfl⟩ ?_
  refine R_ifp_eq 8 52 rfl rfl dX10_isMarriage_5 (fun h5 => ?_) (fun h5 => ?_)
  · refine R_iconst 53 rfl dX10_isMarriage_52 ?_
    refine R_zreturn dX10_isMarriage_53 rfl (by first | decide | exact pI_01 _) ?_
    exact Qi_mk (by first | rfl | exact pI_1 (by omega) | exact pI_0 (by omega) | omega)
  · refine R_iload_n 9 rfl dX10_isMarriage_8 rfl ?_
    refine R_iconst 10 rfl dX10_isMarriage_9 ?_
    refine R_bipush 12 rfl dX10_isMarriage_10 (by decide) ?_
    refine R_callS_i (M' := mX10_within) 15 rfl dX10_isMarriage_12 ml_X10_108 kmX10_within st_X10_within (c_X10_within _ _ _ (by first | assumption | exact ⟨by omega, by omega⟩) (by first | assumption | exact ⟨by omega, by omega⟩) (by first | assumption | exact ⟨by omega, by omega⟩)) rfl rfl ⟨Nat.le_of_ble_eq_true rfl, Nat.le_of_ble_eq_true rfl⟩ (Nat.le_of_ble_eq_true rfl) ⟨Nat.le_of_ble_eq_true rfl, Nat.le_of_ble_eq_true rfl⟩ ?_
    refine R_ifp_eq 18 52 rfl rfl dX10_isMarriage_15 (fun h15 => ?_) (fun h15 => ?_)
    · refine R_iconst 53 rfl dX10_isMarriage_52 ?_
      refine R_zreturn dX10_isMarriage_53 rfl (by first | decide | exact pI_01 _) ?_
      exact Qi_mk (by first | rfl | exact pI_1 (by omega) | exact pI_0 (by omega) | omega)
    · refine R_iload_n 19 rfl dX10_isMarriage_18 rfl ?_
      refine R_iconst 20 rfl dX10_isMarriage_19 ?_
      refine R_bipush 22 rfl dX10_isMarriage_20 (by decide) ?_
      refine R_callS_i (M' := mX10_within) 25 rfl dX10_isMarriage_22 ml_X10_108 kmX10_within st_X10_within (c_X10_within _ _ _ (by first | assumption | exact ⟨by omega, by omega⟩) (by first | assumption | exact ⟨by omega, by omega⟩) (by first | assumption | exact ⟨by omega, by omega⟩)) rfl rfl ⟨Nat.le_of_ble_eq_true rfl, Nat.le_of_ble_eq_true rfl⟩ (Nat.le_of_ble_eq_true rfl) ⟨Nat.le_of_ble_eq_true rfl, Nat.le_of_ble_eq_true rfl⟩ ?_
      refine R_ifp_eq 28 52 rfl rfl dX10_isMarriage_25 (fun h25 => ?_) (fun h25 => ?_)
      · refine R_iconst 53 rfl dX10_isMarriage_52 ?_
        refine R_zreturn dX10_isMarriage_53 rfl (by first | decide | exact pI_01 _) ?_
        exact Qi_mk (by first | rfl | exact pI_1 (by omega) | exact pI_0 (by omega) | omega)
      · refine R_iload 30 rfl dX10_isMarriage_28 rfl ?_
        refine R_iconst 31 rfl dX10_isMarriage_30 ?_
        refine R_iconst 32 rfl dX10_isMarriage_31 ?_
        refine R_callS_i (M' := mX10_within) 35 rfl dX10_isMarriage_32 ml_X10_108 kmX10_within st_X10_within (c_X10_within _ _ _ (by first | assumption | exact ⟨by omega, by omega⟩) (by first | assumption | exact ⟨by omega, by omega⟩) (by first | assumption | exact ⟨by omega, by omega⟩)) rfl rfl ⟨Nat.le_of_ble_eq_true rfl, Nat.le_of_ble_eq_true rfl⟩ (Nat.le_of_ble_eq_true rfl) ⟨Nat.le_of_ble_eq_true rfl, Nat.le_of_ble_eq_true rfl⟩ ?_
        refine R_ifp_eq 38 52 rfl rfl dX10_isMarriage_35 (fun h35 => ?_) (fun h35 => ?_)
        · refine R_iconst 53 rfl dX10_isMarriage_52 ?_
          refine R_zreturn dX10_isMarriage_53 rfl (by first | decide | exact pI_01 _) ?_
          exact Qi_mk (by first | rfl | exact pI_1 (by omega) | exact pI_0 (by omega) | omega)
        · refine R_iload 40 rfl dX10_isMarriage_38 rfl ?_
          refine R_iconst 41 rfl dX10_isMarriage_40 ?_
          refine R_iconst 42 rfl dX10_isMarriage_41 ?_
          refine R_callS_i (M' := mX10_within) 45 rfl dX10_isMarriage_42 ml_X10_108 kmX10_within st_X10_within (c_X10_within _ _ _ (by first | assumption | exact ⟨by omega, by omega⟩) (by first | assumption | exact ⟨by omega, by omega⟩) (by first | assumption | exact ⟨by omega, by omega⟩)) rfl rfl ⟨Nat.le_of_ble_eq_true rfl, Nat.le_of_ble_eq_true rfl⟩ (Nat.le_of_ble_eq_true rfl) ⟨Nat.le_of_ble_eq_true rfl, Nat.le_of_ble_eq_true rfl⟩ ?_
          refine R_ifp_eq 48 52 rfl rfl dX10_isMarriage_45 (fun h45 => ?_) (fun h45 => ?_)
          · refine R_iconst 53 rfl dX10_isMarriage_52 ?_
            refine R_zreturn dX10_isMarriage_53 rfl (by first | decide | exact pI_01 _) ?_
            exact Qi_mk (by first | rfl | exact pI_1 (by omega) | exact pI_0 (by omega) | omega)
          · refine R_iconst 49 rfl dX10_isMarriage_48 ?_
            refine R_goto 53 rfl dX10_isMarriage_49 ?_
            refine R_zreturn dX10_isMarriage_53 rfl (by first | decide | exact pI_01 _) ?_
            exact Qi_mk (by first | rfl | exact pI_1 (by omega) | exact pI_0 (by omega) | omega)
def mayB (w v : Int) : Bool := if w = 0 ∨ w = 4 then decide (0 ≤ v ∧ v ≤ 1) else if w = 1 then decide (v = 0 ∨ 16 ≤ v ∧ v ≤ 60) else if w = 2 then decide (0 ≤ v ∧ v ≤ 255) else if w = 3 then decide (0 ≤ v ∧ v ≤ 99) else false
theorem c_X10_mayBe {S : Shp} (w v : Int) (hw : rg w) (hv : rg v) : C Γ mX10_mayBe 1 30 0 0 [vi w, vi v] S m (Qi S m (pI (mayB w v = true))) := by
  refine C_of_R rfl (Nat.le_of_ble_eq_true rfl) ?_
  have hw1 := hw.1
  have hw2 := hw.2
  refine R_iload_n 1 rfl dX10_mayBe_0 rfl ?_
  rcases (show w < 0 ∨ 4 < w ∨ w = 0 ∨ w = 1 ∨ w = 2 ∨ w = 3 ∨ w = 4 by omega) with h1 | h1 | rfl | rfl | rfl | rfl | rfl
  · refine R_tsOut 88 dX10_mayBe_1 (by first | assumption | exact ⟨by omega, by omega⟩) (by omega) rfl ?_
    refine R_iconst 89 rfl dX10_mayBe_88 ?_
    refine R_zreturn dX10_mayBe_89 rfl (by first | decide | exact pI_01 _) ?_
    first | exact Qi_mk (pI_1 (by simp [mayB]; omega)) | exact Qi_mk (pI_0 (by simp [mayB]; omega)) | exact Qi_mk (pI_congr (by simp [mayB])) | exact Qi_mk (pI_0 (by unfold mayB; rw [if_neg (by omega), if_neg (by omega), if_neg (by omega), if_neg (by omega)]; simp))
  · refine R_tsOut 88 dX10_mayBe_1 (by first | assumption | exact ⟨by omega, by omega⟩) (by omega) rfl ?_
    refine R_iconst 89 rfl dX10_mayBe_88 ?_
    refine R_zreturn dX10_mayBe_89 rfl (by first | decide | exact pI_01 _) ?_
    first | exact Qi_mk (pI_1 (by simp [mayB]; omega)) | exact Qi_mk (pI_0 (by simp [mayB]; omega)) | exact Qi_mk (pI_congr (by simp [mayB])) | exact Qi_mk (pI_0 (by unfold mayB; rw [if_neg (by omega), if_neg (by omega), if_neg (by omega), if_neg (by omega)]; simp))
  · refine R_tsIn 36 dX10_mayBe_1 ⟨by omega, by omega⟩ (by omega) (by omega) rfl rfl ?_
    refine R_iload_n 37 rfl dX10_mayBe_36 rfl ?_
    refine R_iconst 38 rfl dX10_mayBe_37 ?_
    refine R_iconst 39 rfl dX10_mayBe_38 ?_
    refine R_callS_i (M' := mX10_within) 42 rfl dX10_mayBe_39 ml_X10_108 kmX10_within st_X10_within (c_X10_within _ _ _ (by first | assumption | exact ⟨by omega, by omega⟩) (by first | assumption | exact ⟨by omega, by omega⟩) (by first | assumption | exact ⟨by omega, by omega⟩)) rfl rfl ⟨Nat.le_of_ble_eq_true rfl, Nat.le_of_ble_eq_true rfl⟩ (Nat.le_of_ble_eq_true rfl) ⟨Nat.le_of_ble_eq_true rfl, Nat.le_of_ble_eq_true rfl⟩ ?_
    refine R_zreturn dX10_mayBe_42 rfl (by first | decide | exact pI_01 _) ?_
    first | exact Qi_mk (pI_1 (by simp [mayB]; omega)) | exact Qi_mk (pI_0 (by simp [mayB]; omega)) | exact Qi_mk (pI_congr (by simp [mayB])) | exact Qi_mk (pI_0 (by unfold mayB; rw [if_neg (by omega), if_neg (by omega), if_neg (by omega), if_neg (by omega)]; simp))
  · refine R_tsIn 43 dX10_mayBe_1 ⟨by omega, by omega⟩ (by omega) (by omega) rfl rfl ?_
    refine R_iload_n 44 rfl dX10_mayBe_43 rfl ?_
    refine R_if_eq 47 58 rfl rfl dX10_mayBe_44 (by first | assumption | exact ⟨by omega, by omega⟩) (fun h44 => ?_) (fun h44 => ?_)
    · refine R_iconst 59 rfl dX10_mayBe_58 ?_
      refine R_goto 63 rfl dX10_mayBe_59 ?_
      refine R_zreturn dX10_mayBe_63 rfl (by first | decide | exact pI_01 _) ?_
      first | exact Qi_mk (pI_1 (by simp [mayB]; omega)) | exact Qi_mk (pI_0 (by simp [mayB]; omega)) | exact Qi_mk (pI_congr (by simp [mayB])) | exact Qi_mk (pI_0 (by unfold mayB; rw [if_neg (by omega), if_neg (by omega), if_neg (by omega), if_neg (by omega)]; simp))
    · refine R_iload_n 48 rfl dX10_mayBe_47 rfl ?_
      refine R_bipush 50 rfl dX10_mayBe_48 (by decide) ?_
      refine R_bipush 52 rfl dX10_mayBe_50 (by decide) ?_
      refine R_callS_i (M' := mX10_within) 55 rfl dX10_mayBe_52 ml_X10_108 kmX10_within st_X10_within (c_X10_within _ _ _ (by first | assumption | exact ⟨by omega, by omega⟩) (by first | assumption | exact ⟨by omega, by omega⟩) (by first | assumption | exact ⟨by omega, by omega⟩)) rfl rfl ⟨Nat.le_of_ble_eq_true rfl, Nat.le_of_ble_eq_true rfl⟩ (Nat.le_of_ble_eq_true rfl) ⟨Nat.le_of_ble_eq_true rfl, Nat.le_of_ble_eq_true rfl⟩ ?_
      refine R_ifp_eq 58 62 rfl rfl dX10_mayBe_55 (fun h55 => ?_) (fun h55 => ?_)
      · refine R_iconst 63 rfl dX10_mayBe_62 ?_
        refine R_zreturn dX10_mayBe_63 rfl (by first | decide | exact pI_01 _) ?_
        first | exact Qi_mk (pI_1 (by simp [mayB]; omega)) | exact Qi_mk (pI_0 (by simp [mayB]; omega)) | exact Qi_mk (pI_congr (by simp [mayB])) | exact Qi_mk (pI_0 (by unfold mayB; rw [if_neg (by omega), if_neg (by omega), if_neg (by omega), if_neg (by omega)]; simp))
      · refine R_iconst 59 rfl dX10_mayBe_58 ?_
        refine R_goto 63 rfl dX10_mayBe_59 ?_
        refine R_zreturn dX10_mayBe_63 rfl (by first | decide | exact pI_01 _) ?_
        first | exact Qi_mk (pI_1 (by simp [mayB]; omega)) | exact Qi_mk (pI_0 (by simp [mayB]; omega)) | exact Qi_mk (pI_congr (by simp [mayB])) | exact Qi_mk (pI_0 (by unfold mayB; rw [if_neg (by omega), if_neg (by omega), if_neg (by omega), if_neg (by omega)]; simp))
  · refine R_tsIn 64 dX10_mayBe_1 ⟨by omega, by omega⟩ (by omega) (by omega) rfl rfl ?_
    refine R_iload_n 65 rfl dX10_mayBe_64 rfl ?_
    refine R_iconst 66 rfl dX10_mayBe_65 ?_
    refine R_sipush 69 rfl dX10_mayBe_66 (by decide) ?_
    refine R_callS_i (M' := mX10_within) 72 rfl dX10_mayBe_69 ml_X10_108 kmX10_within st_X10_within (c_X10_within _ _ _ (by first | assumption | exact ⟨by omega, by omega⟩) (by first | assumption | exact ⟨by omega, by omega⟩) (by first | assumption | exact ⟨by omega, by omega⟩)) rfl rfl ⟨Nat.le_of_ble_eq_true rfl, Nat.le_of_ble_eq_true rfl⟩ (Nat.le_of_ble_eq_true rfl) ⟨Nat.le_of_ble_eq_true rfl, Nat.le_of_ble_eq_true rfl⟩ ?_
    refine R_zreturn dX10_mayBe_72 rfl (by first | decide | exact pI_01 _) ?_
    first | exact Qi_mk (pI_1 (by simp [mayB]; omega)) | exact Qi_mk (pI_0 (by simp [mayB]; omega)) | exact Qi_mk (pI_congr (by simp [mayB])) | exact Qi_mk (pI_0 (by unfold mayB; rw [if_neg (by omega), if_neg (by omega), if_neg (by omega), if_neg (by omega)]; simp))
  · refine R_tsIn 73 dX10_mayBe_1 ⟨by omega, by omega⟩ (by omega) (by omega) rfl rfl ?_
    refine R_iload_n 74 rfl dX10_mayBe_73 rfl ?_
    refine R_iconst 75 rfl dX10_mayBe_74 ?_
    refine R_bipush 77 rfl dX10_mayBe_75 (by decide) ?_
    refine R_callS_i (M' := mX10_within) 80 rfl dX10_mayBe_77 ml_X10_108 kmX10_within st_X10_within (c_X10_within _ _ _ (by first | assumption | exact ⟨by omega, by omega⟩) (by first | assumption | exact ⟨by omega, by omega⟩) (by first | assumption | exact ⟨by omega, by omega⟩)) rfl rfl ⟨Nat.le_of_ble_eq_true rfl, Nat.le_of_ble_eq_true rfl⟩ (Nat.le_of_ble_eq_true rfl) ⟨Nat.le_of_ble_eq_true rfl, Nat.le_of_ble_eq_true rfl⟩ ?_
    refine R_zreturn dX10_mayBe_80 rfl (by first | decide | exact pI_01 _) ?_
    first | exact Qi_mk (pI_1 (by simp [mayB]; omega)) | exact Qi_mk (pI_0 (by simp [mayB]; omega)) | exact Qi_mk (pI_congr (by simp [mayB])) | exact Qi_mk (pI_0 (by unfold mayB; rw [if_neg (by omega), if_neg (by omega), if_neg (by omega), if_neg (by omega)]; simp))
  · refine R_tsIn 81 dX10_mayBe_1 ⟨by omega, by omega⟩ (by omega) (by omega) rfl rfl ?_
    refine R_iload_n 82 rfl dX10_mayBe_81 rfl ?_
    refine R_iconst 83 rfl dX10_mayBe_82 ?_
    refine R_iconst 84 rfl dX10_mayBe_83 ?_
    refine R_callS_i (M' := mX10_within) 87 rfl dX10_mayBe_84 ml_X10_108 kmX10_within st_X10_within (c_X10_within _ _ _ (by first | assumption | exact ⟨by omega, by omega⟩) (by first | assumption | exact ⟨by omega, by omega⟩) (by first | assumption | exact ⟨by omega, by omega⟩)) rfl rfl ⟨Nat.le_of_ble_eq_true rfl, Nat.le_of_ble_eq_true rfl⟩ (Nat.le_of_ble_eq_true rfl) ⟨Nat.le_of_ble_eq_true rfl, Nat.le_of_ble_eq_true rfl⟩ ?_
    refine R_zreturn dX10_mayBe_87 rfl (by first | decide | exact pI_01 _) ?_
    first | exact Qi_mk (pI_1 (by simp [mayB]; omega)) | exact Qi_mk (pI_0 (by simp [mayB]; omega)) | exact Qi_mk (pI_congr (by simp [mayB])) | exact Qi_mk (pI_0 (by unfold mayB; rw [if_neg (by omega), if_neg (by omega), if_neg (by omega), if_neg (by omega)]; simp))
end
