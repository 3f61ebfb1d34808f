theorem pb_assoc {α β γ : Type} {x : PX α} {f : α → PX β} {g : β → PX γ} : pb (pb x f) g = pb x (fun a => pb (f a) g) := by
  cases x <;> rfl
def stR (j : Nat) (y : PX (Int × St)) : PX St := pb y (fun q => .inr (wL q.2 (setR (sL q.2) j q.1)))
theorem num_st {T : Tp} {y : PX (Int × St)} {z hi : Int} {j : Nat} (g : Int → Int) (hz : ∀ v s, y = .inr (v, s) → z = v) : pb (stR j y) (num T (g z) hi) = pb y (fun q => num T (g q.1) hi (wL q.2 (setR (sL q.2) j q.1))) := by
  cases y with
  | inl e => rfl
  | inr q =>
    have := hz q.1 q.2 rfl
    subst this
    rfl
theorem rule_x {T : Tp} {b j : Nat} {lo hi : Int} {st : St} : ruleT T b lo hi j st = stR j (pb (once T b st) (num T lo hi)) := by
  unfold ruleT stR
  rw [pb_assoc]
theorem ages_x {T : Tp} {st : St} : agesT T st = stR 4 (pb (pb (once T 2 st) (num T 16 60)) (fun q => num T q.1 60 (wL q.2 (setR (sL q.2) 3 q.1)))) := by
  unfold agesT stR
  rw [pb_assoc, pb_assoc]
theorem trb_x {T : Tp} {k : Nat} {st : St} : trb T k st = stR (8 + 2 * k) (pb (pb (once T (16 * 2 ^ k) st) (num T 0 999)) (fun q => num T (max 1 q.1) 999 (wL q.2 (setR (sL q.2) (7 + 2 * k) q.1)))) := by
  unfold trb stR
  rw [pb_assoc, pb_assoc]
section
variable {Γ : GX} {m m' : Mem} {T : Tp} {o d : Nat} {P : Nat → Bool} {x : PX St} {L : Ld}
theorem LdC.setF {j : Nat} {z : Int} (h : LdC d m L) (hd : d = 4 ∨ d = 17) (h2 : 2 ≤ j) (h7 : j < 7) : LdC d (setI m d j z) (setR L j z) := by
  obtain ⟨a, b, c, e⟩ := h.u
  refine LdU.c ⟨fun k hk => ?_, fun k hk => ?_, fun r hr q hq => ?_, fun r hr k hk => ?_⟩ hd
  · show (setI m d j z).1 d k = (if k = j then z else L.1 k)
    by_cases q : k = j
    · rw [if_pos q]; simp [setI, q]
    · rw [if_neg q]; simp only [setI]; rw [if_neg (by omega)]; exact a k hk
  · show (setI m d j z).1 (d + 1) k = (if 7 + k = j then z else L.1 (7 + k))
    rw [if_neg (by omega)]; simp only [setI]; rw [if_neg (by omega)]; exact b k hk
  · have hq2 : (q : Int) < (if 0 = j then z else L.1 0) := hq
    rw [if_neg (by omega)] at hq2
    simp only [setI]; rw [if_neg (by omega)]; exact c r hr q hq2
  · have hq2 : (k : Int) < (if 1 = j then z else L.1 1) := hk
    rw [if_neg (by omega)] at hq2
    simp only [setI]; rw [if_neg (by omega)]; exact e r hr k hq2
theorem LdC.setT {j : Nat} {z : Int} (h : LdC d m L) (hd : d = 4 ∨ d = 17) (h4 : j < 4) : LdC d (setI m (d + 1) j z) (setR L (7 + j) z) := by
  obtain ⟨a, b, c, e⟩ := h.u
  refine LdU.c ⟨fun k hk => ?_, fun k hk => ?_, fun r hr q hq => ?_, fun r hr k hk => ?_⟩ hd
  · show (setI m (d + 1) j z).1 d k = (if k = 7 + j then z else L.1 k)
    rw [if_neg (by omega)]; simp only [setI]; rw [if_neg (by omega)]; exact a k hk
  · show (setI m (d + 1) j z).1 (d + 1) k = (if 7 + k = 7 + j then z else L.1 (7 + k))
    by_cases q : k = j
    · rw [if_pos (by omega)]; simp [setI, q]
    · rw [if_neg (by omega)]; simp only [setI]; rw [if_neg (by omega)]; exact b k hk
  · have hq2 : (q : Int) < (if 0 = 7 + j then z else L.1 0) := hq
    rw [if_neg (by omega)] at hq2
    simp only [setI]; rw [if_neg (by omega)]; exact c r hr q hq2
  · have hq2 : (k : Int) < (if 1 = 7 + j then z else L.1 1) := hk
    rw [if_neg (by omega)] at hq2
    simp only [setI]; rw [if_neg (by omega)]; exact e r hr k hq2
theorem LdB.sr {j : Nat} {z : Int} (h : LdB L) (h2 : 2 ≤ j) : LdB (setR L j z) := by
  obtain ⟨a, b, c, e⟩ := h
  have e0 : (setR L j z).1 0 = L.1 0 := by show (if 0 = j then z else L.1 0) = _; rw [if_neg (by omega)]
  have e1 : (setR L j z).1 1 = L.1 1 := by show (if 1 = j then z else L.1 1) = _; rw [if_neg (by omega)]
  exact ⟨by rw [e0]; exact a, by rw [e0]; exact b, by rw [e1]; exact c, by rw [e1]; exact e⟩
theorem PCx.stR {y : PX (Int × St)} {j : Nat} {z : Int} (h : PCx T d m (sx y)) (hz : ∀ v s, y = .inr (v, s) → z = v) (h2 : 2 ≤ j) (e : ∀ k, m'.1 3 k = m.1 3 k) (hl : ∀ L, LdC d m L → LdC d m' (setR L j z)) : PCx T d m' (stR j y) := by
  cases y with
  | inl q =>
    obtain ⟨h1, h2, h3, h4⟩ := h
    exact ⟨by rw [e]; exact h1, by rw [e]; exact h2, by rw [e]; exact h3, h4⟩
  | inr q =>
    obtain ⟨h1, h2', h3, h4, h5, h6, h7, h8, h9⟩ := h
    have ez := hz q.1 q.2 rfl
    rw [ez] at hl
    exact ⟨by rw [e]; exact h1, by rw [e]; exact h2', by rw [e]; exact h3, fun w => by rw [e]; exact h4 w, by rw [e]; exact h5, by rw [e]; exact h6, h7, hl _ h8, LdB.sr h9 h2⟩
theorem c_X5_takeNumber_rg (lo hi : Int) (x : PX St) (hb : PCb o d T m) (hx : PCx T d m x) (r1 : rg lo) (r2 : rg hi) : C Γ mX5_takeNumber 3 120 0 0 [vr 3, vi lo, vi hi] SH m (QI SH (fun z m' => (Fr is3 m m' ∧ PCx T d m' (sx (pb x (num T lo hi))) ∧ ∀ v s, pb x (num T lo hi) = .inr (v, s) → z = v) ∧ rg z)) := by
  refine C_of_R rfl (Nat.le_of_ble_eq_true rfl) ?_
  have hx0 := hx
  cases x with
  | inl e =>
    have g3 : m.1 3 3 = 0 := hx.2.2.1
    refine R_aload_n 1 rfl dX5_takeNumber_0 rfl ?_
    refine R_getI 3 4 rfl dX5_takeNumber_1 rfl rfl fl_X5_40 ?_
    refine R_iconst 5 rfl dX5_takeNumber_4 ?_
    refine R_icmp_eq 8 15 rfl rfl dX5_takeNumber_5 (by first | assumption | exact ⟨by omega, by omega⟩) (by first | assumption | exact ⟨by omega, by omega⟩) (fun h5 => ?_) (fun h5 => ?_)
    · exfalso; omega
    · refine R_aload_n 9 rfl dX5_takeNumber_8 rfl ?_
      refine R_iconst 10 rfl dX5_takeNumber_9 ?_
      refine R_callV_V (M' := mX5_refuse) 13 rfl dX5_takeNumber_10 ml_X5_93 kmX5_refuse im_X5_refuse se_X5_refuse rfl ⟨by decide, rfl⟩ (c_X5_refuse 2 _ hx0 (by omega)) rfl rfl ⟨Nat.le_of_ble_eq_true rfl, Nat.le_of_ble_eq_true rfl⟩ (Nat.le_of_ble_eq_true rfl) ⟨Nat.le_of_ble_eq_true rfl, Nat.le_of_ble_eq_true rfl⟩ ?_
      rintro m10 h10
      obtain ⟨f10, p10⟩ := h10
      refine R_iload_n 14 rfl dX5_takeNumber_13 rfl ?_
      refine R_ireturn dX5_takeNumber_14 rfl ?_
      exact QI_mk ⟨⟨f10, p10, fun v s q => by simp [pb] at q⟩, r1⟩
  | inr st =>
    obtain ⟨g2, g3, g4, g5, g6, g7, v, hL, hB⟩ := hx
    have vn := Vs_num v
    have v4 := v.2.2.2.1
    have en : num T lo hi st = if st.2.2.1 = 2 then (if lo ≤ nv T st.2.1 (st.1 - st.2.1) ∧ nv T st.2.1 (st.1 - st.2.1) ≤ hi then pb (adv T st) (fun s => .inr (nv T st.2.1 (st.1 - st.2.1), s)) else .inl (3, st.2.1)) else .inl (2, st.2.1) := rfl
    refine R_aload_n 1 rfl dX5_takeNumber_0 rfl ?_
    refine R_getI 3 4 rfl dX5_takeNumber_1 rfl rfl fl_X5_40 ?_
    refine R_iconst 5 rfl dX5_takeNumber_4 ?_
    refine R_icmp_eq 8 15 rfl rfl dX5_takeNumber_5 (by first | assumption | exact ⟨by omega, by omega⟩) (by first | assumption | exact ⟨by omega, by omega⟩) (fun h5 => ?_) (fun h5 => ?_)
    · have t2 : st.2.2.1 = 2 := by omega
      have n1 := vn t2
      have n2 := g5 t2
      refine R_aload_n 16 rfl dX5_takeNumber_15 rfl ?_
      refine R_getI 5 19 rfl dX5_takeNumber_16 rfl rfl fl_X5_131 ?_
      rw [n2]
      refine R_iload_n 20 rfl dX5_takeNumber_19 rfl ?_
      refine R_iload_n 21 rfl dX5_takeNumber_20 rfl ?_
      refine R_callN_i (M' := mX10_within) 24 rfl dX5_takeNumber_21 mn_X5_134 kmX10_within st_X10_within (c_X10_within _ _ _ (by first | assumption | exact ⟨by omega, by omega⟩) (by first | assumption | exact ⟨by omega, by omega⟩) (by first | assumption | exact ⟨by omega, by omega⟩)) rfl rfl ⟨Nat.le_of_ble_eq_true rfl, Nat.le_of_ble_eq_true rfl⟩ (Nat.le_of_ble_eq_true rfl) ⟨Nat.le_of_ble_eq_true rfl, Nat.le_of_ble_eq_true rfl⟩ ?_
      refine R_ifp_ne 27 34 rfl rfl dX5_takeNumber_24 (fun h24 => ?_) (fun h24 => ?_)
      · refine R_aload_n 35 rfl dX5_takeNumber_34 rfl ?_
        refine R_getI 5 38 rfl dX5_takeNumber_35 rfl rfl fl_X5_131 ?_
        rw [n2]
        refine R_istore_n [_, _, _, _] 39 rfl dX5_takeNumber_38 rfl (by decide) ?_
        refine R_aload_n 40 rfl dX5_takeNumber_39 rfl ?_
        refine R_callV_V (M' := mX5_advance) 43 rfl dX5_takeNumber_40 ml_X5_37 kmX5_advance im_X5_advance se_X5_advance rfl ⟨by decide, rfl⟩ (c_X5_advance st hb g2 g6 g7 v.2.1 v.2.2.2.2.1 hL hB) rfl rfl ⟨Nat.le_of_ble_eq_true rfl, Nat.le_of_ble_eq_true rfl⟩ (Nat.le_of_ble_eq_true rfl) ⟨Nat.le_of_ble_eq_true rfl, Nat.le_of_ble_eq_true rfl⟩ ?_
        rintro m40 h40
        obtain ⟨f40, p40⟩ := h40
        refine R_iload_n 44 rfl dX5_takeNumber_43 rfl ?_
        refine R_ireturn dX5_takeNumber_44 rfl ?_
        rw [if_pos t2, if_pos (by omega)] at en
        have ep : pb (.inr st : PX St) (num T lo hi) = pb (adv T st) (fun s => .inr (nv T st.2.1 (st.1 - st.2.1), s)) := en
        rw [ep]
        refine QI_mk ⟨⟨f40, ?_, fun v s q => ?_⟩, ⟨by omega, by omega⟩⟩
        · cases ha : adv T st with
          | inl e => rw [ha] at p40; exact p40
          | inr s => rw [ha] at p40; exact p40
        · cases ha : adv T st with
          | inl e => rw [ha] at q; cases q
          | inr s' => rw [ha] at q; cases q; rfl
      · refine R_aload_n 28 rfl dX5_takeNumber_27 rfl ?_
        refine R_iconst 29 rfl dX5_takeNumber_28 ?_
        refine R_callV_V (M' := mX5_refuse) 32 rfl dX5_takeNumber_29 ml_X5_93 kmX5_refuse im_X5_refuse se_X5_refuse rfl ⟨by decide, rfl⟩ (c_X5_refuse 3 _ hx0 (by omega)) rfl rfl ⟨Nat.le_of_ble_eq_true rfl, Nat.le_of_ble_eq_true rfl⟩ (Nat.le_of_ble_eq_true rfl) ⟨Nat.le_of_ble_eq_true rfl, Nat.le_of_ble_eq_true rfl⟩ ?_
        rintro m29 h29
        obtain ⟨f29, p29⟩ := h29
        refine R_iload_n 33 rfl dX5_takeNumber_32 rfl ?_
        refine R_ireturn dX5_takeNumber_33 rfl ?_
        rw [if_pos t2, if_neg (by omega)] at en
        have ep : pb (.inr st : PX St) (num T lo hi) = .inl (3, st.2.1) := en
        rw [ep]
        exact QI_mk ⟨⟨f29, p29, fun v s q => by cases q⟩, r1⟩
    · refine R_aload_n 9 rfl dX5_takeNumber_8 rfl ?_
      refine R_iconst 10 rfl dX5_takeNumber_9 ?_
      refine R_callV_V (M' := mX5_refuse) 13 rfl dX5_takeNumber_10 ml_X5_93 kmX5_refuse im_X5_refuse se_X5_refuse rfl ⟨by decide, rfl⟩ (c_X5_refuse 2 _ hx0 (by omega)) rfl rfl ⟨Nat.le_of_ble_eq_true rfl, Nat.le_of_ble_eq_true rfl⟩ (Nat.le_of_ble_eq_true rfl) ⟨Nat.le_of_ble_eq_true rfl, Nat.le_of_ble_eq_true rfl⟩ ?_
      rintro m10 h10
      obtain ⟨f10, p10⟩ := h10
      refine R_iload_n 14 rfl dX5_takeNumber_13 rfl ?_
      refine R_ireturn dX5_takeNumber_14 rfl ?_
      rw [if_neg (by omega)] at en
      have ep : pb (.inr st : PX St) (num T lo hi) = .inl (2, st.2.1) := en
      rw [ep]
      exact QI_mk ⟨⟨f10, p10, fun v s q => by cases q⟩, r1⟩
theorem c_X5_takeTried4 (st : St) (hΓ : GOk Γ) (hb : PCb o 4 T m) (hx : PCa T 4 m st) : C Γ mX5_takeTried 6 240 0 0 [vr 3] SH m (QV SH (fun m' => Fr (isRD 4) m m' ∧ PCx T 4 m' (triedT T st))) := by
  refine C_of_R rfl (Nat.le_of_ble_eq_true rfl) ?_
  have w3 : ∀ a, isRD 4 a = false → is3 a = false := fun a h => by simp [isRD] at h; simp [is3]; omega
  have L430 : ∀ m1 s, Fr (isRD 4) m m1 → PCb o 4 T m1 → PCa T 4 m1 s → triedT T st = trb T 0 s → R Γ mX5_takeTried { frames := 6, cells := 0, slots := 0, locals := 240 } 0 0 (QV SH (fun m' => Fr (isRD 4) m m' ∧ PCx T 4 m' (triedT T st))) 0 0 43 [some (vr 3), some (vi 0)] [] SH m1 := by
    intro m1 s fm bm pm et
    refine R_aload_n 44 rfl dX5_takeTried_43 rfl ?_
    refine R_bipush 46 rfl dX5_takeTried_44 (by decide) ?_
    refine R_iload_n 47 rfl dX5_takeTried_46 rfl ?_
    refine R_ishl 48 rfl dX5_takeTried_47 (by omega) (by omega) ?_
    refine R_top (b := ((16 : Nat) : Int)) rfl ?_
    refine R_callV_V (M' := mX5_takeOnce) 51 rfl dX5_takeTried_48 ml_X5_67 kmX5_takeOnce im_X5_takeOnce se_X5_takeOnce rfl ⟨by decide, rfl⟩ (c_X5_takeOnce 16 s (by decide) bm pm) rfl rfl ⟨Nat.le_of_ble_eq_true rfl, Nat.le_of_ble_eq_true rfl⟩ (Nat.le_of_ble_eq_true rfl) ⟨Nat.le_of_ble_eq_true rfl, Nat.le_of_ble_eq_true rfl⟩ ?_
    rintro m48 h48
    obtain ⟨f48, p48⟩ := h48
    have b48 := bm.fr f48 rfl rfl
    have hP := b48.1.2
    have hD := b48.2.2.2.2
    refine R_aload_n 52 rfl dX5_takeTried_51 rfl ?_
    refine R_getP 1 55 rfl dX5_takeTried_52 rfl rfl fl_X5_15 hD ?_
    refine R_getP 7 58 rfl dX5_takeTried_55 rfl rfl fl_X5_123 (hP _ _ _ rfl) ?_
    refine R_iconst 59 rfl dX5_takeTried_58 ?_
    refine R_iload_n 60 rfl dX5_takeTried_59 rfl ?_
    refine R_imul 61 rfl dX5_takeTried_60 ?_
    refine R_aload_n 62 rfl dX5_takeTried_61 rfl ?_
    refine R_iconst 63 rfl dX5_takeTried_62 ?_
    refine R_sipush 66 rfl dX5_takeTried_63 (by decide) ?_
    refine R_callV_I (M' := mX5_takeNumber) 69 rfl dX5_takeTried_66 ml_X5_71 kmX5_takeNumber im_X5_takeNumber se_X5_takeNumber rfl ⟨by decide, rfl⟩ (c_X5_takeNumber_rg 0 999 (once T 16 s) b48 p48 ⟨by omega, by omega⟩ ⟨by omega, by omega⟩) rfl rfl ⟨Nat.le_of_ble_eq_true rfl, Nat.le_of_ble_eq_true rfl⟩ (Nat.le_of_ble_eq_true rfl) ⟨Nat.le_of_ble_eq_true rfl, Nat.le_of_ble_eq_true rfl⟩ ?_
    rintro z66 m66 h66
    obtain ⟨⟨f66, p66, v66⟩, r66⟩ := h66
    have b66 := b48.fr f66 rfl rfl
    have bs66 : PCb o 4 T (setI m66 5 0 z66) := b66.fr (P := fun a => decide (a = 5)) (Fr.rf.set rfl) rfl rfl
    have ps66 : PCx T 4 (setI m66 5 0 z66) (stR 7 (pb (once T 16 s) (num T 0 999))) := PCx.stR p66 v66 (by decide) (fun k => by simp [setI]) (fun L hl => LdC.setT (j := 0) hl (Or.inl rfl) (by decide))
    clear hP hD
    have hP := b66.1.2
    have hD := b66.2.2.2.2
    refine R_iast 0 70 rfl dX5_takeTried_69 rfl (by first | rfl | omega) (by omega) (by decide) ?_
    refine R_aload_n 71 rfl dX5_takeTried_70 rfl ?_
    refine R_getP 1 74 rfl dX5_takeTried_71 rfl rfl fl_X5_15 hD ?_
    refine R_getP 7 77 rfl dX5_takeTried_74 rfl rfl fl_X5_123 (hP _ _ _ rfl) ?_
    refine R_iconst 78 rfl dX5_takeTried_77 ?_
    refine R_iload_n 79 rfl dX5_takeTried_78 rfl ?_
    refine R_imul 80 rfl dX5_takeTried_79 ?_
    refine R_iconst 81 rfl dX5_takeTried_80 ?_
    refine R_iadd 82 rfl dX5_takeTried_81 ?_
    refine R_aload_n 83 rfl dX5_takeTried_82 rfl ?_
    refine R_iconst 84 rfl dX5_takeTried_83 ?_
    refine R_aload_n 85 rfl dX5_takeTried_84 rfl ?_
    refine R_getP 1 88 rfl dX5_takeTried_85 rfl rfl fl_X5_15 hD ?_
    refine R_getP 7 91 rfl dX5_takeTried_88 rfl rfl fl_X5_123 (hP _ _ _ rfl) ?_
    refine R_iconst 92 rfl dX5_takeTried_91 ?_
    refine R_iload_n 93 rfl dX5_takeTried_92 rfl ?_
    refine R_imul 94 rfl dX5_takeTried_93 ?_
    refine R_iald 0 95 rfl dX5_takeTried_94 rfl (by first | rfl | omega) (by omega) (by decide) ?_
    refine R_top (b := z66) (by simp [setI]) ?_
    have rm1 := r66.1
    have rm2 := r66.2
    have rm : rg (max 1 z66) := ⟨by omega, by omega⟩
    refine R_max 98 rfl dX5_takeTried_95 ml_X5_126 (by first | assumption | exact ⟨by omega, by omega⟩) (by first | assumption | exact ⟨by omega, by omega⟩) ⟨Nat.le_of_ble_eq_true rfl, Nat.le_of_ble_eq_true rfl⟩ ⟨Nat.le_of_ble_eq_true rfl, Nat.le_of_ble_eq_true rfl⟩ ?_
    refine R_sipush 101 rfl dX5_takeTried_98 (by decide) ?_
    refine R_callV_I (M' := mX5_takeNumber) 104 rfl dX5_takeTried_101 ml_X5_71 kmX5_takeNumber im_X5_takeNumber se_X5_takeNumber rfl ⟨by decide, rfl⟩ (c_X5_takeNumber_rg (max 1 z66) 999 (stR 7 (pb (once T 16 s) (num T 0 999))) bs66 ps66 rm ⟨by omega, by omega⟩) rfl rfl ⟨Nat.le_of_ble_eq_true rfl, Nat.le_of_ble_eq_true rfl⟩ (Nat.le_of_ble_eq_true rfl) ⟨Nat.le_of_ble_eq_true rfl, Nat.le_of_ble_eq_true rfl⟩ ?_
    rintro z101 m101 h101
    obtain ⟨⟨f101, p101, v101⟩, r101⟩ := h101
    rw [num_st (max 1) v66] at p101 v101
    have b101 := bs66.fr f101 rfl rfl
    clear hP hD
    have hP := b101.1.2
    have hD := b101.2.2.2.2
    refine R_iast 1 105 rfl dX5_takeTried_104 rfl (by first | rfl | omega) (by omega) (by decide) ?_
    refine R_return dX5_takeTried_105 rfl ?_
    rw [et, trb_x]
    exact QV_mk ⟨((((fm.tr (f48.wk w3)).tr (f66.wk w3)).set rfl).tr (f101.wk w3)).set rfl, PCx.stR p101 v101 (by decide) (fun k => by simp [setI]) (fun L hl => LdC.setT (j := 1) hl (Or.inl rfl) (by decide))⟩
  have L431 : ∀ m1 s, Fr (isRD 4) m m1 → PCb o 4 T m1 → PCa T 4 m1 s → triedT T st = trb T 1 s → R Γ mX5_takeTried { frames := 6, cells := 0, slots := 0, locals := 240 } 0 0 (QV SH (fun m' => Fr (isRD 4) m m' ∧ PCx T 4 m' (triedT T st))) 0 0 43 [some (vr 3), some (vi 1)] [] SH m1 := by
    intro m1 s fm bm pm et
    refine R_aload_n 44 rfl dX5_takeTried_43 rfl ?_
    refine R_bipush 46 rfl dX5_takeTried_44 (by decide) ?_
    refine R_iload_n 47 rfl dX5_takeTried_46 rfl ?_
    refine R_ishl 48 rfl dX5_takeTried_47 (by omega) (by omega) ?_
    refine R_top (b := ((32 : Nat) : Int)) rfl ?_
    refine R_callV_V (M' := mX5_takeOnce) 51 rfl dX5_takeTried_48 ml_X5_67 kmX5_takeOnce im_X5_takeOnce se_X5_takeOnce rfl ⟨by decide, rfl⟩ (c_X5_takeOnce 32 s (by decide) bm pm) rfl rfl ⟨Nat.le_of_ble_eq_true rfl, Nat.le_of_ble_eq_true rfl⟩ (Nat.le_of_ble_eq_true rfl) ⟨Nat.le_of_ble_eq_true rfl, Nat.le_of_ble_eq_true rfl⟩ ?_
    rintro m48 h48
    obtain ⟨f48, p48⟩ := h48
    have b48 := bm.fr f48 rfl rfl
    have hP := b48.1.2
    have hD := b48.2.2.2.2
    refine R_aload_n 52 rfl dX5_takeTried_51 rfl ?_
    refine R_getP 1 55 rfl dX5_takeTried_52 rfl rfl fl_X5_15 hD ?_
    refine R_getP 7 58 rfl dX5_takeTried_55 rfl rfl fl_X5_123 (hP _ _ _ rfl) ?_
    refine R_iconst 59 rfl dX5_takeTried_58 ?_
    refine R_iload_n 60 rfl dX5_takeTried_59 rfl ?_
    refine R_imul 61 rfl dX5_takeTried_60 ?_
    refine R_aload_n 62 rfl dX5_takeTried_61 rfl ?_
    refine R_iconst 63 rfl dX5_takeTried_62 ?_
    refine R_sipush 66 rfl dX5_takeTried_63 (by decide) ?_
    refine R_callV_I (M' := mX5_takeNumber) 69 rfl dX5_takeTried_66 ml_X5_71 kmX5_takeNumber im_X5_takeNumber se_X5_takeNumber rfl ⟨by decide, rfl⟩ (c_X5_takeNumber_rg 0 999 (once T 32 s) b48 p48 ⟨by omega, by omega⟩ ⟨by omega, by omega⟩) rfl rfl ⟨Nat.le_of_ble_eq_true rfl, Nat.le_of_ble_eq_true rfl⟩ (Nat.le_of_ble_eq_true rfl) ⟨Nat.le_of_ble_eq_true rfl, Nat.le_of_ble_eq_true rfl⟩ ?_
    rintro z66 m66 h66
    obtain ⟨⟨f66, p66, v66⟩, r66⟩ := h66
    have b66 := b48.fr f66 rfl rfl
    have bs66 : PCb o 4 T (setI m66 5 2 z66) := b66.fr (P := fun a => decide (a = 5)) (Fr.rf.set rfl) rfl rfl
    have ps66 : PCx T 4 (setI m66 5 2 z66) (stR 9 (pb (once T 32 s) (num T 0 999))) := PCx.stR p66 v66 (by decide) (fun k => by simp [setI]) (fun L hl => LdC.setT (j := 2) hl (Or.inl rfl) (by decide))
    clear hP hD
    have hP := b66.1.2
    have hD := b66.2.2.2.2
    refine R_iast 2 70 rfl dX5_takeTried_69 rfl (by first | rfl | omega) (by omega) (by decide) ?_
    refine R_aload_n 71 rfl dX5_takeTried_70 rfl ?_
    refine R_getP 1 74 rfl dX5_takeTried_71 rfl rfl fl_X5_15 hD ?_
    refine R_getP 7 77 rfl dX5_takeTried_74 rfl rfl fl_X5_123 (hP _ _ _ rfl) ?_
    refine R_iconst 78 rfl dX5_takeTried_77 ?_
    refine R_iload_n 79 rfl dX5_takeTried_78 rfl ?_
    refine R_imul 80 rfl dX5_takeTried_79 ?_
    refine R_iconst 81 rfl dX5_takeTried_80 ?_
    refine R_iadd 82 rfl dX5_takeTried_81 ?_
    refine R_aload_n 83 rfl dX5_takeTried_82 rfl ?_
    refine R_iconst 84 rfl dX5_takeTried_83 ?_
    refine R_aload_n 85 rfl dX5_takeTried_84 rfl ?_
    refine R_getP 1 88 rfl dX5_takeTried_85 rfl rfl fl_X5_15 hD ?_
    refine R_getP 7 91 rfl dX5_takeTried_88 rfl rfl fl_X5_123 (hP _ _ _ rfl) ?_
    refine R_iconst 92 rfl dX5_takeTried_91 ?_
    refine R_iload_n 93 rfl dX5_takeTried_92 rfl ?_
    refine R_imul 94 rfl dX5_takeTried_93 ?_
    refine R_iald 2 95 rfl dX5_takeTried_94 rfl (by first | rfl | omega) (by omega) (by decide) ?_
    refine R_top (b := z66) (by simp [setI]) ?_
    have rm1 := r66.1
    have rm2 := r66.2
    have rm : rg (max 1 z66) := ⟨by omega, by omega⟩
    refine R_max 98 rfl dX5_takeTried_95 ml_X5_126 (by first | assumption | exact ⟨by omega, by omega⟩) (by first | assumption | exact ⟨by omega, by omega⟩) ⟨Nat.le_of_ble_eq_true rfl, Nat.le_of_ble_eq_true rfl⟩ ⟨Nat.le_of_ble_eq_true rfl, Nat.le_of_ble_eq_true rfl⟩ ?_
    refine R_sipush 101 rfl dX5_takeTried_98 (by decide) ?_
    refine R_callV_I (M' := mX5_takeNumber) 104 rfl dX5_takeTried_101 ml_X5_71 kmX5_takeNumber im_X5_takeNumber se_X5_takeNumber rfl ⟨by decide, rfl⟩ (c_X5_takeNumber_rg (max 1 z66) 999 (stR 9 (pb (once T 32 s) (num T 0 999))) bs66 ps66 rm ⟨by omega, by omega⟩) rfl rfl ⟨Nat.le_of_ble_eq_true rfl, Nat.le_of_ble_eq_true rfl⟩ (Nat.le_of_ble_eq_true rfl) ⟨Nat.le_of_ble_eq_true rfl, Nat.le_of_ble_eq_true rfl⟩ ?_
    rintro z101 m101 h101
    obtain ⟨⟨f101, p101, v101⟩, r101⟩ := h101
    rw [num_st (max 1) v66] at p101 v101
    have b101 := bs66.fr f101 rfl rfl
    clear hP hD
    have hP := b101.1.2
    have hD := b101.2.2.2.2
    refine R_iast 3 105 rfl dX5_takeTried_104 rfl (by first | rfl | omega) (by omega) (by decide) ?_
    refine R_return dX5_takeTried_105 rfl ?_
    rw [et, trb_x]
    exact QV_mk ⟨((((fm.tr (f48.wk w3)).tr (f66.wk w3)).set rfl).tr (f101.wk w3)).set rfl, PCx.stR p101 v101 (by decide) (fun k => by simp [setI]) (fun L hl => LdC.setT (j := 3) hl (Or.inl rfl) (by decide))⟩
  obtain ⟨g2, g3, g4, g5, g6, g7, v, hL, hB⟩ := hx
  refine R_aload_n 1 rfl dX5_takeTried_0 rfl ?_
  refine R_callV_V (M' := mX5_advance) 4 rfl dX5_takeTried_1 ml_X5_37 kmX5_advance im_X5_advance se_X5_advance rfl ⟨by decide, rfl⟩ (c_X5_advance st hb g2 g6 g7 v.2.1 v.2.2.2.2.1 hL hB) rfl rfl ⟨Nat.le_of_ble_eq_true rfl, Nat.le_of_ble_eq_true rfl⟩ (Nat.le_of_ble_eq_true rfl) ⟨Nat.le_of_ble_eq_true rfl, Nat.le_of_ble_eq_true rfl⟩ ?_
  rintro m1 h1
  obtain ⟨f1, p1⟩ := h1
  have b1 := hb.fr f1 rfl rfl
  refine R_aload_n 5 rfl dX5_takeTried_4 rfl ?_
  refine R_ldcS 11 7 rfl dX5_takeTried_5 rfl (by decide) ?_
  refine R_callV_i (M' := mX5_isWord) 10 rfl dX5_takeTried_7 ml_X5_48 kmX5_isWord im_X5_isWord se_X5_isWord rfl ⟨by decide, rfl⟩ (c_X5_isWord 11 (adv T st) hΓ (by decide) b1 p1) rfl rfl ⟨Nat.le_of_ble_eq_true rfl, Nat.le_of_ble_eq_true rfl⟩ (Nat.le_of_ble_eq_true rfl) ⟨Nat.le_of_ble_eq_true rfl, Nat.le_of_ble_eq_true rfl⟩ ?_
  refine R_ifp_eq 13 17 rfl rfl dX5_takeTried_10 (fun h10 => ?_) (fun h10 => ?_)
  · refine R_iconst 18 rfl dX5_takeTried_17 ?_
    refine R_istore_n [_, _] 19 rfl dX5_takeTried_18 rfl (by decide) ?_
    refine R_aload_n 20 rfl dX5_takeTried_19 rfl ?_
    refine R_ldcS 11 22 rfl dX5_takeTried_20 rfl (by decide) ?_
    refine R_callV_i (M' := mX5_isWord) 25 rfl dX5_takeTried_22 ml_X5_48 kmX5_isWord im_X5_isWord se_X5_isWord rfl ⟨by decide, rfl⟩ (c_X5_isWord 11 (adv T st) hΓ (by decide) b1 p1) rfl rfl ⟨Nat.le_of_ble_eq_true rfl, Nat.le_of_ble_eq_true rfl⟩ (Nat.le_of_ble_eq_true rfl) ⟨Nat.le_of_ble_eq_true rfl, Nat.le_of_ble_eq_true rfl⟩ ?_
    refine R_ifp_ne 28 43 rfl rfl dX5_takeTried_25 (fun h25 => ?_) (fun h25 => ?_)
    · first
      | exact absurd h10 h25
      | exact absurd h25 h10
      | (cases ha : adv T st with
         | inl e =>
           rw [ha] at h10
           first
           | (exfalso; simp [isWx] at h10; done)
           | (rw [ha] at h34; exfalso; simp [isWx] at h34; done)
         | inr s =>
           rw [ha] at p1
           have et : triedT T st = if isW T 11 s = true then trb T 1 s else if isW T 10 s = true then trb T 0 s else .inl (2, s.2.1) := by unfold triedT; rw [ha]; rfl
           rw [ha] at h10
           have h10' := h10
           simp only [isWx] at h10'
           first
           | (rw [if_pos h10'] at et
              exact L431 _ s (f1.wk w3) b1 p1 et)
           | (rw [ha] at h34
              have h34' := h34
              simp only [isWx] at h34'
              rw [if_neg h10', if_pos h34'] at et
              exact L430 _ s (f1.wk w3) b1 p1 et))
    · refine R_aload_n 29 rfl dX5_takeTried_28 rfl ?_
      refine R_ldcS 10 31 rfl dX5_takeTried_29 rfl (by decide) ?_
      refine R_callV_i (M' := mX5_isWord) 34 rfl dX5_takeTried_31 ml_X5_48 kmX5_isWord im_X5_isWord se_X5_isWord rfl ⟨by decide, rfl⟩ (c_X5_isWord 10 (adv T st) hΓ (by decide) b1 p1) rfl rfl ⟨Nat.le_of_ble_eq_true rfl, Nat.le_of_ble_eq_true rfl⟩ (Nat.le_of_ble_eq_true rfl) ⟨Nat.le_of_ble_eq_true rfl, Nat.le_of_ble_eq_true rfl⟩ ?_
      refine R_ifp_ne 37 43 rfl rfl dX5_takeTried_34 (fun h34 => ?_) (fun h34 => ?_)
      · first
        | exact absurd h10 h25
        | exact absurd h25 h10
        | (cases ha : adv T st with
           | inl e =>
             rw [ha] at h10
             first
             | (exfalso; simp [isWx] at h10; done)
             | (rw [ha] at h34; exfalso; simp [isWx] at h34; done)
           | inr s =>
             rw [ha] at p1
             have et : triedT T st = if isW T 11 s = true then trb T 1 s else if isW T 10 s = true then trb T 0 s else .inl (2, s.2.1) := by unfold triedT; rw [ha]; rfl
             rw [ha] at h10
             have h10' := h10
             simp only [isWx] at h10'
             first
             | (rw [if_pos h10'] at et
                exact L431 _ s (f1.wk w3) b1 p1 et)
             | (rw [ha] at h34
                have h34' := h34
                simp only [isWx] at h34'
                rw [if_neg h10', if_pos h34'] at et
                exact L430 _ s (f1.wk w3) b1 p1 et))
      · refine R_aload_n 38 rfl dX5_takeTried_37 rfl ?_
        refine R_iconst 39 rfl dX5_takeTried_38 ?_
        refine R_callV_V (M' := mX5_refuse) 42 rfl dX5_takeTried_39 ml_X5_93 kmX5_refuse im_X5_refuse se_X5_refuse rfl ⟨by decide, rfl⟩ (c_X5_refuse 2 _ p1 (by omega)) rfl rfl ⟨Nat.le_of_ble_eq_true rfl, Nat.le_of_ble_eq_true rfl⟩ (Nat.le_of_ble_eq_true rfl) ⟨Nat.le_of_ble_eq_true rfl, Nat.le_of_ble_eq_true rfl⟩ ?_
        rintro m39 h39
        obtain ⟨f39, p39⟩ := h39
        refine R_return dX5_takeTried_42 rfl ?_
        first
        | exact absurd h10 h25
        | (have et : triedT T st = rfz (adv T st) 2 := by
             unfold triedT rfz
             cases ha : adv T st with
             | inl e => rfl
             | inr s =>
               rw [ha] at h10 h34
               show (if isW T 11 s = true then trb T 1 s else if isW T 10 s = true then trb T 0 s else .inl (2, s.2.1)) = _
               rw [if_neg (show ¬ isW T 11 s = true from h10), if_neg (show ¬ isW T 10 s = true from h34)]
               rfl
           rw [et]
           exact QV_mk ⟨(f1.tr f39).wk w3, p39⟩)
  · refine R_iconst 14 rfl dX5_takeTried_13 ?_
    refine R_goto 18 rfl dX5_takeTried_14 ?_
    refine R_istore_n [_, _] 19 rfl dX5_takeTried_18 rfl (by decide) ?_
    refine R_aload_n 20 rfl dX5_takeTried_19 rfl ?_
    refine R_ldcS 11 22 rfl dX5_takeTried_20 rfl (by decide) ?_
    refine R_callV_i (M' := mX5_isWord) 25 rfl dX5_takeTried_22 ml_X5_48 kmX5_isWord im_X5_isWord se_X5_isWord rfl ⟨by decide, rfl⟩ (c_X5_isWord 11 (adv T st) hΓ (by decide) b1 p1) rfl rfl ⟨Nat.le_of_ble_eq_true rfl, Nat.le_of_ble_eq_true rfl⟩ (Nat.le_of_ble_eq_true rfl) ⟨Nat.le_of_ble_eq_true rfl, Nat.le_of_ble_eq_true rfl⟩ ?_
    refine R_ifp_ne 28 43 rfl rfl dX5_takeTried_25 (fun h25 => ?_) (fun h25 => ?_)
    · first
      | exact absurd h10 h25
      | exact absurd h25 h10
      | (cases ha : adv T st with
         | inl e =>
           rw [ha] at h10
           first
           | (exfalso; simp [isWx] at h10; done)
           | (rw [ha] at h34; exfalso; simp [isWx] at h34; done)
         | inr s =>
           rw [ha] at p1
           have et : triedT T st = if isW T 11 s = true then trb T 1 s else if isW T 10 s = true then trb T 0 s else .inl (2, s.2.1) := by unfold triedT; rw [ha]; rfl
           rw [ha] at h10
           have h10' := h10
           simp only [isWx] at h10'
           first
           | (rw [if_pos h10'] at et
              exact L431 _ s (f1.wk w3) b1 p1 et)
           | (rw [ha] at h34
              have h34' := h34
              simp only [isWx] at h34'
              rw [if_neg h10', if_pos h34'] at et
              exact L430 _ s (f1.wk w3) b1 p1 et))
    · refine R_aload_n 29 rfl dX5_takeTried_28 rfl ?_
      refine R_ldcS 10 31 rfl dX5_takeTried_29 rfl (by decide) ?_
      refine R_callV_i (M' := mX5_isWord) 34 rfl dX5_takeTried_31 ml_X5_48 kmX5_isWord im_X5_isWord se_X5_isWord rfl ⟨by decide, rfl⟩ (c_X5_isWord 10 (adv T st) hΓ (by decide) b1 p1) rfl rfl ⟨Nat.le_of_ble_eq_true rfl, Nat.le_of_ble_eq_true rfl⟩ (Nat.le_of_ble_eq_true rfl) ⟨Nat.le_of_ble_eq_true rfl, Nat.le_of_ble_eq_true rfl⟩ ?_
      refine R_ifp_ne 37 43 rfl rfl dX5_takeTried_34 (fun h34 => ?_) (fun h34 => ?_)
      · first
        | exact absurd h10 h25
        | exact absurd h25 h10
        | (cases ha : adv T st with
           | inl e =>
             rw [ha] at h10
             first
             | (exfalso; simp [isWx] at h10; done)
             | (rw [ha] at h34; exfalso; simp [isWx] at h34; done)
           | inr s =>
             rw [ha] at p1
             have et : triedT T st = if isW T 11 s = true then trb T 1 s else if isW T 10 s = true then trb T 0 s else .inl (2, s.2.1) := by unfold triedT; rw [ha]; rfl
             rw [ha] at h10
             have h10' := h10
             simp only [isWx] at h10'
             first
             | (rw [if_pos h10'] at et
                exact L431 _ s (f1.wk w3) b1 p1 et)
             | (rw [ha] at h34
                have h34' := h34
                simp only [isWx] at h34'
                rw [if_neg h10', if_pos h34'] at et
                exact L430 _ s (f1.wk w3) b1 p1 et))
      · refine R_aload_n 38 rfl dX5_takeTried_37 rfl ?_
        refine R_iconst 39 rfl dX5_takeTried_38 ?_
        refine R_callV_V (M' := mX5_refuse) 42 rfl dX5_takeTried_39 ml_X5_93 kmX5_refuse im_X5_refuse se_X5_refuse rfl ⟨by decide, rfl⟩ (c_X5_refuse 2 _ p1 (by omega)) rfl rfl ⟨Nat.le_of_ble_eq_true rfl, Nat.le_of_ble_eq_true rfl⟩ (Nat.le_of_ble_eq_true rfl) ⟨Nat.le_of_ble_eq_true rfl, Nat.le_of_ble_eq_true rfl⟩ ?_
        rintro m39 h39
        obtain ⟨f39, p39⟩ := h39
        refine R_return dX5_takeTried_42 rfl ?_
        first
        | exact absurd h10 h25
        | (have et : triedT T st = rfz (adv T st) 2 := by
             unfold triedT rfz
             cases ha : adv T st with
             | inl e => rfl
             | inr s =>
               rw [ha] at h10 h34
               show (if isW T 11 s = true then trb T 1 s else if isW T 10 s = true then trb T 0 s else .inl (2, s.2.1)) = _
               rw [if_neg (show ¬ isW T 11 s = true from h10), if_neg (show ¬ isW T 10 s = true from h34)]
               rfl
           rw [et]
           exact QV_mk ⟨(f1.tr f39).wk w3, p39⟩)
theorem c_X5_takeTried17 (st : St) (hΓ : GOk Γ) (hb : PCb o 17 T m) (hx : PCa T 17 m st) : C Γ mX5_takeTried 6 240 0 0 [vr 3] SH m (QV SH (fun m' => Fr (isRD 17) m m' ∧ PCx T 17 m' (triedT T st))) := by
  refine C_of_R rfl (Nat.le_of_ble_eq_true rfl) ?_
  have w3 : ∀ a, isRD 17 a = false → is3 a = false := fun a h => by simp [isRD] at h; simp [is3]; omega
  have L430 : ∀ m1 s, Fr (isRD 17) m m1 → PCb o 17 T m1 → PCa T 17 m1 s → triedT T st = trb T 0 s → R Γ mX5_takeTried { frames := 6, cells := 0, slots := 0, locals := 240 } 0 0 (QV SH (fun m' => Fr (isRD 17) m m' ∧ PCx T 17 m' (triedT T st))) 0 0 43 [some (vr 3), some (vi 0)] [] SH m1 := by
    intro m1 s fm bm pm et
    refine R_aload_n 44 rfl dX5_takeTried_43 rfl ?_
    refine R_bipush 46 rfl dX5_takeTried_44 (by decide) ?_
    refine R_iload_n 47 rfl dX5_takeTried_46 rfl ?_
    refine R_ishl 48 rfl dX5_takeTried_47 (by omega) (by omega) ?_
    refine R_top (b := ((16 : Nat) : Int)) rfl ?_
    refine R_callV_V (M' := mX5_takeOnce) 51 rfl dX5_takeTried_48 ml_X5_67 kmX5_takeOnce im_X5_takeOnce se_X5_takeOnce rfl ⟨by decide, rfl⟩ (c_X5_takeOnce 16 s (by decide) bm pm) rfl rfl ⟨Nat.le_of_ble_eq_true rfl, Nat.le_of_ble_eq_true rfl⟩ (Nat.le_of_ble_eq_true rfl) ⟨Nat.le_of_ble_eq_true rfl, Nat.le_of_ble_eq_true rfl⟩ ?_
    rintro m48 h48
    obtain ⟨f48, p48⟩ := h48
    have b48 := bm.fr f48 rfl rfl
    have hP := b48.1.2
    have hD := b48.2.2.2.2
    refine R_aload_n 52 rfl dX5_takeTried_51 rfl ?_
    refine R_getP 1 55 rfl dX5_takeTried_52 rfl rfl fl_X5_15 hD ?_
    refine R_getP 7 58 rfl dX5_takeTried_55 rfl rfl fl_X5_123 (hP _ _ _ rfl) ?_
    refine R_iconst 59 rfl dX5_takeTried_58 ?_
    refine R_iload_n 60 rfl dX5_takeTried_59 rfl ?_
    refine R_imul 61 rfl dX5_takeTried_60 ?_
    refine R_aload_n 62 rfl dX5_takeTried_61 rfl ?_
    refine R_iconst 63 rfl dX5_takeTried_62 ?_
    refine R_sipush 66 rfl dX5_takeTried_63 (by decide) ?_
    refine R_callV_I (M' := mX5_takeNumber) 69 rfl dX5_takeTried_66 ml_X5_71 kmX5_takeNumber im_X5_takeNumber se_X5_takeNumber rfl ⟨by decide, rfl⟩ (c_X5_takeNumber_rg 0 999 (once T 16 s) b48 p48 ⟨by omega, by omega⟩ ⟨by omega, by omega⟩) rfl rfl ⟨Nat.le_of_ble_eq_true rfl, Nat.le_of_ble_eq_true rfl⟩ (Nat.le_of_ble_eq_true rfl) ⟨Nat.le_of_ble_eq_true rfl, Nat.le_of_ble_eq_true rfl⟩ ?_
    rintro z66 m66 h66
    obtain ⟨⟨f66, p66, v66⟩, r66⟩ := h66
    have b66 := b48.fr f66 rfl rfl
    have bs66 : PCb o 17 T (setI m66 18 0 z66) := b66.fr (P := fun a => decide (a = 18)) (Fr.rf.set rfl) rfl rfl
    have ps66 : PCx T 17 (setI m66 18 0 z66) (stR 7 (pb (once T 16 s) (num T 0 999))) := PCx.stR p66 v66 (by decide) (fun k => by simp [setI]) (fun L hl => LdC.setT (j := 0) hl (Or.inr rfl) (by decide))
    clear hP hD
    have hP := b66.1.2
    have hD := b66.2.2.2.2
    refine R_iast 0 70 rfl dX5_takeTried_69 rfl (by first | rfl | omega) (by omega) (by decide) ?_
    refine R_aload_n 71 rfl dX5_takeTried_70 rfl ?_
    refine R_getP 1 74 rfl dX5_takeTried_71 rfl rfl fl_X5_15 hD ?_
    refine R_getP 7 77 rfl dX5_takeTried_74 rfl rfl fl_X5_123 (hP _ _ _ rfl) ?_
    refine R_iconst 78 rfl dX5_takeTried_77 ?_
    refine R_iload_n 79 rfl dX5_takeTried_78 rfl ?_
    refine R_imul 80 rfl dX5_takeTried_79 ?_
    refine R_iconst 81 rfl dX5_takeTried_80 ?_
    refine R_iadd 82 rfl dX5_takeTried_81 ?_
    refine R_aload_n 83 rfl dX5_takeTried_82 rfl ?_
    refine R_iconst 84 rfl dX5_takeTried_83 ?_
    refine R_aload_n 85 rfl dX5_takeTried_84 rfl ?_
    refine R_getP 1 88 rfl dX5_takeTried_85 rfl rfl fl_X5_15 hD ?_
    refine R_getP 7 91 rfl dX5_takeTried_88 rfl rfl fl_X5_123 (hP _ _ _ rfl) ?_
    refine R_iconst 92 rfl dX5_takeTried_91 ?_
    refine R_iload_n 93 rfl dX5_takeTried_92 rfl ?_
    refine R_imul 94 rfl dX5_takeTried_93 ?_
    refine R_iald 0 95 rfl dX5_takeTried_94 rfl (by first | rfl | omega) (by omega) (by decide) ?_
    refine R_top (b := z66) (by simp [setI]) ?_
    have rm1 := r66.1
    have rm2 := r66.2
    have rm : rg (max 1 z66) := ⟨by omega, by omega⟩
    refine R_max 98 rfl dX5_takeTried_95 ml_X5_126 (by first | assumption | exact ⟨by omega, by omega⟩) (by first | assumption | exact ⟨by omega, by omega⟩) ⟨Nat.le_of_ble_eq_true rfl, Nat.le_of_ble_eq_true rfl⟩ ⟨Nat.le_of_ble_eq_true rfl, Nat.le_of_ble_eq_true rfl⟩ ?_
    refine R_sipush 101 rfl dX5_takeTried_98 (by decide) ?_
    refine R_callV_I (M' := mX5_takeNumber) 104 rfl dX5_takeTried_101 ml_X5_71 kmX5_takeNumber im_X5_takeNumber se_X5_takeNumber rfl ⟨by decide, rfl⟩ (c_X5_takeNumber_rg (max 1 z66) 999 (stR 7 (pb (once T 16 s) (num T 0 999))) bs66 ps66 rm ⟨by omega, by omega⟩) rfl rfl ⟨Nat.le_of_ble_eq_true rfl, Nat.le_of_ble_eq_true rfl⟩ (Nat.le_of_ble_eq_true rfl) ⟨Nat.le_of_ble_eq_true rfl, Nat.le_of_ble_eq_true rfl⟩ ?_
    rintro z101 m101 h101
    obtain ⟨⟨f101, p101, v101⟩, r101⟩ := h101
    rw [num_st (max 1) v66] at p101 v101
    have b101 := bs66.fr f101 rfl rfl
    clear hP hD
    have hP := b101.1.2
    have hD := b101.2.2.2.2
    refine R_iast 1 105 rfl dX5_takeTried_104 rfl (by first | rfl | omega) (by omega) (by decide) ?_
    refine R_return dX5_takeTried_105 rfl ?_
    rw [et, trb_x]
    exact QV_mk ⟨((((fm.tr (f48.wk w3)).tr (f66.wk w3)).set rfl).tr (f101.wk w3)).set rfl, PCx.stR p101 v101 (by decide) (fun k => by simp [setI]) (fun L hl => LdC.setT (j := 1) hl (Or.inr rfl) (by decide))⟩
  have L431 : ∀ m1 s, Fr (isRD 17) m m1 → PCb o 17 T m1 → PCa T 17 m1 s → triedT T st = trb T 1 s → R Γ mX5_takeTried { frames := 6, cells := 0, slots := 0, locals := 240 } 0 0 (QV SH (fun m' => Fr (isRD 17) m m' ∧ PCx T 17 m' (triedT T st))) 0 0 43 [some (vr 3), some (vi 1)] [] SH m1 := by
    intro m1 s fm bm pm et
    refine R_aload_n 44 rfl dX5_takeTried_43 rfl ?_
    refine R_bipush 46 rfl dX5_takeTried_44 (by decide) ?_
    refine R_iload_n 47 rfl dX5_takeTried_46 rfl ?_
    refine R_ishl 48 rfl dX5_takeTried_47 (by omega) (by omega) ?_
    refine R_top (b := ((32 : Nat) : Int)) rfl ?_
    refine R_callV_V (M' := mX5_takeOnce) 51 rfl dX5_takeTried_48 ml_X5_67 kmX5_takeOnce im_X5_takeOnce se_X5_takeOnce rfl ⟨by decide, rfl⟩ (c_X5_takeOnce 32 s (by decide) bm pm) rfl rfl ⟨Nat.le_of_ble_eq_true rfl, Nat.le_of_ble_eq_true rfl⟩ (Nat.le_of_ble_eq_true rfl) ⟨Nat.le_of_ble_eq_true rfl, Nat.le_of_ble_eq_true rfl⟩ ?_
    rintro m48 h48
    obtain ⟨f48, p48⟩ := h48
    have b48 := bm.fr f48 rfl rfl
    have hP := b48.1.2
    have hD := b48.2.2.2.2
    refine R_aload_n 52 rfl dX5_takeTried_51 rfl ?_
    refine R_getP 1 55 rfl dX5_takeTried_52 rfl rfl fl_X5_15 hD ?_
    refine R_getP 7 58 rfl dX5_takeTried_55 rfl rfl fl_X5_123 (hP _ _ _ rfl) ?_
    refine R_iconst 59 rfl dX5_takeTried_58 ?_
    refine R_iload_n 60 rfl dX5_takeTried_59 rfl ?_
    refine R_imul 61 rfl dX5_takeTried_60 ?_
    refine R_aload_n 62 rfl dX5_takeTried_61 rfl ?_
    refine R_iconst 63 rfl dX5_takeTried_62 ?_
    refine R_sipush 66 rfl dX5_takeTried_63 (by decide) ?_
    refine R_callV_I (M' := mX5_takeNumber) 69 rfl dX5_takeTried_66 ml_X5_71 kmX5_takeNumber im_X5_takeNumber se_X5_takeNumber rfl ⟨by decide, rfl⟩ (c_X5_takeNumber_rg 0 999 (once T 32 s) b48 p48 ⟨by omega, by omega⟩ ⟨by omega, by omega⟩) rfl rfl ⟨Nat.le_of_ble_eq_true rfl, Nat.le_of_ble_eq_true rfl⟩ (Nat.le_of_ble_eq_true rfl) ⟨Nat.le_of_ble_eq_true rfl, Nat.le_of_ble_eq_true rfl⟩ ?_
    rintro z66 m66 h66
    obtain ⟨⟨f66, p66, v66⟩, r66⟩ := h66
    have b66 := b48.fr f66 rfl rfl
    have bs66 : PCb o 17 T (setI m66 18 2 z66) := b66.fr (P := fun a => decide (a = 18)) (Fr.rf.set rfl) rfl rfl
    have ps66 : PCx T 17 (setI m66 18 2 z66) (stR 9 (pb (once T 32 s) (num T 0 999))) := PCx.stR p66 v66 (by decide) (fun k => by simp [setI]) (fun L hl => LdC.setT (j := 2) hl (Or.inr rfl) (by decide))
    clear hP hD
    have hP := b66.1.2
    have hD := b66.2.2.2.2
    refine R_iast 2 70 rfl dX5_takeTried_69 rfl (by first | rfl | omega) (by omega) (by decide) ?_
    refine R_aload_n 71 rfl dX5_takeTried_70 rfl ?_
    refine R_getP 1 74 rfl dX5_takeTried_71 rfl rfl fl_X5_15 hD ?_
    refine R_getP 7 77 rfl dX5_takeTried_74 rfl rfl fl_X5_123 (hP _ _ _ rfl) ?_
    refine R_iconst 78 rfl dX5_takeTried_77 ?_
    refine R_iload_n 79 rfl dX5_takeTried_78 rfl ?_
    refine R_imul 80 rfl dX5_takeTried_79 ?_
    refine R_iconst 81 rfl dX5_takeTried_80 ?_
    refine R_iadd 82 rfl dX5_takeTried_81 ?_
    refine R_aload_n 83 rfl dX5_takeTried_82 rfl ?_
    refine R_iconst 84 rfl dX5_takeTried_83 ?_
    refine R_aload_n 85 rfl dX5_takeTried_84 rfl ?_
    refine R_getP 1 88 rfl dX5_takeTried_85 rfl rfl fl_X5_15 hD ?_
    refine R_getP 7 91 rfl dX5_takeTried_88 rfl rfl fl_X5_123 (hP _ _ _ rfl) ?_
    refine R_iconst 92 rfl dX5_takeTried_91 ?_
    refine R_iload_n 93 rfl dX5_takeTried_92 rfl ?_
    refine R_imul 94 rfl dX5_takeTried_93 ?_
    refine R_iald 2 95 rfl dX5_takeTried_94 rfl (by first | rfl | omega) (by omega) (by decide) ?_
    refine R_top (b := z66) (by simp [setI]) ?_
    have rm1 := r66.1
    have rm2 := r66.2
    have rm : rg (max 1 z66) := ⟨by omega, by omega⟩
    refine R_max 98 rfl dX5_takeTried_95 ml_X5_126 (by first | assumption | exact ⟨by omega, by omega⟩) (by first | assumption | exact ⟨by omega, by omega⟩) ⟨Nat.le_of_ble_eq_true rfl, Nat.le_of_ble_eq_true rfl⟩ ⟨Nat.le_of_ble_eq_true rfl, Nat.le_of_ble_eq_true rfl⟩ ?_
    refine R_sipush 101 rfl dX5_takeTried_98 (by decide) ?_
    refine R_callV_I (M' := mX5_takeNumber) 104 rfl dX5_takeTried_101 ml_X5_71 kmX5_takeNumber im_X5_takeNumber se_X5_takeNumber rfl ⟨by decide, rfl⟩ (c_X5_takeNumber_rg (max 1 z66) 999 (stR 9 (pb (once T 32 s) (num T 0 999))) bs66 ps66 rm ⟨by omega, by omega⟩) rfl rfl ⟨Nat.le_of_ble_eq_true rfl, Nat.le_of_ble_eq_true rfl⟩ (Nat.le_of_ble_eq_true rfl) ⟨Nat.le_of_ble_eq_true rfl, Nat.le_of_ble_eq_true rfl⟩ ?_
    rintro z101 m101 h101
    obtain ⟨⟨f101, p101, v101⟩, r101⟩ := h101
    rw [num_st (max 1) v66] at p101 v101
    have b101 := bs66.fr f101 rfl rfl
    clear hP hD
    have hP := b101.1.2
    have hD := b101.2.2.2.2
    refine R_iast 3 105 rfl dX5_takeTried_104 rfl (by first | rfl | omega) (by omega) (by decide) ?_
    refine R_return dX5_takeTried_105 rfl ?_
    rw [et, trb_x]
    exact QV_mk ⟨((((fm.tr (f48.wk w3)).tr (f66.wk w3)).set rfl).tr (f101.wk w3)).set rfl, PCx.stR p101 v101 (by decide) (fun k => by simp [setI]) (fun L hl => LdC.setT (j := 3) hl (Or.inr rfl) (by decide))⟩
  obtain ⟨g2, g3, g4, g5, g6, g7, v, hL, hB⟩ := hx
  refine R_aload_n 1 rfl dX5_takeTried_0 rfl ?_
  refine R_callV_V (M' := mX5_advance) 4 rfl dX5_takeTried_1 ml_X5_37 kmX5_advance im_X5_advance se_X5_advance rfl ⟨by decide, rfl⟩ (c_X5_advance st hb g2 g6 g7 v.2.1 v.2.2.2.2.1 hL hB) rfl rfl ⟨Nat.le_of_ble_eq_true rfl, Nat.le_of_ble_eq_true rfl⟩ (Nat.le_of_ble_eq_true rfl) ⟨Nat.le_of_ble_eq_true rfl, Nat.le_of_ble_eq_true rfl⟩ ?_
  rintro m1 h1
  obtain ⟨f1, p1⟩ := h1
  have b1 := hb.fr f1 rfl rfl
  refine R_aload_n 5 rfl dX5_takeTried_4 rfl ?_
  refine R_ldcS 11 7 rfl dX5_takeTried_5 rfl (by decide) ?_
  refine R_callV_i (M' := mX5_isWord) 10 rfl dX5_takeTried_7 ml_X5_48 kmX5_isWord im_X5_isWord se_X5_isWord rfl ⟨by decide, rfl⟩ (c_X5_isWord 11 (adv T st) hΓ (by decide) b1 p1) rfl rfl ⟨Nat.le_of_ble_eq_true rfl, Nat.le_of_ble_eq_true rfl⟩ (Nat.le_of_ble_eq_true rfl) ⟨Nat.le_of_ble_eq_true rfl, Nat.le_of_ble_eq_true rfl⟩ ?_
  refine R_ifp_eq 13 17 rfl rfl dX5_takeTried_10 (fun h10 => ?_) (fun h10 => ?_)
  · refine R_iconst 18 rfl dX5_takeTried_17 ?_
    refine R_istore_n [_, _] 19 rfl dX5_takeTried_18 rfl (by decide) ?_
    refine R_aload_n 20 rfl dX5_takeTried_19 rfl ?_
    refine R_ldcS 11 22 rfl dX5_takeTried_20 rfl (by decide) ?_
    refine R_callV_i (M' := mX5_isWord) 25 rfl dX5_takeTried_22 ml_X5_48 kmX5_isWord im_X5_isWord se_X5_isWord rfl ⟨by decide, rfl⟩ (c_X5_isWord 11 (adv T st) hΓ (by decide) b1 p1) rfl rfl ⟨Nat.le_of_ble_eq_true rfl, Nat.le_of_ble_eq_true rfl⟩ (Nat.le_of_ble_eq_true rfl) ⟨Nat.le_of_ble_eq_true rfl, Nat.le_of_ble_eq_true rfl⟩ ?_
    refine R_ifp_ne 28 43 rfl rfl dX5_takeTried_25 (fun h25 => ?_) (fun h25 => ?_)
    · first
      | exact absurd h10 h25
      | exact absurd h25 h10
      | (cases ha : adv T st with
         | inl e =>
           rw [ha] at h10
           first
           | (exfalso; simp [isWx] at h10; done)
           | (rw [ha] at h34; exfalso; simp [isWx] at h34; done)
         | inr s =>
           rw [ha] at p1
           have et : triedT T st = if isW T 11 s = true then trb T 1 s else if isW T 10 s = true then trb T 0 s else .inl (2, s.2.1) := by unfold triedT; rw [ha]; rfl
           rw [ha] at h10
           have h10' := h10
           simp only [isWx] at h10'
           first
           | (rw [if_pos h10'] at et
              exact L431 _ s (f1.wk w3) b1 p1 et)
           | (rw [ha] at h34
              have h34' := h34
              simp only [isWx] at h34'
              rw [if_neg h10', if_pos h34'] at et
              exact L430 _ s (f1.wk w3) b1 p1 et))
    · refine R_aload_n 29 rfl dX5_takeTried_28 rfl ?_
      refine R_ldcS 10 31 rfl dX5_takeTried_29 rfl (by decide) ?_
      refine R_callV_i (M' := mX5_isWord) 34 rfl dX5_takeTried_31 ml_X5_48 kmX5_isWord im_X5_isWord se_X5_isWord rfl ⟨by decide, rfl⟩ (c_X5_isWord 10 (adv T st) hΓ (by decide) b1 p1) rfl rfl ⟨Nat.le_of_ble_eq_true rfl, Nat.le_of_ble_eq_true rfl⟩ (Nat.le_of_ble_eq_true rfl) ⟨Nat.le_of_ble_eq_true rfl, Nat.le_of_ble_eq_true rfl⟩ ?_
      refine R_ifp_ne 37 43 rfl rfl dX5_takeTried_34 (fun h34 => ?_) (fun h34 => ?_)
      · first
        | exact absurd h10 h25
        | exact absurd h25 h10
        | (cases ha : adv T st with
           | inl e =>
             rw [ha] at h10
             first
             | (exfalso; simp [isWx] at h10; done)
             | (rw [ha] at h34; exfalso; simp [isWx] at h34; done)
           | inr s =>
             rw [ha] at p1
             have et : triedT T st = if isW T 11 s = true then trb T 1 s else if isW T 10 s = true then trb T 0 s else .inl (2, s.2.1) := by unfold triedT; rw [ha]; rfl
             rw [ha] at h10
             have h10' := h10
             simp only [isWx] at h10'
             first
             | (rw [if_pos h10'] at et
                exact L431 _ s (f1.wk w3) b1 p1 et)
             | (rw [ha] at h34
                have h34' := h34
                simp only [isWx] at h34'
                rw [if_neg h10', if_pos h34'] at et
                exact L430 _ s (f1.wk w3) b1 p1 et))
      · refine R_aload_n 38 rfl dX5_takeTried_37 rfl ?_
        refine R_iconst 39 rfl dX5_takeTried_38 ?_
        refine R_callV_V (M' := mX5_refuse) 42 rfl dX5_takeTried_39 ml_X5_93 kmX5_refuse im_X5_refuse se_X5_refuse rfl ⟨by decide, rfl⟩ (c_X5_refuse 2 _ p1 (by omega)) rfl rfl ⟨Nat.le_of_ble_eq_true rfl, Nat.le_of_ble_eq_true rfl⟩ (Nat.le_of_ble_eq_true rfl) ⟨Nat.le_of_ble_eq_true rfl, Nat.le_of_ble_eq_true rfl⟩ ?_
        rintro m39 h39
        obtain ⟨f39, p39⟩ := h39
        refine R_return dX5_takeTried_42 rfl ?_
        first
        | exact absurd h10 h25
        | (have et : triedT T st = rfz (adv T st) 2 := by
             unfold triedT rfz
             cases ha : adv T st with
             | inl e => rfl
             | inr s =>
               rw [ha] at h10 h34
               show (if isW T 11 s = true then trb T 1 s else if isW T 10 s = true then trb T 0 s else .inl (2, s.2.1)) = _
               rw [if_neg (show ¬ isW T 11 s = true from h10), if_neg (show ¬ isW T 10 s = true from h34)]
               rfl
           rw [et]
           exact QV_mk ⟨(f1.tr f39).wk w3, p39⟩)
  · refine R_iconst 14 rfl dX5_takeTried_13 ?_
    refine R_goto 18 rfl dX5_takeTried_14 ?_
    refine R_istore_n [_, _] 19 rfl dX5_takeTried_18 rfl (by decide) ?_
    refine R_aload_n 20 rfl dX5_takeTried_19 rfl ?_
    refine R_ldcS 11 22 rfl dX5_takeTried_20 rfl (by decide) ?_
    refine R_callV_i (M' := mX5_isWord) 25 rfl dX5_takeTried_22 ml_X5_48 kmX5_isWord im_X5_isWord se_X5_isWord rfl ⟨by decide, rfl⟩ (c_X5_isWord 11 (adv T st) hΓ (by decide) b1 p1) rfl rfl ⟨Nat.le_of_ble_eq_true rfl, Nat.le_of_ble_eq_true rfl⟩ (Nat.le_of_ble_eq_true rfl) ⟨Nat.le_of_ble_eq_true rfl, Nat.le_of_ble_eq_true rfl⟩ ?_
    refine R_ifp_ne 28 43 rfl rfl dX5_takeTried_25 (fun h25 => ?_) (fun h25 => ?_)
    · first
      | exact absurd h10 h25
      | exact absurd h25 h10
      | (cases ha : adv T st with
         | inl e =>
           rw [ha] at h10
           first
           | (exfalso; simp [isWx] at h10; done)
           | (rw [ha] at h34; exfalso; simp [isWx] at h34; done)
         | inr s =>
           rw [ha] at p1
           have et : triedT T st = if isW T 11 s = true then trb T 1 s else if isW T 10 s = true then trb T 0 s else .inl (2, s.2.1) := by unfold triedT; rw [ha]; rfl
           rw [ha] at h10
           have h10' := h10
           simp only [isWx] at h10'
           first
           | (rw [if_pos h10'] at et
              exact L431 _ s (f1.wk w3) b1 p1 et)
           | (rw [ha] at h34
              have h34' := h34
              simp only [isWx] at h34'
              rw [if_neg h10', if_pos h34'] at et
              exact L430 _ s (f1.wk w3) b1 p1 et))
    · refine R_aload_n 29 rfl dX5_takeTried_28 rfl ?_
      refine R_ldcS 10 31 rfl dX5_takeTried_29 rfl (by decide) ?_
      refine R_callV_i (M' := mX5_isWord) 34 rfl dX5_takeTried_31 ml_X5_48 kmX5_isWord im_X5_isWord se_X5_isWord rfl ⟨by decide, rfl⟩ (c_X5_isWord 10 (adv T st) hΓ (by decide) b1 p1) rfl rfl ⟨Nat.le_of_ble_eq_true rfl, Nat.le_of_ble_eq_true rfl⟩ (Nat.le_of_ble_eq_true rfl) ⟨Nat.le_of_ble_eq_true rfl, Nat.le_of_ble_eq_true rfl⟩ ?_
      refine R_ifp_ne 37 43 rfl rfl dX5_takeTried_34 (fun h34 => ?_) (fun h34 => ?_)
      · first
        | exact absurd h10 h25
        | exact absurd h25 h10
        | (cases ha : adv T st with
           | inl e =>
             rw [ha] at h10
             first
             | (exfalso; simp [isWx] at h10; done)
             | (rw [ha] at h34; exfalso; simp [isWx] at h34; done)
           | inr s =>
             rw [ha] at p1
             have et : triedT T st = if isW T 11 s = true then trb T 1 s else if isW T 10 s = true then trb T 0 s else .inl (2, s.2.1) := by unfold triedT; rw [ha]; rfl
             rw [ha] at h10
             have h10' := h10
             simp only [isWx] at h10'
             first
             | (rw [if_pos h10'] at et
                exact L431 _ s (f1.wk w3) b1 p1 et)
             | (rw [ha] at h34
                have h34' := h34
                simp only [isWx] at h34'
                rw [if_neg h10', if_pos h34'] at et
                exact L430 _ s (f1.wk w3) b1 p1 et))
      · refine R_aload_n 38 rfl dX5_takeTried_37 rfl ?_
        refine R_iconst 39 rfl dX5_takeTried_38 ?_
        refine R_callV_V (M' := mX5_refuse) 42 rfl dX5_takeTried_39 ml_X5_93 kmX5_refuse im_X5_refuse se_X5_refuse rfl ⟨by decide, rfl⟩ (c_X5_refuse 2 _ p1 (by omega)) rfl rfl ⟨Nat.le_of_ble_eq_true rfl, Nat.le_of_ble_eq_true rfl⟩ (Nat.le_of_ble_eq_true rfl) ⟨Nat.le_of_ble_eq_true rfl, Nat.le_of_ble_eq_true rfl⟩ ?_
        rintro m39 h39
        obtain ⟨f39, p39⟩ := h39
        refine R_return dX5_takeTried_42 rfl ?_
        first
        | exact absurd h10 h25
        | (have et : triedT T st = rfz (adv T st) 2 := by
             unfold triedT rfz
             cases ha : adv T st with
             | inl e => rfl
             | inr s =>
               rw [ha] at h10 h34
               show (if isW T 11 s = true then trb T 1 s else if isW T 10 s = true then trb T 0 s else .inl (2, s.2.1)) = _
               rw [if_neg (show ¬ isW T 11 s = true from h10), if_neg (show ¬ isW T 10 s = true from h34)]
               rfl
           rw [et]
           exact QV_mk ⟨(f1.tr f39).wk w3, p39⟩)
end
