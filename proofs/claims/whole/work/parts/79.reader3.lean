def isWx (T : Tp) (j : Nat) (x : PX St) : Bool := match x with
  | .inl _ => false
  | .inr st => isW T j st
def sx {α : Type} (y : PX (α × St)) : PX St := pb y (fun q => .inr q.2)
theorem isW_iff {T : Tp} {j : Nat} {st : St} : isW T j st = true ↔ (st.2.2.1 = 1 ∧ st.1 - st.2.1 = lenJS.getD j 0 ∧ ∀ i, i < lenJS.getD j 0 → T.2 (st.2.1 + i) = ltr j i) := by
  unfold isW
  rw [Bool.and_eq_true, Bool.and_eq_true, decide_eq_true_eq, decide_eq_true_eq, allN_iff]
  constructor
  · rintro ⟨⟨a, b⟩, c⟩; exact ⟨a, b, fun i hi => of_decide_eq_true (c i hi)⟩
  · rintro ⟨a, b, c⟩; exact ⟨⟨a, b⟩, fun i hi => decide_eq_true (c i hi)⟩
section
variable {Γ : GX} {m m' : Mem} {T : Tp} {o d : Nat} {P : Nat → Bool} {x : PX St}
theorem c_X5_isWord (i : Nat) (x : PX St) (hΓ : GOk Γ) (hi : i < 12) (hb : PCb o d T m) (hx : PCx T d m x) : C Γ mX5_isWord 4 160 0 0 [vr 3, vr (1000000 + i)] SH m (Qi SH m (pI (isWx T i x = true))) := by
  refine C_of_R rfl (Nat.le_of_ble_eq_true rfl) ?_
  cases x with
  | inl e =>
    have g3 : m.1 3 3 = 0 := hx.2.2.1
    refine R_aload_n 1 rfl dX5_isWord_0 rfl ?_
    refine R_getI 3 4 rfl dX5_isWord_1 rfl rfl fl_X5_40 ?_
    refine R_iconst 5 rfl dX5_isWord_4 ?_
    refine R_icmp_ne 8 24 rfl rfl dX5_isWord_5 (by first | assumption | exact ⟨by omega, by omega⟩) (by first | assumption | exact ⟨by omega, by omega⟩) (fun h5 => ?_) (fun h5 => ?_)
    · refine R_iconst 25 rfl dX5_isWord_24 ?_
      refine R_zreturn dX5_isWord_25 rfl (by first | decide | exact pI_01 _) ?_
      exact Qi_mk (pI_0 (by simp [isWx]))
    · exfalso; omega
  | inr st =>
    obtain ⟨g2, g3, g4, g5, g6, g7, v, -⟩ := hx
    obtain ⟨v1, v2, v3, v4, v5, -⟩ := v
    have hl := hb.2.2.1.1
    have hP := hb.1.2
    have ll := len_rg i hi
    have iw := isW_iff (T := T) (j := i) (st := st)
    have Lp : st.2.2.1 = 1 → st.1 - st.2.1 = lenJS.getD i 0 → ∀ k, k ≤ lenJS.getD i 0 → ∀ z, z = (k : Int) → (∀ q, q < k → T.2 (st.2.1 + q) = ltr i q) → R Γ mX5_isWord { frames := 4, cells := 0, slots := 0, locals := 160 } 0 0 (Qi SH m (pI (isWx T i (.inr st) = true))) 0 0 28 [some (vr 3), some (vr (1000000 + i)), some (vi z)] [] SH m := by
      intro t1 t2
      refine up_ind (lenJS.getD i 0) (fun k hk ih z hz hq => ?_)
      refine R_iload_n 29 rfl dX5_isWord_28 rfl ?_
      refine R_aload_n 30 rfl dX5_isWord_29 rfl ?_
      refine R_strlen 33 hΓ hi rfl dX5_isWord_30 ml_X5_157 ⟨Nat.le_of_ble_eq_true rfl, Nat.le_of_ble_eq_true rfl⟩ ⟨Nat.le_of_ble_eq_true rfl, Nat.le_of_ble_eq_true rfl⟩ (Nat.le_of_ble_eq_true rfl) ?_
      refine R_icmp_ge 36 66 rfl rfl dX5_isWord_33 (by first | assumption | exact ⟨by omega, by omega⟩) (by first | assumption | exact ⟨by omega, by omega⟩) (fun h33 => ?_) (fun h33 => ?_)
      · refine R_iconst 67 rfl dX5_isWord_66 ?_
        refine R_zreturn dX5_isWord_67 rfl (by first | decide | exact pI_01 _) ?_
        exact Qi_mk (pI_1 (iw.mpr ⟨t1, t2, fun q h => hq q (by omega)⟩))
      · have lr := ltr_rg i hi k (by omega)
        have b1 := hb.2.1.2 (st.2.1 + k) (by omega)
        have b2 := hb.2.2.1.2 (st.2.1 + k) (by omega)
        have b3 := bm_cases b2
        refine R_aload_n 37 rfl dX5_isWord_36 rfl ?_
        refine R_getP 0 40 rfl dX5_isWord_37 rfl rfl fl_X5_9 hb.2.2.2.1 ?_
        refine R_getP 0 43 rfl dX5_isWord_40 rfl rfl fl_X5_153 (hP _ _ _ rfl) ?_
        refine R_aload_n 44 rfl dX5_isWord_43 rfl ?_
        refine R_getI 4 47 rfl dX5_isWord_44 rfl rfl fl_X5_138 ?_
        refine R_iload_n 48 rfl dX5_isWord_47 rfl ?_
        refine R_iadd 49 rfl dX5_isWord_48 ?_
        refine R_bald (st.2.1 + k) 50 rfl dX5_isWord_49 rfl (by first | rfl | omega) (by omega) (by decide) ?_
        refine R_aload_n 51 rfl dX5_isWord_50 rfl ?_
        refine R_iload_n 52 rfl dX5_isWord_51 rfl ?_
        refine R_strchar k 55 hΓ hi (by first | rfl | omega) (by omega) rfl dX5_isWord_52 ml_X5_162 ⟨Nat.le_of_ble_eq_true rfl, Nat.le_of_ble_eq_true rfl⟩ ⟨Nat.le_of_ble_eq_true rfl, Nat.le_of_ble_eq_true rfl⟩ (Nat.le_of_ble_eq_true rfl) ?_
        refine R_icmp_eq 58 60 rfl rfl dX5_isWord_55 (by first | assumption | exact ⟨by omega, by omega⟩) (by first | assumption | exact ⟨by omega, by omega⟩) (fun h55 => ?_) (fun h55 => ?_)
        · refine R_iinc [_, _, _] 63 rfl dX5_isWord_60 rfl rfl (by decide) ?_
          refine R_goto 28 rfl dX5_isWord_63 ?_
          refine ih (by omega) _ (by omega) (fun q h => ?_)
          by_cases e : q = k
          · subst e; omega
          · exact hq q (by omega)
        · refine R_iconst 59 rfl dX5_isWord_58 ?_
          refine R_zreturn dX5_isWord_59 rfl (by first | decide | exact pI_01 _) ?_
          exact Qi_mk (pI_0 (fun w => by have := (iw.mp w).2.2 k (by omega); omega))
    refine R_aload_n 1 rfl dX5_isWord_0 rfl ?_
    refine R_getI 3 4 rfl dX5_isWord_1 rfl rfl fl_X5_40 ?_
    refine R_iconst 5 rfl dX5_isWord_4 ?_
    refine R_icmp_ne 8 24 rfl rfl dX5_isWord_5 (by first | assumption | exact ⟨by omega, by omega⟩) (by first | assumption | exact ⟨by omega, by omega⟩) (fun h5 => ?_) (fun h5 => ?_)
    · refine R_iconst 25 rfl dX5_isWord_24 ?_
      refine R_zreturn dX5_isWord_25 rfl (by first | decide | exact pI_01 _) ?_
      exact Qi_mk (pI_0 (fun w => by have := iw.mp w; omega))
    · refine R_aload_n 9 rfl dX5_isWord_8 rfl ?_
      refine R_getI 2 12 rfl dX5_isWord_9 rfl rfl fl_X5_24 ?_
      refine R_aload_n 13 rfl dX5_isWord_12 rfl ?_
      refine R_getI 4 16 rfl dX5_isWord_13 rfl rfl fl_X5_138 ?_
      refine R_isub 17 rfl dX5_isWord_16 ?_
      refine R_aload_n 18 rfl dX5_isWord_17 rfl ?_
      refine R_strlen 21 hΓ hi rfl dX5_isWord_18 ml_X5_157 ⟨Nat.le_of_ble_eq_true rfl, Nat.le_of_ble_eq_true rfl⟩ ⟨Nat.le_of_ble_eq_true rfl, Nat.le_of_ble_eq_true rfl⟩ (Nat.le_of_ble_eq_true rfl) ?_
      refine R_icmp_eq 24 26 rfl rfl dX5_isWord_21 (by first | assumption | exact ⟨by omega, by omega⟩) (by first | assumption | exact ⟨by omega, by omega⟩) (fun h21 => ?_) (fun h21 => ?_)
      · refine R_iconst 27 rfl dX5_isWord_26 ?_
        refine R_istore_n [_, _, _] 28 rfl dX5_isWord_27 rfl (by decide) ?_
        exact Lp (by omega) (by omega) 0 (by omega) _ rfl (fun q h => by omega)
      · refine R_iconst 25 rfl dX5_isWord_24 ?_
        refine R_zreturn dX5_isWord_25 rfl (by first | decide | exact pI_01 _) ?_
        exact Qi_mk (pI_0 (fun w => by have := iw.mp w; omega))
theorem PCx.dead {e : Int × Nat} (h : PCx T d m (.inl e)) : m.1 3 7 ≠ 0 ∧ (1 ≤ m.1 3 7 ∧ m.1 3 7 ≤ 5) := by
  obtain ⟨h1, -, -, h4, h5⟩ := h
  rw [h1]
  omega
theorem PCx.keep {e : Int × Nat} (h : PCx T d m (.inl e)) : PCx T d (setI m 3 3 0) (.inl e) := by
  obtain ⟨h1, h2, h3, h4, h5⟩ := h
  exact ⟨by simp [setI]; exact h1, by simp [setI]; exact h2, by simp [setI], h4, h5⟩
/-- a fault of a state that stands -/
def rfz (x : PX St) (w : Int) : PX St := pb x (fun s => .inl (w, s.2.1))
theorem c_X5_refuse (w : Int) (x : PX St) (hx : PCx T d m x) (hw : 1 ≤ w ∧ w ≤ 5) : C Γ mX5_refuse 0 0 0 0 [vr 3, vi w] SH m (QV SH (fun m' => Fr is3 m m' ∧ PCx T d m' (rfz x w))) := by
  cases x with
  | inl e =>
    refine C_wk (c_X5_refuse1 w hx.dead.1 hx.dead.2) (fun r S' m' q => ?_)
    obtain ⟨q1, q2, q3⟩ := q
    subst q3
    exact ⟨q1, q2, Fr.rf.set rfl, hx.keep⟩
  | inr st =>
    obtain ⟨g2, g3, g4, g5, g6, g7, v, -⟩ := hx
    refine C_wk (c_X5_refuse0 w g7) (fun r S' m' q => ?_)
    obtain ⟨q1, q2, q3⟩ := q
    subst q3
    exact ⟨q1, q2, ((Fr.rf.set rfl).set rfl).set rfl, by simp [setI], by simp [setI]; exact g4, by simp [setI], hw.1, hw.2⟩
theorem nv_rg {p : Nat} {n : Nat} (h : ∀ k, p ≤ k → k < p + n → 48 ≤ T.2 k ∧ T.2 k ≤ 57) : ∀ j, j ≤ n → 0 ≤ nv T p j ∧ nv T p j < 10 ^ j
  | 0, _ => ⟨Int.le_refl 0, by show (0 : Int) < 1; decide⟩
  | j + 1, hj => by
    have ih := nv_rg h j (by omega)
    have d := h (p + j) (by omega) (by omega)
    have e : (10 : Int) ^ (j + 1) = 10 ^ j * 10 := Int.pow_succ 10 j
    show 0 ≤ nv T p j * 10 + (T.2 (p + j) - 48) ∧ nv T p j * 10 + (T.2 (p + j) - 48) < 10 ^ (j + 1)
    rw [e]
    omega
theorem srt5_2 {b : Int} (h : srt5 b = 2) : 48 ≤ b ∧ b ≤ 57 := by
  unfold srt5 at h
  split at h
  · omega
  · split at h
    · assumption
    · split at h
      · omega
      · split at h <;> omega
theorem Vs_num {st : St} (v : Vs T st) (h : st.2.2.1 = 2) : 0 ≤ nv T st.2.1 (st.1 - st.2.1) ∧ nv T st.2.1 (st.1 - st.2.1) ≤ 999 := by
  obtain ⟨v1, v2, v3, v4, v5, v6, -⟩ := v
  have q := v6 h
  have r := nv_rg (T := T) (p := st.2.1) (n := st.1 - st.2.1) (fun k k1 k2 => by
    have := q.2 k k1 (by omega)
    rw [srA_in (by omega)] at this
    exact srt5_2 this) (st.1 - st.2.1) (Nat.le_refl _)
  refine ⟨r.1, ?_⟩
  have r2 := r.2
  rcases (show st.1 - st.2.1 = 0 ∨ st.1 - st.2.1 = 1 ∨ st.1 - st.2.1 = 2 ∨ st.1 - st.2.1 = 3 by omega) with e | e | e | e <;> rw [e] at r2 ⊢ <;> omega
theorem c_X5_takeNumber (lo hi : Int) (x : PX St) (hb : PCb o d T m) (hx : PCx T d m x) (hr : ∀ s, x = .inr s → rg lo ∧ rg hi) : C Γ mX5_takeNumber 3 120 0 0 [vr 3, vi lo, vi hi] SH m (QI SH (fun z m' => Fr is3 m m' ∧ PCx T d m' (sx (pb x (num T lo hi))) ∧ ∀ v s, pb x (num T lo hi) = .inr (v, s) → z = v)) := by
  refine C_of_R rfl (Nat.le_of_ble_eq_true rfl) ?_
  have hx0 := hx
  cases x with
  | inl e =>
    have g3 : m.1 3 3 = 0 := hx.2.2.1
    refine R_aload_n 1 rfl dX5_takeNumber_0 rfl ?_
    refine R_getI 3 4 rfl dX5_takeNumber_1 rfl rfl fl_X5_40 ?_
    refine R_iconst 5 rfl dX5_takeNumber_4 ?_
    refine R_icmp_eq 8 15 rfl rfl dX5_takeNumber_5 (by first | assumption | exact ⟨by omega, by omega⟩) (by first | assumption | exact ⟨by omega, by omega⟩) (fun h5 => ?_) (fun h5 => ?_)
    · exfalso; omega
    · refine R_aload_n 9 rfl dX5_takeNumber_8 rfl ?_
      refine R_iconst 10 rfl dX5_takeNumber_9 ?_
      refine R_callV_V (M' := mX5_refuse) 13 rfl dX5_takeNumber_10 ml_X5_93 kmX5_refuse im_X5_refuse se_X5_refuse rfl ⟨by decide, rfl⟩ (c_X5_refuse 2 _ hx0 (by omega)) rfl rfl ⟨Nat.le_of_ble_eq_true rfl, Nat.le_of_ble_eq_true rfl⟩ (Nat.le_of_ble_eq_true rfl) ⟨Nat.le_of_ble_eq_true rfl, Nat.le_of_ble_eq_true rfl⟩ ?_
      rintro m10 h10
      obtain ⟨f10, p10⟩ := h10
      refine R_iload_n 14 rfl dX5_takeNumber_13 rfl ?_
      refine R_ireturn dX5_takeNumber_14 rfl ?_
      exact QI_mk ⟨f10, p10, fun v s q => by simp [pb] at q⟩
  | inr st =>
    obtain ⟨g2, g3, g4, g5, g6, g7, v, hL, hB⟩ := hx
    have ⟨r1, r2⟩ := hr st rfl
    have vn := Vs_num v
    have v4 := v.2.2.2.1
    have en : num T lo hi st = if st.2.2.1 = 2 then (if lo ≤ nv T st.2.1 (st.1 - st.2.1) ∧ nv T st.2.1 (st.1 - st.2.1) ≤ hi then pb (adv T st) (fun s => .inr (nv T st.2.1 (st.1 - st.2.1), s)) else .inl (3, st.2.1)) else .inl (2, st.2.1) := rfl
    refine R_aload_n 1 rfl dX5_takeNumber_0 rfl ?_
    refine R_getI 3 4 rfl dX5_takeNumber_1 rfl rfl fl_X5_40 ?_
    refine R_iconst 5 rfl dX5_takeNumber_4 ?_
    refine R_icmp_eq 8 15 rfl rfl dX5_takeNumber_5 (by first | assumption | exact ⟨by omega, by omega⟩) (by first | assumption | exact ⟨by omega, by omega⟩) (fun h5 => ?_) (fun h5 => ?_)
    · have t2 : st.2.2.1 = 2 := by omega
      have n1 := vn t2
      have n2 := g5 t2
      refine R_aload_n 16 rfl dX5_takeNumber_15 rfl ?_
      refine R_getI 5 19 rfl dX5_takeNumber_16 rfl rfl fl_X5_131 ?_
      rw [n2]
      refine R_iload_n 20 rfl dX5_takeNumber_19 rfl ?_
      refine R_iload_n 21 rfl dX5_takeNumber_20 rfl ?_
      refine R_callN_i (M' := mX10_within) 24 rfl dX5_takeNumber_21 mn_X5_134 kmX10_within st_X10_within (c_X10_within _ _ _ (by first | assumption | exact ⟨by omega, by omega⟩) (by first | assumption | exact ⟨by omega, by omega⟩) (by first | assumption | exact ⟨by omega, by omega⟩)) rfl rfl ⟨Nat.le_of_ble_eq_true rfl, Nat.le_of_ble_eq_true rfl⟩ (Nat.le_of_ble_eq_true rfl) ⟨Nat.le_of_ble_eq_true rfl, Nat.le_of_ble_eq_true rfl⟩ ?_
      refine R_ifp_ne 27 34 rfl rfl dX5_takeNumber_24 (fun h24 => ?_) (fun h24 => ?_)
      · refine R_aload_n 35 rfl dX5_takeNumber_34 rfl ?_
        refine R_getI 5 38 rfl dX5_takeNumber_35 rfl rfl fl_X5_131 ?_
        rw [n2]
        refine R_istore_n [_, _, _, _] 39 rfl dX5_takeNumber_38 rfl (by decide) ?_
        refine R_aload_n 40 rfl dX5_takeNumber_39 rfl ?_
        refine R_callV_V (M' := mX5_advance) 43 rfl dX5_takeNumber_40 ml_X5_37 kmX5_advance im_X5_advance se_X5_advance rfl ⟨by decide, rfl⟩ (c_X5_advance st hb g2 g6 g7 v.2.1 v.2.2.2.2.1 hL hB) rfl rfl ⟨Nat.le_of_ble_eq_true rfl, Nat.le_of_ble_eq_true rfl⟩ (Nat.le_of_ble_eq_true rfl) ⟨Nat.le_of_ble_eq_true rfl, Nat.le_of_ble_eq_true rfl⟩ ?_
        rintro m40 h40
        obtain ⟨f40, p40⟩ := h40
        refine R_iload_n 44 rfl dX5_takeNumber_43 rfl ?_
        refine R_ireturn dX5_takeNumber_44 rfl ?_
        rw [if_pos t2, if_pos (by omega)] at en
        have ep : pb (.inr st : PX St) (num T lo hi) = pb (adv T st) (fun s => .inr (nv T st.2.1 (st.1 - st.2.1), s)) := en
        rw [ep]
        refine QI_mk ⟨f40, ?_, fun v s q => ?_⟩
        · cases ha : adv T st with
          | inl e => rw [ha] at p40; exact p40
          | inr s => rw [ha] at p40; exact p40
        · cases ha : adv T st with
          | inl e => rw [ha] at q; cases q
          | inr s' => rw [ha] at q; cases q; rfl
      · refine R_aload_n 28 rfl dX5_takeNumber_27 rfl ?_
        refine R_iconst 29 rfl dX5_takeNumber_28 ?_
        refine R_callV_V (M' := mX5_refuse) 32 rfl dX5_takeNumber_29 ml_X5_93 kmX5_refuse im_X5_refuse se_X5_refuse rfl ⟨by decide, rfl⟩ (c_X5_refuse 3 _ hx0 (by omega)) rfl rfl ⟨Nat.le_of_ble_eq_true rfl, Nat.le_of_ble_eq_true rfl⟩ (Nat.le_of_ble_eq_true rfl) ⟨Nat.le_of_ble_eq_true rfl, Nat.le_of_ble_eq_true rfl⟩ ?_
        rintro m29 h29
        obtain ⟨f29, p29⟩ := h29
        refine R_iload_n 33 rfl dX5_takeNumber_32 rfl ?_
        refine R_ireturn dX5_takeNumber_33 rfl ?_
        rw [if_pos t2, if_neg (by omega)] at en
        have ep : pb (.inr st : PX St) (num T lo hi) = .inl (3, st.2.1) := en
        rw [ep]
        exact QI_mk ⟨f29, p29, fun v s q => by cases q⟩
    · refine R_aload_n 9 rfl dX5_takeNumber_8 rfl ?_
      refine R_iconst 10 rfl dX5_takeNumber_9 ?_
      refine R_callV_V (M' := mX5_refuse) 13 rfl dX5_takeNumber_10 ml_X5_93 kmX5_refuse im_X5_refuse se_X5_refuse rfl ⟨by decide, rfl⟩ (c_X5_refuse 2 _ hx0 (by omega)) rfl rfl ⟨Nat.le_of_ble_eq_true rfl, Nat.le_of_ble_eq_true rfl⟩ (Nat.le_of_ble_eq_true rfl) ⟨Nat.le_of_ble_eq_true rfl, Nat.le_of_ble_eq_true rfl⟩ ?_
      rintro m10 h10
      obtain ⟨f10, p10⟩ := h10
      refine R_iload_n 14 rfl dX5_takeNumber_13 rfl ?_
      refine R_ireturn dX5_takeNumber_14 rfl ?_
      rw [if_neg (by omega)] at en
      have ep : pb (.inr st : PX St) (num T lo hi) = .inl (2, st.2.1) := en
      rw [ep]
      exact QI_mk ⟨f10, p10, fun v s q => by cases q⟩
theorem c_X5_takeWord (i : Nat) (x : PX St) (hΓ : GOk Γ) (hi : i < 12) (hb : PCb o d T m) (hx : PCx T d m x) : C Γ mX5_takeWord 5 200 0 0 [vr 3, vr (1000000 + i)] SH m (QI SH (fun z m' => z = pI (isWx T i x = true) ∧ Fr is3 m m' ∧ PCx T d m' (if isWx T i x = true then pb x (adv T) else x))) := by
  refine C_of_R rfl (Nat.le_of_ble_eq_true rfl) ?_
  refine R_aload_n 1 rfl dX5_takeWord_0 rfl ?_
  refine R_aload_n 2 rfl dX5_takeWord_1 rfl ?_
  refine R_callV_i (M' := mX5_isWord) 5 rfl dX5_takeWord_2 ml_X5_48 kmX5_isWord im_X5_isWord se_X5_isWord rfl ⟨by decide, rfl⟩ (c_X5_isWord i x hΓ hi hb hx) rfl rfl ⟨Nat.le_of_ble_eq_true rfl, Nat.le_of_ble_eq_true rfl⟩ (Nat.le_of_ble_eq_true rfl) ⟨Nat.le_of_ble_eq_true rfl, Nat.le_of_ble_eq_true rfl⟩ ?_
  refine R_ifp_ne 8 10 rfl rfl dX5_takeWord_5 (fun h5 => ?_) (fun h5 => ?_)
  · cases x with
    | inl e => exact absurd h5 (by simp [isWx])
    | inr st =>
    skip
    refine R_aload_n 11 rfl dX5_takeWord_10 rfl ?_
    refine R_callV_V (M' := mX5_advance) 14 rfl dX5_takeWord_11 ml_X5_37 kmX5_advance im_X5_advance se_X5_advance rfl ⟨by decide, rfl⟩ (c_X5_advance st hb hx.1 hx.2.2.2.2.1 hx.2.2.2.2.2.1 hx.2.2.2.2.2.2.1.2.1 hx.2.2.2.2.2.2.1.2.2.2.2.1 hx.2.2.2.2.2.2.2.1 hx.2.2.2.2.2.2.2.2) rfl rfl ⟨Nat.le_of_ble_eq_true rfl, Nat.le_of_ble_eq_true rfl⟩ (Nat.le_of_ble_eq_true rfl) ⟨Nat.le_of_ble_eq_true rfl, Nat.le_of_ble_eq_true rfl⟩ ?_
    rintro m11 h11
    obtain ⟨f11, p11⟩ := h11
    refine R_iconst 15 rfl dX5_takeWord_14 ?_
    refine R_zreturn dX5_takeWord_15 rfl (by first | decide | exact pI_01 _) ?_
    rw [if_pos h5]
    exact QI_mk ⟨pI_1 h5, f11, p11⟩
  · refine R_iconst 9 rfl dX5_takeWord_8 ?_
    refine R_zreturn dX5_takeWord_9 rfl (by first | decide | exact pI_01 _) ?_
    rw [if_neg h5]
    exact QI_mk ⟨pI_0 h5, Fr.rf, hx⟩
end
