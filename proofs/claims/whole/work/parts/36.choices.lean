
def frc (t b w : Int) : Int := if b = 0 then -4 else if w % 2 = 0 then rT t b else rB t b
def QA (o d : Nat) (L : Ld) (B : Bk) (ch : Cs) (m : Mem) (z : Int) : Option AV → Shp → Mem → Prop := QI SH (fun z' m' => z' = z ∧ Fs m m' ∧ CS o d L B ch m')
def QB (o d : Nat) (L : Ld) (B : Bk) (ch : Cs) (m : Mem) (z : Int) : Option AV → Shp → Mem → Prop := QL SH (fun z' m' => z' = z ∧ Fs m m' ∧ CS o d L B ch m')
def a_many (L : Ld) (B : Bk) (ch : Cs) (c w : Int) : Int := if (0 ≤ c ∧ c ≤ 1) ∧ ((0 ≤ w ∧ w ≤ 2) ∨ (11 ≤ w ∧ w ≤ 15)) then (hmy L B ch c.toNat w : Int) else -1
def a_share (L : Ld) (B : Bk) (ch : Cs) (c w : Int) : Int := if (0 ≤ c ∧ c ≤ 1) ∧ (0 ≤ w ∧ w ≤ 1) then frc (hmy L B ch c.toNat 1 : Int) (hmy L B ch c.toNat 0 : Int) w else -1
def bst (mk ab : Nat → Int) (n w : Int) : Int := if gsU mk ab n 15 < 0 then -4 else if w = 0 then gsU mk ab n 15 else if w = 1 then mk (gsU mk ab n 15).toNat else ab (gsU mk ab n 15).toNat
def a_best (L : Ld) (B : Bk) (ch : Cs) (c g n w : Int) : Int := if (0 ≤ c ∧ c ≤ 1) ∧ (0 ≤ g ∧ g ≤ 3) ∧ (1 ≤ n ∧ n ≤ 99) ∧ (0 ≤ w ∧ w ≤ 2) then bst (tgM B ch c.toNat g) (tgA L B ch c.toNat g) n w else -1
def a_pairs (B : Bk) (ch : Cs) (c w : Int) : Int := if (0 ≤ c ∧ c ≤ 1) ∧ (0 ≤ w ∧ w ≤ 3) then (prs B ch c.toNat (w / 2) (w % 2) : Int) else -1
def sprU (B : Bk) (ch : Cs) (c : Nat) : Int := (prs B ch c 0 0 : Int) * ((prs B ch c 1 0 : Int) + prs B ch c 1 1) - ((prs B ch c 0 0 : Int) + prs B ch c 0 1) * prs B ch c 1 0
def a_spared (B : Bk) (ch : Cs) (c w : Int) : Int := if (0 ≤ c ∧ c ≤ 1) ∧ (0 ≤ w ∧ w ≤ 1) then frc (max (sprU B ch c.toNat) 0) ((prs B ch c.toNat 1 0 : Int) + prs B ch c.toNat 1 1) w else -1
def a_learnt (L : Ld) (B : Bk) (ch : Cs) (c a b w : Int) : Int := if (0 ≤ c ∧ c ≤ 1) ∧ ((-60 ≤ a ∧ a ≤ 89) ∧ a ≤ b ∧ b ≤ 89) ∧ (0 ≤ w ∧ w ≤ 3) then (hml L B ch c.toNat a b w : Int) else -1
def a_bounds (L : Ld) (B : Bk) (ch : Cs) (c a b w : Int) : Int := if (0 ≤ c ∧ c ≤ 1) ∧ ((-60 ≤ a ∧ a ≤ 89) ∧ a ≤ b ∧ b ≤ 89) ∧ (0 ≤ w ∧ w ≤ 3) then (if 2 ≤ w then frc ((hml L B ch c.toNat a b 2 : Int) + hml L B ch c.toNat a b 3) ((hml L B ch c.toNat a b 0 : Int) + hml L B ch c.toNat a b 3) w else frc (hml L B ch c.toNat a b 2 : Int) ((hml L B ch c.toNat a b 0 : Int) + ((hml L B ch c.toNat a b 1 : Int) - hml L B ch c.toNat a b 3)) w) else -1
def tns (mk : Nat → Int) (w : Int) : Int := if mk (mmU mk 15) = 0 then -1004 else if w = 0 then -60 + 10 * (mmU mk 15 : Int) else mk (mmU mk 15)
def a_tens (L : Ld) (B : Bk) (ch : Cs) (c w : Int) : Int := if (0 ≤ c ∧ c ≤ 1) ∧ (0 ≤ w ∧ w ≤ 1) then tns (tnM L B ch c.toNat) w else -1000
def rdN (L : Ld) (B : Bk) (ch : Cs) (c : Nat) : Int := (hmy L B ch c 2 : Int) * L.1 7 * L.1 10 + ((hmy L B ch c 0 : Int) - hmy L B ch c 2) * L.1 9 * L.1 8
def rdD (L : Ld) (B : Bk) (ch : Cs) (c : Nat) : Int := (hmy L B ch c 0 : Int) * L.1 8 * L.1 10
def a_reading (L : Ld) (B : Bk) (ch : Cs) (c w : Int) : Int := if (0 ≤ c ∧ c ≤ 1) ∧ (0 ≤ w ∧ w ≤ 1) then (if hmy L B ch c.toNat 0 = 0 then -4 else if w = 0 then rT (rdN L B ch c.toNat) (rdD L B ch c.toNat) else rB (rdN L B ch c.toNat) (rdD L B ch c.toNat)) else -1
def a_unwed (L : Ld) (B : Bk) (ch : Cs) (c w : Int) : Int := if (0 ≤ c ∧ c ≤ 1) ∧ (0 ≤ w ∧ w ≤ 3) then frc (if w < 2 then (hmy L B ch c.toNat 1 : Int) else (hmy L B ch c.toNat 1 : Int) + L.1 5) ((hmy L B ch c.toNat 0 : Int) + L.1 5) w else -1
theorem LdC_4 {m : Mem} {L : Ld} (h : LdC 4 m L) : LdR 4 5 7 8 9 10 12 13 14 15 16 m L := by
  rcases h with ⟨-, h⟩ | ⟨e, -⟩
  · exact h
  · exact absurd e (by decide)
theorem LdC_17 {m : Mem} {L : Ld} (h : LdC 17 m L) : LdR 17 18 20 21 22 23 25 26 27 28 29 m L := by
  rcases h with ⟨e, -⟩ | ⟨-, h⟩
  · exact absurd e (by decide)
  · exact h
theorem hmy_le (L : Ld) (B : Bk) (ch : Cs) (c : Nat) (w : Int) : hmy L B ch c w ≤ 2 * B.1 := cnt_le _ _
theorem hml_le (L : Ld) (B : Bk) (ch : Cs) (c : Nat) (a b w : Int) : hml L B ch c a b w ≤ 2 * B.1 := cnt_le _ _
theorem prs_le (B : Bk) (ch : Cs) (c : Nat) (a b : Int) : prs B ch c a b ≤ B.1 := cnt_le _ _
theorem tg_rg (L : Ld) (B : Bk) (ch : Cs) (c : Nat) (gr : Int) (hB : B.1 ≤ 40) : ∀ g, g < 15 → 0 ≤ tgM B ch c gr g ∧ tgM B ch c gr g ≤ 80 ∧ 0 ≤ tgA L B ch c gr g ∧ tgA L B ch c gr g ≤ 80 := fun g _ => by
  have h1 := cnt_le (tgP B ch c gr g) (2 * B.1)
  have h2 := cnt_le (tgQ L B ch c gr g) (2 * B.1)
  unfold tgM tgA; omega
theorem tn_rg (L : Ld) (B : Bk) (ch : Cs) (c : Nat) (hB : B.1 ≤ 40) : ∀ g, g < 15 → 0 ≤ tnM L B ch c g ∧ tnM L B ch c g ≤ 80 := fun g _ => by
  have h1 := cnt_le (tnP L B ch c g) (2 * B.1)
  unfold tnM; omega
theorem d91_q : ∀ a, isQ a = false → decide (a = 91) = false := fun a h => by simp [isQ] at h; simp; omega
theorem d91_c : ∀ a, 4 ≤ a → a ≤ 46 → decide (a = 91) = false := fun a h h2 => by simp; omega
theorem is91_c : ∀ a, 4 ≤ a → a ≤ 46 → is91 a = false := fun a h h2 => by simp [is91]; omega
section
variable {Γ : GX} {m : Mem} {B : Bk} {L : Ld} {ch : Cs} {o d : Nat}
theorem c_X10_many (c w : Int) (hCS : CS o d L B ch m) (hc : rg c) (hw : rg w) : C Γ mX10_many 6 240 0 0 [vr 0, vi c, vi w] SH m (QA o d L B ch m (a_many L B ch c w)) := by
  refine C_of_R rfl (Nat.le_of_ble_eq_true rfl) ?_
  refine R_iload_n 1 rfl dX10_many_0 rfl ?_
  refine R_callS_i (M' := mX10_isChoice) 4 rfl dX10_many_1 ml_X10_218 kmX10_isChoice st_X10_isChoice (c_X10_isChoice _ (by first | assumption | exact ⟨by omega, by omega⟩)) rfl rfl ⟨Nat.le_of_ble_eq_true rfl, Nat.le_of_ble_eq_true rfl⟩ (Nat.le_of_ble_eq_true rfl) ⟨Nat.le_of_ble_eq_true rfl, Nat.le_of_ble_eq_true rfl⟩ ?_
  refine R_ifp_eq 7 27 rfl rfl dX10_many_4 (fun h4 => ?_) (fun h4 => ?_)
  · refine R_iconst 28 rfl dX10_many_27 ?_
    refine R_ireturn dX10_many_28 rfl ?_
    exact QI_mk ⟨by unfold a_many; rw [if_neg (by omega)], Fs.rf, hCS⟩
  · refine R_iload_n 8 rfl dX10_many_7 rfl ?_
    refine R_iconst 9 rfl dX10_many_8 ?_
    refine R_iconst 10 rfl dX10_many_9 ?_
    refine R_callS_i (M' := mX10_within) 13 rfl dX10_many_10 ml_X10_108 kmX10_within st_X10_within (c_X10_within _ _ _ (by first | assumption | exact ⟨by omega, by omega⟩) (by first | assumption | exact ⟨by omega, by omega⟩) (by first | assumption | exact ⟨by omega, by omega⟩)) rfl rfl ⟨Nat.le_of_ble_eq_true rfl, Nat.le_of_ble_eq_true rfl⟩ (Nat.le_of_ble_eq_true rfl) ⟨Nat.le_of_ble_eq_true rfl, Nat.le_of_ble_eq_true rfl⟩ ?_
    refine R_ifp_ne 16 29 rfl rfl dX10_many_13 (fun h13 => ?_) (fun h13 => ?_)
    · refine R_aload_n 30 rfl dX10_many_29 rfl ?_
      refine R_iload_n 31 rfl dX10_many_30 rfl ?_
      refine R_iload_n 32 rfl dX10_many_31 rfl ?_
      refine R_callV_I (M' := mX10_howMany) 35 rfl dX10_many_32 ml_X10_228 kmX10_howMany im_X10_howMany se_X10_howMany rfl ⟨by decide, rfl⟩ (c_X10_howMany c.toNat _ _ hCS (by omega) (by omega) (by omega)) rfl rfl ⟨Nat.le_of_ble_eq_true rfl, Nat.le_of_ble_eq_true rfl⟩ (Nat.le_of_ble_eq_true rfl) ⟨Nat.le_of_ble_eq_true rfl, Nat.le_of_ble_eq_true rfl⟩ ?_
      rintro z32 m32 h32
      refine R_ireturn dX10_many_35 rfl ?_
      exact QI_mk ⟨by unfold a_many; rw [if_pos (by omega)]; exact h32.1, h32.2.1.s, h32.2.2.1⟩
    · refine R_iload_n 17 rfl dX10_many_16 rfl ?_
      refine R_bipush 19 rfl dX10_many_17 (by decide) ?_
      refine R_bipush 21 rfl dX10_many_19 (by decide) ?_
      refine R_callS_i (M' := mX10_within) 24 rfl dX10_many_21 ml_X10_108 kmX10_within st_X10_within (c_X10_within _ _ _ (by first | assumption | exact ⟨by omega, by omega⟩) (by first | assumption | exact ⟨by omega, by omega⟩) (by first | assumption | exact ⟨by omega, by omega⟩)) rfl rfl ⟨Nat.le_of_ble_eq_true rfl, Nat.le_of_ble_eq_true rfl⟩ (Nat.le_of_ble_eq_true rfl) ⟨Nat.le_of_ble_eq_true rfl, Nat.le_of_ble_eq_true rfl⟩ ?_
      refine R_ifp_ne 27 29 rfl rfl dX10_many_24 (fun h24 => ?_) (fun h24 => ?_)
      · refine R_aload_n 30 rfl dX10_many_29 rfl ?_
        refine R_iload_n 31 rfl dX10_many_30 rfl ?_
        refine R_iload_n 32 rfl dX10_many_31 rfl ?_
        refine R_callV_I (M' := mX10_howMany) 35 rfl dX10_many_32 ml_X10_228 kmX10_howMany im_X10_howMany se_X10_howMany rfl ⟨by decide, rfl⟩ (c_X10_howMany c.toNat _ _ hCS (by omega) (by omega) (by omega)) rfl rfl ⟨Nat.le_of_ble_eq_true rfl, Nat.le_of_ble_eq_true rfl⟩ (Nat.le_of_ble_eq_true rfl) ⟨Nat.le_of_ble_eq_true rfl, Nat.le_of_ble_eq_true rfl⟩ ?_
        rintro z32 m32 h32
        refine R_ireturn dX10_many_35 rfl ?_
        exact QI_mk ⟨by unfold a_many; rw [if_pos (by omega)]; exact h32.1, h32.2.1.s, h32.2.2.1⟩
      · refine R_iconst 28 rfl dX10_many_27 ?_
        refine R_ireturn dX10_many_28 rfl ?_
        exact QI_mk ⟨by unfold a_many; rw [if_neg (by omega)], Fs.rf, hCS⟩
theorem c_X10_share (c w : Int) (hCS : CS o d L B ch m) (hc : rg c) (hw : rg w) : C Γ mX10_share 6 240 0 0 [vr 0, vi c, vi w] SH m (QA o d L B ch m (a_share L B ch c w)) := by
  refine C_of_R rfl (Nat.le_of_ble_eq_true rfl) ?_
  have g1 := hmy_le L B ch c.toNat 1
  have g0 := hmy_le L B ch c.toNat 0
  have g2 := hCS.2.2.1.1
  have hPO := hCS.1
  have hP := hPO.2
  refine R_iload_n 1 rfl dX10_share_0 rfl ?_
  refine R_callS_i (M' := mX10_isChoice) 4 rfl dX10_share_1 ml_X10_218 kmX10_isChoice st_X10_isChoice (c_X10_isChoice _ (by first | assumption | exact ⟨by omega, by omega⟩)) rfl rfl ⟨Nat.le_of_ble_eq_true rfl, Nat.le_of_ble_eq_true rfl⟩ (Nat.le_of_ble_eq_true rfl) ⟨Nat.le_of_ble_eq_true rfl, Nat.le_of_ble_eq_true rfl⟩ ?_
  refine R_ifp_eq 7 16 rfl rfl dX10_share_4 (fun h4 => ?_) (fun h4 => ?_)
  · refine R_iconst 17 rfl dX10_share_16 ?_
    refine R_ireturn dX10_share_17 rfl ?_
    exact QI_mk ⟨by unfold a_share; rw [if_neg (by omega)], Fs.rf, hCS⟩
  · refine R_iload_n 8 rfl dX10_share_7 rfl ?_
    refine R_iconst 9 rfl dX10_share_8 ?_
    refine R_iconst 10 rfl dX10_share_9 ?_
    refine R_callS_i (M' := mX10_within) 13 rfl dX10_share_10 ml_X10_108 kmX10_within st_X10_within (c_X10_within _ _ _ (by first | assumption | exact ⟨by omega, by omega⟩) (by first | assumption | exact ⟨by omega, by omega⟩) (by first | assumption | exact ⟨by omega, by omega⟩)) rfl rfl ⟨Nat.le_of_ble_eq_true rfl, Nat.le_of_ble_eq_true rfl⟩ (Nat.le_of_ble_eq_true rfl) ⟨Nat.le_of_ble_eq_true rfl, Nat.le_of_ble_eq_true rfl⟩ ?_
    refine R_ifp_ne 16 18 rfl rfl dX10_share_13 (fun h13 => ?_) (fun h13 => ?_)
    · refine R_aload_n 19 rfl dX10_share_18 rfl ?_
      refine R_aload_n 20 rfl dX10_share_19 rfl ?_
      refine R_iload_n 21 rfl dX10_share_20 rfl ?_
      refine R_iconst 22 rfl dX10_share_21 ?_
      refine R_callV_I (M' := mX10_howMany) 25 rfl dX10_share_22 ml_X10_228 kmX10_howMany im_X10_howMany se_X10_howMany rfl ⟨by decide, rfl⟩ (c_X10_howMany c.toNat _ _ hCS (by omega) (by omega) (by omega)) rfl rfl ⟨Nat.le_of_ble_eq_true rfl, Nat.le_of_ble_eq_true rfl⟩ (Nat.le_of_ble_eq_true rfl) ⟨Nat.le_of_ble_eq_true rfl, Nat.le_of_ble_eq_true rfl⟩ ?_
      rintro z22 m22 h22
      obtain ⟨e22, f22, hCS, hKF⟩ := h22
      clear hPO hP
      have hPO := hCS.1
      have hP := hPO.2
      refine R_aload_n 26 rfl dX10_share_25 rfl ?_
      refine R_iload_n 27 rfl dX10_share_26 rfl ?_
      refine R_iconst 28 rfl dX10_share_27 ?_
      refine R_callV_I (M' := mX10_howMany) 31 rfl dX10_share_28 ml_X10_228 kmX10_howMany im_X10_howMany se_X10_howMany rfl ⟨by decide, rfl⟩ (c_X10_howMany c.toNat _ _ hCS (by omega) (by omega) (by omega)) rfl rfl ⟨Nat.le_of_ble_eq_true rfl, Nat.le_of_ble_eq_true rfl⟩ (Nat.le_of_ble_eq_true rfl) ⟨Nat.le_of_ble_eq_true rfl, Nat.le_of_ble_eq_true rfl⟩ ?_
      rintro z28 m28 h28
      obtain ⟨e28, f28, hCS, hKF⟩ := h28
      clear hPO hP
      have hPO := hCS.1
      have hP := hPO.2
      refine R_iload_n 32 rfl dX10_share_31 rfl ?_
      refine R_callV_I (M' := mX10_fractionOrNone) 35 rfl dX10_share_32 ml_X10_231 kmX10_fractionOrNone im_X10_fractionOrNone se_X10_fractionOrNone rfl ⟨by decide, rfl⟩ (c_X10_fractionOrNone _ _ _ hPO ⟨by omega, by omega⟩ ⟨by omega, by omega⟩ (by omega) (by omega)) rfl rfl ⟨Nat.le_of_ble_eq_true rfl, Nat.le_of_ble_eq_true rfl⟩ (Nat.le_of_ble_eq_true rfl) ⟨Nat.le_of_ble_eq_true rfl, Nat.le_of_ble_eq_true rfl⟩ ?_
      rintro z32 m32 h32
      refine R_ireturn dX10_share_35 rfl ?_
      exact QI_mk ⟨by unfold a_share; rw [if_pos (by omega), ← e22, ← e28]; exact h32.1, (f22.s.tr f28.s).tr (h32.2.s d91_q), hCS.fr h32.2 d91_c⟩
    · refine R_iconst 17 rfl dX10_share_16 ?_
      refine R_ireturn dX10_share_17 rfl ?_
      exact QI_mk ⟨by unfold a_share; rw [if_neg (by omega)], Fs.rf, hCS⟩
theorem c_X10_best (c g n w : Int) (hCS : CS o d L B ch m) (hc : rg c) (hg : rg g) (hn : rg n) (hw : rg w) : C Γ mX10_best 6 240 0 0 [vr 0, vi c, vi g, vi n, vi w] SH m (QA o d L B ch m (a_best L B ch c g n w)) := by
  refine C_of_R rfl (Nat.le_of_ble_eq_true rfl) ?_
  have hPO := hCS.1
  have hP := hPO.2
  have hr := tg_rg L B ch c.toNat g hCS.2.2.1.1
  have h9 := gsU_rg (tgM B ch c.toNat g) (tgA L B ch c.toNat g) n 15
  refine R_iload_n 1 rfl dX10_best_0 rfl ?_
  refine R_callS_i (M' := mX10_isChoice) 4 rfl dX10_best_1 ml_X10_218 kmX10_isChoice st_X10_isChoice (c_X10_isChoice _ (by first | assumption | exact ⟨by omega, by omega⟩)) rfl rfl ⟨Nat.le_of_ble_eq_true rfl, Nat.le_of_ble_eq_true rfl⟩ (Nat.le_of_ble_eq_true rfl) ⟨Nat.le_of_ble_eq_true rfl, Nat.le_of_ble_eq_true rfl⟩ ?_
  refine R_ifp_eq 7 36 rfl rfl dX10_best_4 (fun h4 => ?_) (fun h4 => ?_)
  · refine R_iconst 37 rfl dX10_best_36 ?_
    refine R_ireturn dX10_best_37 rfl ?_
    exact QI_mk ⟨by unfold a_best; rw [if_neg (by omega)], Fs.rf, hCS⟩
  · refine R_iload_n 8 rfl dX10_best_7 rfl ?_
    refine R_iconst 9 rfl dX10_best_8 ?_
    refine R_iconst 10 rfl dX10_best_9 ?_
    refine R_callS_i (M' := mX10_within) 13 rfl dX10_best_10 ml_X10_108 kmX10_within st_X10_within (c_X10_within _ _ _ (by first | assumption | exact ⟨by omega, by omega⟩) (by first | assumption | exact ⟨by omega, by omega⟩) (by first | assumption | exact ⟨by omega, by omega⟩)) rfl rfl ⟨Nat.le_of_ble_eq_true rfl, Nat.le_of_ble_eq_true rfl⟩ (Nat.le_of_ble_eq_true rfl) ⟨Nat.le_of_ble_eq_true rfl, Nat.le_of_ble_eq_true rfl⟩ ?_
    refine R_ifp_eq 16 36 rfl rfl dX10_best_13 (fun h13 => ?_) (fun h13 => ?_)
    · refine R_iconst 37 rfl dX10_best_36 ?_
      refine R_ireturn dX10_best_37 rfl ?_
      exact QI_mk ⟨by unfold a_best; rw [if_neg (by omega)], Fs.rf, hCS⟩
    · refine R_iload_n 17 rfl dX10_best_16 rfl ?_
      refine R_iconst 18 rfl dX10_best_17 ?_
      refine R_bipush 20 rfl dX10_best_18 (by decide) ?_
      refine R_callS_i (M' := mX10_within) 23 rfl dX10_best_20 ml_X10_108 kmX10_within st_X10_within (c_X10_within _ _ _ (by first | assumption | exact ⟨by omega, by omega⟩) (by first | assumption | exact ⟨by omega, by omega⟩) (by first | assumption | exact ⟨by omega, by omega⟩)) rfl rfl ⟨Nat.le_of_ble_eq_true rfl, Nat.le_of_ble_eq_true rfl⟩ (Nat.le_of_ble_eq_true rfl) ⟨Nat.le_of_ble_eq_true rfl, Nat.le_of_ble_eq_true rfl⟩ ?_
      refine R_ifp_eq 26 36 rfl rfl dX10_best_23 (fun h23 => ?_) (fun h23 => ?_)
      · refine R_iconst 37 rfl dX10_best_36 ?_
        refine R_ireturn dX10_best_37 rfl ?_
        exact QI_mk ⟨by unfold a_best; rw [if_neg (by omega)], Fs.rf, hCS⟩
      · refine R_iload 28 rfl dX10_best_26 rfl ?_
        refine R_iconst 29 rfl dX10_best_28 ?_
        refine R_iconst 30 rfl dX10_best_29 ?_
        refine R_callS_i (M' := mX10_within) 33 rfl dX10_best_30 ml_X10_108 kmX10_within st_X10_within (c_X10_within _ _ _ (by first | assumption | exact ⟨by omega, by omega⟩) (by first | assumption | exact ⟨by omega, by omega⟩) (by first | assumption | exact ⟨by omega, by omega⟩)) rfl rfl ⟨Nat.le_of_ble_eq_true rfl, Nat.le_of_ble_eq_true rfl⟩ (Nat.le_of_ble_eq_true rfl) ⟨Nat.le_of_ble_eq_true rfl, Nat.le_of_ble_eq_true rfl⟩ ?_
        refine R_ifp_ne 36 38 rfl rfl dX10_best_33 (fun h33 => ?_) (fun h33 => ?_)
        · refine R_aload_n 39 rfl dX10_best_38 rfl ?_
          refine R_aload_n 40 rfl dX10_best_39 rfl ?_
          refine R_getP 12 43 rfl dX10_best_40 rfl rfl fl_X10_82 (hP _ _ _ rfl) ?_
          refine R_iload_n 44 rfl dX10_best_43 rfl ?_
          refine R_iload_n 45 rfl dX10_best_44 rfl ?_
          refine R_callV_V (M' := mX10_tallyGroups) 48 rfl dX10_best_45 ml_X10_235 kmX10_tallyGroups im_X10_tallyGroups se_X10_tallyGroups rfl ⟨by decide, rfl⟩ (c_X10_tallyGroups88 c.toNat _ _ hCS (by omega) (by omega) (by omega)) rfl rfl ⟨Nat.le_of_ble_eq_true rfl, Nat.le_of_ble_eq_true rfl⟩ (Nat.le_of_ble_eq_true rfl) ⟨Nat.le_of_ble_eq_true rfl, Nat.le_of_ble_eq_true rfl⟩ ?_
          rintro m45 h45
          obtain ⟨f45, hCS, hKF, hT⟩ := h45
          clear hPO hP
          have hPO := hCS.1
          have hP := hPO.2
          refine R_aload_n 49 rfl dX10_best_48 rfl ?_
          refine R_getP 12 52 rfl dX10_best_49 rfl rfl fl_X10_82 (hP _ _ _ rfl) ?_
          refine R_iload_n 53 rfl dX10_best_52 rfl ?_
          refine R_callV_i (M' := mX8_greatestShare) 56 rfl dX10_best_53 ml_X10_239 kmX8_greatestShare im_X8_greatestShare se_X8_greatestShare rfl ⟨by decide, rfl⟩ (c_X8_greatestShare _ hPO hT hr (by omega)) rfl rfl ⟨Nat.le_of_ble_eq_true rfl, Nat.le_of_ble_eq_true rfl⟩ (Nat.le_of_ble_eq_true rfl) ⟨Nat.le_of_ble_eq_true rfl, Nat.le_of_ble_eq_true rfl⟩ ?_
          refine R_istore [_, _, _, _, _, _] 58 rfl dX10_best_56 rfl (by decide) ?_
          refine R_iload 60 rfl dX10_best_58 rfl ?_
          refine R_if_ge 63 66 rfl rfl dX10_best_60 (by first | assumption | exact ⟨by omega, by omega⟩) (fun h60 => ?_) (fun h60 => ?_)
          · refine R_iload 68 rfl dX10_best_66 rfl ?_
            refine R_if_ne 71 74 rfl rfl dX10_best_68 (by first | assumption | exact ⟨by omega, by omega⟩) (fun h68 => ?_) (fun h68 => ?_)
            · refine R_iload 76 rfl dX10_best_74 rfl ?_
              refine R_iconst 77 rfl dX10_best_76 ?_
              refine R_icmp_ne 80 93 rfl rfl dX10_best_77 (by first | assumption | exact ⟨by omega, by omega⟩) (by first | assumption | exact ⟨by omega, by omega⟩) (fun h77 => ?_) (fun h77 => ?_)
              · refine R_aload_n 94 rfl dX10_best_93 rfl ?_
                refine R_getP 12 97 rfl dX10_best_94 rfl rfl fl_X10_82 (hP _ _ _ rfl) ?_
                refine R_getP 1 100 rfl dX10_best_97 rfl rfl fl_X10_244 (hP _ _ _ rfl) ?_
                refine R_iload 102 rfl dX10_best_100 rfl ?_
                refine R_iald (gsU (tgM B ch c.toNat g) (tgA L B ch c.toNat g) n 15).toNat 103 rfl dX10_best_102 rfl (by first | rfl | omega) (by omega) (by decide) ?_
                refine R_ireturn dX10_best_103 rfl ?_
                have h8 := hT.2 (gsU (tgM B ch c.toNat g) (tgA L B ch c.toNat g) n 15).toNat (by omega)
                first
                  | exact QI_mk ⟨by unfold a_best bst; rw [if_pos (by omega), if_neg (by omega), if_neg (by omega), if_pos (by omega)]; exact h8.1, f45.s88, hCS⟩
                  | exact QI_mk ⟨by unfold a_best bst; rw [if_pos (by omega), if_neg (by omega), if_neg (by omega), if_neg (by omega)]; exact h8.2, f45.s88, hCS⟩
              · refine R_aload_n 81 rfl dX10_best_80 rfl ?_
                refine R_getP 12 84 rfl dX10_best_81 rfl rfl fl_X10_82 (hP _ _ _ rfl) ?_
                refine R_getP 0 87 rfl dX10_best_84 rfl rfl fl_X10_242 (hP _ _ _ rfl) ?_
                refine R_iload 89 rfl dX10_best_87 rfl ?_
                refine R_iald (gsU (tgM B ch c.toNat g) (tgA L B ch c.toNat g) n 15).toNat 90 rfl dX10_best_89 rfl (by first | rfl | omega) (by omega) (by decide) ?_
                refine R_goto 103 rfl dX10_best_90 ?_
                refine R_ireturn dX10_best_103 rfl ?_
                have h8 := hT.2 (gsU (tgM B ch c.toNat g) (tgA L B ch c.toNat g) n 15).toNat (by omega)
                first
                  | exact QI_mk ⟨by unfold a_best bst; rw [if_pos (by omega), if_neg (by omega), if_neg (by omega), if_pos (by omega)]; exact h8.1, f45.s88, hCS⟩
                  | exact QI_mk ⟨by unfold a_best bst; rw [if_pos (by omega), if_neg (by omega), if_neg (by omega), if_neg (by omega)]; exact h8.2, f45.s88, hCS⟩
            · refine R_iload 73 rfl dX10_best_71 rfl ?_
              refine R_ireturn dX10_best_73 rfl ?_
              exact QI_mk ⟨by unfold a_best bst; rw [if_pos (by omega), if_neg (by omega), if_pos (by omega)], f45.s88, hCS⟩
          · refine R_bipush 65 rfl dX10_best_63 (by decide) ?_
            refine R_ireturn dX10_best_65 rfl ?_
            exact QI_mk ⟨by unfold a_best bst; rw [if_pos (by omega), if_pos (by omega)], f45.s88, hCS⟩
        · refine R_iconst 37 rfl dX10_best_36 ?_
          refine R_ireturn dX10_best_37 rfl ?_
          exact QI_mk ⟨by unfold a_best; rw [if_neg (by omega)], Fs.rf, hCS⟩
theorem c_X10_pairs (c w : Int) (hCS : CS o d L B ch m) (hc : rg c) (hw : rg w) : C Γ mX10_pairs 3 120 0 0 [vr 0, vi c, vi w] SH m (QA o d L B ch m (a_pairs B ch c w)) := by
  refine C_of_R rfl (Nat.le_of_ble_eq_true rfl) ?_
  refine R_iload_n 1 rfl dX10_pairs_0 rfl ?_
  refine R_callS_i (M' := mX10_isChoice) 4 rfl dX10_pairs_1 ml_X10_218 kmX10_isChoice st_X10_isChoice (c_X10_isChoice _ (by first | assumption | exact ⟨by omega, by omega⟩)) rfl rfl ⟨Nat.le_of_ble_eq_true rfl, Nat.le_of_ble_eq_true rfl⟩ (Nat.le_of_ble_eq_true rfl) ⟨Nat.le_of_ble_eq_true rfl, Nat.le_of_ble_eq_true rfl⟩ ?_
  refine R_ifp_eq 7 16 rfl rfl dX10_pairs_4 (fun h4 => ?_) (fun h4 => ?_)
  · refine R_iconst 17 rfl dX10_pairs_16 ?_
    refine R_ireturn dX10_pairs_17 rfl ?_
    exact QI_mk ⟨by unfold a_pairs; rw [if_neg (by omega)], Fs.rf, hCS⟩
  · refine R_iload_n 8 rfl dX10_pairs_7 rfl ?_
    refine R_iconst 9 rfl dX10_pairs_8 ?_
    refine R_iconst 10 rfl dX10_pairs_9 ?_
    refine R_callS_i (M' := mX10_within) 13 rfl dX10_pairs_10 ml_X10_108 kmX10_within st_X10_within (c_X10_within _ _ _ (by first | assumption | exact ⟨by omega, by omega⟩) (by first | assumption | exact ⟨by omega, by omega⟩) (by first | assumption | exact ⟨by omega, by omega⟩)) rfl rfl ⟨Nat.le_of_ble_eq_true rfl, Nat.le_of_ble_eq_true rfl⟩ (Nat.le_of_ble_eq_true rfl) ⟨Nat.le_of_ble_eq_true rfl, Nat.le_of_ble_eq_true rfl⟩ ?_
    refine R_ifp_ne 16 18 rfl rfl dX10_pairs_13 (fun h13 => ?_) (fun h13 => ?_)
    · refine R_aload_n 19 rfl dX10_pairs_18 rfl ?_
      refine R_iload_n 20 rfl dX10_pairs_19 rfl ?_
      refine R_iload_n 21 rfl dX10_pairs_20 rfl ?_
      refine R_iconst 22 rfl dX10_pairs_21 ?_
      refine R_idiv_p 23 rfl dX10_pairs_22 (by first | assumption | exact ⟨by omega, by omega⟩) (by first | assumption | exact ⟨by omega, by omega⟩) (by omega) (by omega) ?_
      refine R_iload_n 24 rfl dX10_pairs_23 rfl ?_
      refine R_iconst 25 rfl dX10_pairs_24 ?_
      refine R_irem_p 26 rfl dX10_pairs_25 (by first | assumption | exact ⟨by omega, by omega⟩) (by first | assumption | exact ⟨by omega, by omega⟩) (by omega) (by omega) ?_
      refine R_callV_i (M' := mX10_howManyPairs) 29 rfl dX10_pairs_26 ml_X10_247 kmX10_howManyPairs im_X10_howManyPairs se_X10_howManyPairs rfl ⟨by decide, rfl⟩ (c_X10_howManyPairs c.toNat _ _ _ hCS (by omega) (by omega) ⟨by omega, by omega⟩ ⟨by omega, by omega⟩) rfl rfl ⟨Nat.le_of_ble_eq_true rfl, Nat.le_of_ble_eq_true rfl⟩ (Nat.le_of_ble_eq_true rfl) ⟨Nat.le_of_ble_eq_true rfl, Nat.le_of_ble_eq_true rfl⟩ ?_
      refine R_ireturn dX10_pairs_29 rfl ?_
      exact QI_mk ⟨by unfold a_pairs; rw [if_pos (by omega)], Fs.rf, hCS⟩
    · refine R_iconst 17 rfl dX10_pairs_16 ?_
      refine R_ireturn dX10_pairs_17 rfl ?_
      exact QI_mk ⟨by unfold a_pairs; rw [if_neg (by omega)], Fs.rf, hCS⟩
theorem c_X10_spared (c w : Int) (hCS : CS o d L B ch m) (hc : rg c) (hw : rg w) : C Γ mX10_spared 3 120 0 0 [vr 0, vi c, vi w] SH m (QA o d L B ch m (a_spared B ch c w)) := by
  refine C_of_R rfl (Nat.le_of_ble_eq_true rfl) ?_
  have g2 := hCS.2.2.1.1
  have hPO := hCS.1
  have p0 := prs_le B ch c.toNat 0 0
  have p1 := prs_le B ch c.toNat 0 1
  have p2 := prs_le B ch c.toNat 1 0
  have p3 := prs_le B ch c.toNat 1 1
  have hx : ∀ x y : Int, 0 ≤ x ∧ x ≤ 80 → 0 ≤ y ∧ y ≤ 80 → 0 ≤ x * y ∧ x * y ≤ 6400 := fun x y hx hy => ⟨Int.mul_nonneg hx.1 hy.1, by have := Int.mul_le_mul hx.2 hy.2 hy.1 (by omega : (0 : Int) ≤ 80); omega⟩
  have q0 := hx (prs B ch c.toNat 0 0 : Int) ((prs B ch c.toNat 1 0 : Int) + prs B ch c.toNat 1 1) (by omega) (by omega)
  have q1 := hx ((prs B ch c.toNat 0 0 : Int) + prs B ch c.toNat 0 1) (prs B ch c.toNat 1 0 : Int) (by omega) (by omega)
  have q2 : sprU B ch c.toNat = (prs B ch c.toNat 0 0 : Int) * ((prs B ch c.toNat 1 0 : Int) + prs B ch c.toNat 1 1) - ((prs B ch c.toNat 0 0 : Int) + prs B ch c.toNat 0 1) * prs B ch c.toNat 1 0 := rfl
  refine R_iload_n 1 rfl dX10_spared_0 rfl ?_
  refine R_callS_i (M' := mX10_isChoice) 4 rfl dX10_spared_1 ml_X10_218 kmX10_isChoice st_X10_isChoice (c_X10_isChoice _ (by first | assumption | exact ⟨by omega, by omega⟩)) rfl rfl ⟨Nat.le_of_ble_eq_true rfl, Nat.le_of_ble_eq_true rfl⟩ (Nat.le_of_ble_eq_true rfl) ⟨Nat.le_of_ble_eq_true rfl, Nat.le_of_ble_eq_true rfl⟩ ?_
  refine R_ifp_eq 7 16 rfl rfl dX10_spared_4 (fun h4 => ?_) (fun h4 => ?_)
  · refine R_iconst 17 rfl dX10_spared_16 ?_
    refine R_ireturn dX10_spared_17 rfl ?_
    exact QI_mk ⟨by unfold a_spared; rw [if_neg (by omega)], Fs.rf, hCS⟩
  · refine R_iload_n 8 rfl dX10_spared_7 rfl ?_
    refine R_iconst 9 rfl dX10_spared_8 ?_
    refine R_iconst 10 rfl dX10_spared_9 ?_
    refine R_callS_i (M' := mX10_within) 13 rfl dX10_spared_10 ml_X10_108 kmX10_within st_X10_within (c_X10_within _ _ _ (by first | assumption | exact ⟨by omega, by omega⟩) (by first | assumption | exact ⟨by omega, by omega⟩) (by first | assumption | exact ⟨by omega, by omega⟩)) rfl rfl ⟨Nat.le_of_ble_eq_true rfl, Nat.le_of_ble_eq_true rfl⟩ (Nat.le_of_ble_eq_true rfl) ⟨Nat.le_of_ble_eq_true rfl, Nat.le_of_ble_eq_true rfl⟩ ?_
    refine R_ifp_ne 16 18 rfl rfl dX10_spared_13 (fun h13 => ?_) (fun h13 => ?_)
    · refine R_aload_n 19 rfl dX10_spared_18 rfl ?_
      refine R_iload_n 20 rfl dX10_spared_19 rfl ?_
      refine R_iconst 21 rfl dX10_spared_20 ?_
      refine R_iconst 22 rfl dX10_spared_21 ?_
      refine R_callV_i (M' := mX10_howManyPairs) 25 rfl dX10_spared_22 ml_X10_247 kmX10_howManyPairs im_X10_howManyPairs se_X10_howManyPairs rfl ⟨by decide, rfl⟩ (c_X10_howManyPairs c.toNat _ 0 0 hCS (by omega) (by omega) ⟨by omega, by omega⟩ ⟨by omega, by omega⟩) rfl rfl ⟨Nat.le_of_ble_eq_true rfl, Nat.le_of_ble_eq_true rfl⟩ (Nat.le_of_ble_eq_true rfl) ⟨Nat.le_of_ble_eq_true rfl, Nat.le_of_ble_eq_true rfl⟩ ?_
      refine R_istore_n [_, _, _, _, _, _, _, _] 26 rfl dX10_spared_25 rfl (by decide) ?_
      refine R_iload_n 27 rfl dX10_spared_26 rfl ?_
      refine R_aload_n 28 rfl dX10_spared_27 rfl ?_
      refine R_iload_n 29 rfl dX10_spared_28 rfl ?_
      refine R_iconst 30 rfl dX10_spared_29 ?_
      refine R_iconst 31 rfl dX10_spared_30 ?_
      refine R_callV_i (M' := mX10_howManyPairs) 34 rfl dX10_spared_31 ml_X10_247 kmX10_howManyPairs im_X10_howManyPairs se_X10_howManyPairs rfl ⟨by decide, rfl⟩ (c_X10_howManyPairs c.toNat _ 0 1 hCS (by omega) (by omega) ⟨by omega, by omega⟩ ⟨by omega, by omega⟩) rfl rfl ⟨Nat.le_of_ble_eq_true rfl, Nat.le_of_ble_eq_true rfl⟩ (Nat.le_of_ble_eq_true rfl) ⟨Nat.le_of_ble_eq_true rfl, Nat.le_of_ble_eq_true rfl⟩ ?_
      refine R_iadd 35 rfl dX10_spared_34 ?_
      refine R_istore [_, _, _, _, _, _, _, _] 37 rfl dX10_spared_35 rfl (by decide) ?_
      refine R_aload_n 38 rfl dX10_spared_37 rfl ?_
      refine R_iload_n 39 rfl dX10_spared_38 rfl ?_
      refine R_iconst 40 rfl dX10_spared_39 ?_
      refine R_iconst 41 rfl dX10_spared_40 ?_
      refine R_callV_i (M' := mX10_howManyPairs) 44 rfl dX10_spared_41 ml_X10_247 kmX10_howManyPairs im_X10_howManyPairs se_X10_howManyPairs rfl ⟨by decide, rfl⟩ (c_X10_howManyPairs c.toNat _ 1 0 hCS (by omega) (by omega) ⟨by omega, by omega⟩ ⟨by omega, by omega⟩) rfl rfl ⟨Nat.le_of_ble_eq_true rfl, Nat.le_of_ble_eq_true rfl⟩ (Nat.le_of_ble_eq_true rfl) ⟨Nat.le_of_ble_eq_true rfl, Nat.le_of_ble_eq_true rfl⟩ ?_
      refine R_istore [_, _, _, _, _, _, _, _] 46 rfl dX10_spared_44 rfl (by decide) ?_
      refine R_iload 48 rfl dX10_spared_46 rfl ?_
      refine R_aload_n 49 rfl dX10_spared_48 rfl ?_
      refine R_iload_n 50 rfl dX10_spared_49 rfl ?_
      refine R_iconst 51 rfl dX10_spared_50 ?_
      refine R_iconst 52 rfl dX10_spared_51 ?_
      refine R_callV_i (M' := mX10_howManyPairs) 55 rfl dX10_spared_52 ml_X10_247 kmX10_howManyPairs im_X10_howManyPairs se_X10_howManyPairs rfl ⟨by decide, rfl⟩ (c_X10_howManyPairs c.toNat _ 1 1 hCS (by omega) (by omega) ⟨by omega, by omega⟩ ⟨by omega, by omega⟩) rfl rfl ⟨Nat.le_of_ble_eq_true rfl, Nat.le_of_ble_eq_true rfl⟩ (Nat.le_of_ble_eq_true rfl) ⟨Nat.le_of_ble_eq_true rfl, Nat.le_of_ble_eq_true rfl⟩ ?_
      refine R_iadd 56 rfl dX10_spared_55 ?_
      refine R_istore [_, _, _, _, _, _, _, _] 58 rfl dX10_spared_56 rfl (by decide) ?_
      refine R_iload_n 59 rfl dX10_spared_58 rfl ?_
      refine R_iload 61 rfl dX10_spared_59 rfl ?_
      refine R_imul 62 rfl dX10_spared_61 ?_
      refine R_iload 64 rfl dX10_spared_62 rfl ?_
      refine R_iload 66 rfl dX10_spared_64 rfl ?_
      refine R_imul 67 rfl dX10_spared_66 ?_
      refine R_isub 68 rfl dX10_spared_67 ?_
      refine R_top (b := sprU B ch c.toNat) rfl ?_
      refine R_istore [_, _, _, _, _, _, _, _] 70 rfl dX10_spared_68 rfl (by decide) ?_
      refine R_aload_n 71 rfl dX10_spared_70 rfl ?_
      refine R_iload 73 rfl dX10_spared_71 rfl ?_
      refine R_iconst 74 rfl dX10_spared_73 ?_
      refine R_max 77 rfl dX10_spared_74 ml_X10_250 (by first | assumption | exact ⟨by omega, by omega⟩) (by first | assumption | exact ⟨by omega, by omega⟩) ⟨Nat.le_of_ble_eq_true rfl, Nat.le_of_ble_eq_true rfl⟩ ⟨Nat.le_of_ble_eq_true rfl, Nat.le_of_ble_eq_true rfl⟩ ?_
      refine R_iload 79 rfl dX10_spared_77 rfl ?_
      refine R_iload_n 80 rfl dX10_spared_79 rfl ?_
      refine R_callV_I (M' := mX10_fractionOrNone) 83 rfl dX10_spared_80 ml_X10_231 kmX10_fractionOrNone im_X10_fractionOrNone se_X10_fractionOrNone rfl ⟨by decide, rfl⟩ (c_X10_fractionOrNone _ _ _ hPO ⟨by omega, by omega⟩ ⟨by omega, by omega⟩ (by omega) (by omega)) rfl rfl ⟨Nat.le_of_ble_eq_true rfl, Nat.le_of_ble_eq_true rfl⟩ (Nat.le_of_ble_eq_true rfl) ⟨Nat.le_of_ble_eq_true rfl, Nat.le_of_ble_eq_true rfl⟩ ?_
      rintro z80 m80 h80
      refine R_ireturn dX10_spared_83 rfl ?_
      exact QI_mk ⟨by unfold a_spared; rw [if_pos (by omega)]; exact h80.1, h80.2.s d91_q, hCS.fr h80.2 d91_c⟩
    · refine R_iconst 17 rfl dX10_spared_16 ?_
      refine R_ireturn dX10_spared_17 rfl ?_
      exact QI_mk ⟨by unfold a_spared; rw [if_neg (by omega)], Fs.rf, hCS⟩
theorem c_X10_learnt (c a b w : Int) (hCS : CS o d L B ch m) (hc : rg c) (ha : rg a) (hb : rg b) (hw : rg w) : C Γ mX10_learnt 6 240 0 0 [vr 0, vi c, vi a, vi b, vi w] SH m (QA o d L B ch m (a_learnt L B ch c a b w)) := by
  refine C_of_R rfl (Nat.le_of_ble_eq_true rfl) ?_
  refine R_iload_n 1 rfl dX10_learnt_0 rfl ?_
  refine R_callS_i (M' := mX10_isChoice) 4 rfl dX10_learnt_1 ml_X10_218 kmX10_isChoice st_X10_isChoice (c_X10_isChoice _ (by first | assumption | exact ⟨by omega, by omega⟩)) rfl rfl ⟨Nat.le_of_ble_eq_true rfl, Nat.le_of_ble_eq_true rfl⟩ (Nat.le_of_ble_eq_true rfl) ⟨Nat.le_of_ble_eq_true rfl, Nat.le_of_ble_eq_true rfl⟩ ?_
  refine R_ifp_eq 7 25 rfl rfl dX10_learnt_4 (fun h4 => ?_) (fun h4 => ?_)
  · refine R_iconst 26 rfl dX10_learnt_25 ?_
    refine R_ireturn dX10_learnt_26 rfl ?_
    exact QI_mk ⟨by unfold a_learnt; rw [if_neg (by omega)], Fs.rf, hCS⟩
  · refine R_iload_n 8 rfl dX10_learnt_7 rfl ?_
    refine R_iload_n 9 rfl dX10_learnt_8 rfl ?_
    refine R_callS_i (M' := mX10_areLearntYears) 12 rfl dX10_learnt_9 ml_X10_255 kmX10_areLearntYears st_X10_areLearntYears (c_X10_areLearntYears _ _ (by first | assumption | exact ⟨by omega, by omega⟩) (by first | assumption | exact ⟨by omega, by omega⟩)) rfl rfl ⟨Nat.le_of_ble_eq_true rfl, Nat.le_of_ble_eq_true rfl⟩ (Nat.le_of_ble_eq_true rfl) ⟨Nat.le_of_ble_eq_true rfl, Nat.le_of_ble_eq_true rfl⟩ ?_
    refine R_ifp_eq 15 25 rfl rfl dX10_learnt_12 (fun h12 => ?_) (fun h12 => ?_)
    · refine R_iconst 26 rfl dX10_learnt_25 ?_
      refine R_ireturn dX10_learnt_26 rfl ?_
      exact QI_mk ⟨by unfold a_learnt; rw [if_neg (by omega)], Fs.rf, hCS⟩
    · refine R_iload 17 rfl dX10_learnt_15 rfl ?_
      refine R_iconst 18 rfl dX10_learnt_17 ?_
      refine R_iconst 19 rfl dX10_learnt_18 ?_
      refine R_callS_i (M' := mX10_within) 22 rfl dX10_learnt_19 ml_X10_108 kmX10_within st_X10_within (c_X10_within _ _ _ (by first | assumption | exact ⟨by omega, by omega⟩) (by first | assumption | exact ⟨by omega, by omega⟩) (by first | assumption | exact ⟨by omega, by omega⟩)) rfl rfl ⟨Nat.le_of_ble_eq_true rfl, Nat.le_of_ble_eq_true rfl⟩ (Nat.le_of_ble_eq_true rfl) ⟨Nat.le_of_ble_eq_true rfl, Nat.le_of_ble_eq_true rfl⟩ ?_
      refine R_ifp_ne 25 27 rfl rfl dX10_learnt_22 (fun h22 => ?_) (fun h22 => ?_)
      · refine R_aload_n 28 rfl dX10_learnt_27 rfl ?_
        refine R_iload_n 29 rfl dX10_learnt_28 rfl ?_
        refine R_iload_n 30 rfl dX10_learnt_29 rfl ?_
        refine R_iload_n 31 rfl dX10_learnt_30 rfl ?_
        refine R_iload 33 rfl dX10_learnt_31 rfl ?_
        refine R_callV_I (M' := mX10_howManyLearnt) 36 rfl dX10_learnt_33 ml_X10_258 kmX10_howManyLearnt im_X10_howManyLearnt se_X10_howManyLearnt rfl ⟨by decide, rfl⟩ (c_X10_howManyLearnt c.toNat _ _ _ _ hCS (by omega) (by omega) ha hb (by omega)) rfl rfl ⟨Nat.le_of_ble_eq_true rfl, Nat.le_of_ble_eq_true rfl⟩ (Nat.le_of_ble_eq_true rfl) ⟨Nat.le_of_ble_eq_true rfl, Nat.le_of_ble_eq_true rfl⟩ ?_
        rintro z33 m33 h33
        refine R_ireturn dX10_learnt_36 rfl ?_
        exact QI_mk ⟨by unfold a_learnt; rw [if_pos (by omega)]; exact h33.1, h33.2.1.s, h33.2.2.1⟩
      · refine R_iconst 26 rfl dX10_learnt_25 ?_
        refine R_ireturn dX10_learnt_26 rfl ?_
        exact QI_mk ⟨by unfold a_learnt; rw [if_neg (by omega)], Fs.rf, hCS⟩
theorem c_X10_bounds (c a b w : Int) (hCS : CS o d L B ch m) (hc : rg c) (ha : rg a) (hb : rg b) (hw : rg w) : C Γ mX10_bounds 6 240 0 0 [vr 0, vi c, vi a, vi b, vi w] SH m (QA o d L B ch m (a_bounds L B ch c a b w)) := by
  refine C_of_R rfl (Nat.le_of_ble_eq_true rfl) ?_
  have g2 := hCS.2.2.1.1
  have hPO := hCS.1
  have hP := hPO.2
  have p0 := hml_le L B ch c.toNat a b 0
  have p1 := hml_le L B ch c.toNat a b 1
  have p2 := hml_le L B ch c.toNat a b 2
  have p3 := hml_le L B ch c.toNat a b 3
  have p4 : hml L B ch c.toNat a b 3 ≤ hml L B ch c.toNat a b 1 := cnt_mono (fun k hk q => by have := lnI_iff.mp q; exact lnI_iff.mpr ⟨this.1, Or.inl (by omega), this.2.2⟩)
  refine R_iload_n 1 rfl dX10_bounds_0 rfl ?_
  refine R_callS_i (M' := mX10_isChoice) 4 rfl dX10_bounds_1 ml_X10_218 kmX10_isChoice st_X10_isChoice (c_X10_isChoice _ (by first | assumption | exact ⟨by omega, by omega⟩)) rfl rfl ⟨Nat.le_of_ble_eq_true rfl, Nat.le_of_ble_eq_true rfl⟩ (Nat.le_of_ble_eq_true rfl) ⟨Nat.le_of_ble_eq_true rfl, Nat.le_of_ble_eq_true rfl⟩ ?_
  refine R_ifp_eq 7 25 rfl rfl dX10_bounds_4 (fun h4 => ?_) (fun h4 => ?_)
  · refine R_iconst 26 rfl dX10_bounds_25 ?_
    refine R_ireturn dX10_bounds_26 rfl ?_
    exact QI_mk ⟨by unfold a_bounds; rw [if_neg (by omega)], Fs.rf, hCS⟩
  · refine R_iload_n 8 rfl dX10_bounds_7 rfl ?_
    refine R_iload_n 9 rfl dX10_bounds_8 rfl ?_
    refine R_callS_i (M' := mX10_areLearntYears) 12 rfl dX10_bounds_9 ml_X10_255 kmX10_areLearntYears st_X10_areLearntYears (c_X10_areLearntYears _ _ (by first | assumption | exact ⟨by omega, by omega⟩) (by first | assumption | exact ⟨by omega, by omega⟩)) rfl rfl ⟨Nat.le_of_ble_eq_true rfl, Nat.le_of_ble_eq_true rfl⟩ (Nat.le_of_ble_eq_true rfl) ⟨Nat.le_of_ble_eq_true rfl, Nat.le_of_ble_eq_true rfl⟩ ?_
    refine R_ifp_eq 15 25 rfl rfl dX10_bounds_12 (fun h12 => ?_) (fun h12 => ?_)
    · refine R_iconst 26 rfl dX10_bounds_25 ?_
      refine R_ireturn dX10_bounds_26 rfl ?_
      exact QI_mk ⟨by unfold a_bounds; rw [if_neg (by omega)], Fs.rf, hCS⟩
    · refine R_iload 17 rfl dX10_bounds_15 rfl ?_
      refine R_iconst 18 rfl dX10_bounds_17 ?_
      refine R_iconst 19 rfl dX10_bounds_18 ?_
      refine R_callS_i (M' := mX10_within) 22 rfl dX10_bounds_19 ml_X10_108 kmX10_within st_X10_within (c_X10_within _ _ _ (by first | assumption | exact ⟨by omega, by omega⟩) (by first | assumption | exact ⟨by omega, by omega⟩) (by first | assumption | exact ⟨by omega, by omega⟩)) rfl rfl ⟨Nat.le_of_ble_eq_true rfl, Nat.le_of_ble_eq_true rfl⟩ (Nat.le_of_ble_eq_true rfl) ⟨Nat.le_of_ble_eq_true rfl, Nat.le_of_ble_eq_true rfl⟩ ?_
      refine R_ifp_ne 25 27 rfl rfl dX10_bounds_22 (fun h22 => ?_) (fun h22 => ?_)
      · refine R_aload_n 28 rfl dX10_bounds_27 rfl ?_
        refine R_iload_n 29 rfl dX10_bounds_28 rfl ?_
        refine R_iload_n 30 rfl dX10_bounds_29 rfl ?_
        refine R_iload_n 31 rfl dX10_bounds_30 rfl ?_
        refine R_iconst 32 rfl dX10_bounds_31 ?_
        refine R_callV_I (M' := mX10_howManyLearnt) 35 rfl dX10_bounds_32 ml_X10_258 kmX10_howManyLearnt im_X10_howManyLearnt se_X10_howManyLearnt rfl ⟨by decide, rfl⟩ (c_X10_howManyLearnt c.toNat _ _ _ _ hCS (by omega) (by omega) ha hb (by omega)) rfl rfl ⟨Nat.le_of_ble_eq_true rfl, Nat.le_of_ble_eq_true rfl⟩ (Nat.le_of_ble_eq_true rfl) ⟨Nat.le_of_ble_eq_true rfl, Nat.le_of_ble_eq_true rfl⟩ ?_
        rintro z32 m32 h32
        obtain ⟨e32, f32, hCS, hKF⟩ := h32
        clear hPO hP
        have hPO := hCS.1
        have hP := hPO.2
        refine R_istore [_, _, _, _, _, _, _, _, _] 37 rfl dX10_bounds_35 rfl (by decide) ?_
        refine R_aload_n 38 rfl dX10_bounds_37 rfl ?_
        refine R_iload_n 39 rfl dX10_bounds_38 rfl ?_
        refine R_iload_n 40 rfl dX10_bounds_39 rfl ?_
        refine R_iload_n 41 rfl dX10_bounds_40 rfl ?_
        refine R_iconst 42 rfl dX10_bounds_41 ?_
        refine R_callV_I (M' := mX10_howManyLearnt) 45 rfl dX10_bounds_42 ml_X10_258 kmX10_howManyLearnt im_X10_howManyLearnt se_X10_howManyLearnt rfl ⟨by decide, rfl⟩ (c_X10_howManyLearnt c.toNat _ _ _ _ hCS (by omega) (by omega) ha hb (by omega)) rfl rfl ⟨Nat.le_of_ble_eq_true rfl, Nat.le_of_ble_eq_true rfl⟩ (Nat.le_of_ble_eq_true rfl) ⟨Nat.le_of_ble_eq_true rfl, Nat.le_of_ble_eq_true rfl⟩ ?_
        rintro z42 m42 h42
        obtain ⟨e42, f42, hCS, hKF⟩ := h42
        clear hPO hP
        have hPO := hCS.1
        have hP := hPO.2
        refine R_istore [_, _, _, _, _, _, _, _, _] 47 rfl dX10_bounds_45 rfl (by decide) ?_
        refine R_aload_n 48 rfl dX10_bounds_47 rfl ?_
        refine R_iload_n 49 rfl dX10_bounds_48 rfl ?_
        refine R_iload_n 50 rfl dX10_bounds_49 rfl ?_
        refine R_iload_n 51 rfl dX10_bounds_50 rfl ?_
        refine R_iconst 52 rfl dX10_bounds_51 ?_
        refine R_callV_I (M' := mX10_howManyLearnt) 55 rfl dX10_bounds_52 ml_X10_258 kmX10_howManyLearnt im_X10_howManyLearnt se_X10_howManyLearnt rfl ⟨by decide, rfl⟩ (c_X10_howManyLearnt c.toNat _ _ _ _ hCS (by omega) (by omega) ha hb (by omega)) rfl rfl ⟨Nat.le_of_ble_eq_true rfl, Nat.le_of_ble_eq_true rfl⟩ (Nat.le_of_ble_eq_true rfl) ⟨Nat.le_of_ble_eq_true rfl, Nat.le_of_ble_eq_true rfl⟩ ?_
        rintro z52 m52 h52
        obtain ⟨e52, f52, hCS, hKF⟩ := h52
        clear hPO hP
        have hPO := hCS.1
        have hP := hPO.2
        refine R_istore [_, _, _, _, _, _, _, _, _] 57 rfl dX10_bounds_55 rfl (by decide) ?_
        refine R_iload 59 rfl dX10_bounds_57 rfl ?_
        refine R_iconst 60 rfl dX10_bounds_59 ?_
        refine R_icmp_lt 63 80 rfl rfl dX10_bounds_60 (by first | assumption | exact ⟨by omega, by omega⟩) (by first | assumption | exact ⟨by omega, by omega⟩) (fun h60 => ?_) (fun h60 => ?_)
        · refine R_aload_n 81 rfl dX10_bounds_80 rfl ?_
          refine R_iload_n 82 rfl dX10_bounds_81 rfl ?_
          refine R_iload_n 83 rfl dX10_bounds_82 rfl ?_
          refine R_iload_n 84 rfl dX10_bounds_83 rfl ?_
          refine R_iconst 85 rfl dX10_bounds_84 ?_
          refine R_callV_I (M' := mX10_howManyLearnt) 88 rfl dX10_bounds_85 ml_X10_258 kmX10_howManyLearnt im_X10_howManyLearnt se_X10_howManyLearnt rfl ⟨by decide, rfl⟩ (c_X10_howManyLearnt c.toNat _ _ _ _ hCS (by omega) (by omega) ha hb (by omega)) rfl rfl ⟨Nat.le_of_ble_eq_true rfl, Nat.le_of_ble_eq_true rfl⟩ (Nat.le_of_ble_eq_true rfl) ⟨Nat.le_of_ble_eq_true rfl, Nat.le_of_ble_eq_true rfl⟩ ?_
          rintro z85 m85 h85
          obtain ⟨e85, f85, hCS, hKF⟩ := h85
          clear hPO hP
          have hPO := hCS.1
          have hP := hPO.2
          refine R_iload 90 rfl dX10_bounds_88 rfl ?_
          refine R_isub 91 rfl dX10_bounds_90 ?_
          refine R_istore [_, _, _, _, _, _, _, _, _] 93 rfl dX10_bounds_91 rfl (by decide) ?_
          refine R_aload_n 94 rfl dX10_bounds_93 rfl ?_
          refine R_iload 96 rfl dX10_bounds_94 rfl ?_
          refine R_iload 98 rfl dX10_bounds_96 rfl ?_
          refine R_iload 100 rfl dX10_bounds_98 rfl ?_
          refine R_iadd 101 rfl dX10_bounds_100 ?_
          refine R_iload 103 rfl dX10_bounds_101 rfl ?_
          refine R_callV_I (M' := mX10_fractionOrNone) 106 rfl dX10_bounds_103 ml_X10_231 kmX10_fractionOrNone im_X10_fractionOrNone se_X10_fractionOrNone rfl ⟨by decide, rfl⟩ (c_X10_fractionOrNone _ _ _ hPO ⟨by omega, by omega⟩ ⟨by omega, by omega⟩ (by omega) (by omega)) rfl rfl ⟨Nat.le_of_ble_eq_true rfl, Nat.le_of_ble_eq_true rfl⟩ (Nat.le_of_ble_eq_true rfl) ⟨Nat.le_of_ble_eq_true rfl, Nat.le_of_ble_eq_true rfl⟩ ?_
          rintro z103 m103 h103
          refine R_ireturn dX10_bounds_106 rfl ?_
          exact QI_mk ⟨by unfold a_bounds; rw [if_pos (by omega), if_neg (by omega), ← e32, ← e42, ← e52, ← e85]; exact h103.1, (((f32.s.tr f42.s).tr f52.s).tr f85.s).tr (h103.2.s d91_q), hCS.fr h103.2 d91_c⟩
        · refine R_aload_n 64 rfl dX10_bounds_63 rfl ?_
          refine R_iload 66 rfl dX10_bounds_64 rfl ?_
          refine R_iload 68 rfl dX10_bounds_66 rfl ?_
          refine R_iadd 69 rfl dX10_bounds_68 ?_
          refine R_iload 71 rfl dX10_bounds_69 rfl ?_
          refine R_iload 73 rfl dX10_bounds_71 rfl ?_
          refine R_iadd 74 rfl dX10_bounds_73 ?_
          refine R_iload 76 rfl dX10_bounds_74 rfl ?_
          refine R_callV_I (M' := mX10_fractionOrNone) 79 rfl dX10_bounds_76 ml_X10_231 kmX10_fractionOrNone im_X10_fractionOrNone se_X10_fractionOrNone rfl ⟨by decide, rfl⟩ (c_X10_fractionOrNone _ _ _ hPO ⟨by omega, by omega⟩ ⟨by omega, by omega⟩ (by omega) (by omega)) rfl rfl ⟨Nat.le_of_ble_eq_true rfl, Nat.le_of_ble_eq_true rfl⟩ (Nat.le_of_ble_eq_true rfl) ⟨Nat.le_of_ble_eq_true rfl, Nat.le_of_ble_eq_true rfl⟩ ?_
          rintro z76 m76 h76
          refine R_ireturn dX10_bounds_79 rfl ?_
          exact QI_mk ⟨by unfold a_bounds; rw [if_pos (by omega), if_pos (by omega), ← e32, ← e42, ← e52]; exact h76.1, ((f32.s.tr f42.s).tr f52.s).tr (h76.2.s d91_q), hCS.fr h76.2 d91_c⟩
      · refine R_iconst 26 rfl dX10_bounds_25 ?_
        refine R_ireturn dX10_bounds_26 rfl ?_
        exact QI_mk ⟨by unfold a_bounds; rw [if_neg (by omega)], Fs.rf, hCS⟩
theorem c_X10_tens (c w : Int) (hCS : CS o d L B ch m) (hc : rg c) (hw : rg w) : C Γ mX10_tens 6 240 0 0 [vr 0, vi c, vi w] SH m (QA o d L B ch m (a_tens L B ch c w)) := by
  refine C_of_R rfl (Nat.le_of_ble_eq_true rfl) ?_
  have hr := tn_rg L B ch c.toNat hCS.2.2.1.1
  have h9 : mmU (tnM L B ch c.toNat) 15 ≤ 14 := mmU_rg _ 14
  have h7 := hr (mmU (tnM L B ch c.toNat) 15) (by omega)
  refine R_iload_n 1 rfl dX10_tens_0 rfl ?_
  refine R_callS_i (M' := mX10_isChoice) 4 rfl dX10_tens_1 ml_X10_218 kmX10_isChoice st_X10_isChoice (c_X10_isChoice _ (by first | assumption | exact ⟨by omega, by omega⟩)) rfl rfl ⟨Nat.le_of_ble_eq_true rfl, Nat.le_of_ble_eq_true rfl⟩ (Nat.le_of_ble_eq_true rfl) ⟨Nat.le_of_ble_eq_true rfl, Nat.le_of_ble_eq_true rfl⟩ ?_
  refine R_ifp_eq 7 16 rfl rfl dX10_tens_4 (fun h4 => ?_) (fun h4 => ?_)
  · refine R_sipush 19 rfl dX10_tens_16 (by decide) ?_
    refine R_ireturn dX10_tens_19 rfl ?_
    exact QI_mk ⟨by unfold a_tens; rw [if_neg (by omega)], Fs.rf, hCS⟩
  · refine R_iload_n 8 rfl dX10_tens_7 rfl ?_
    refine R_iconst 9 rfl dX10_tens_8 ?_
    refine R_iconst 10 rfl dX10_tens_9 ?_
    refine R_callS_i (M' := mX10_within) 13 rfl dX10_tens_10 ml_X10_108 kmX10_within st_X10_within (c_X10_within _ _ _ (by first | assumption | exact ⟨by omega, by omega⟩) (by first | assumption | exact ⟨by omega, by omega⟩) (by first | assumption | exact ⟨by omega, by omega⟩)) rfl rfl ⟨Nat.le_of_ble_eq_true rfl, Nat.le_of_ble_eq_true rfl⟩ (Nat.le_of_ble_eq_true rfl) ⟨Nat.le_of_ble_eq_true rfl, Nat.le_of_ble_eq_true rfl⟩ ?_
    refine R_ifp_ne 16 20 rfl rfl dX10_tens_13 (fun h13 => ?_) (fun h13 => ?_)
    · refine R_aload_n 21 rfl dX10_tens_20 rfl ?_
      refine R_iload_n 22 rfl dX10_tens_21 rfl ?_
      refine R_callV_V (M' := mX10_tallyTens) 25 rfl dX10_tens_22 ml_X10_262 kmX10_tallyTens im_X10_tallyTens se_X10_tallyTens rfl ⟨by decide, rfl⟩ (c_X10_tallyTens c.toNat _ hCS (by omega) (by omega)) rfl rfl ⟨Nat.le_of_ble_eq_true rfl, Nat.le_of_ble_eq_true rfl⟩ (Nat.le_of_ble_eq_true rfl) ⟨Nat.le_of_ble_eq_true rfl, Nat.le_of_ble_eq_true rfl⟩ ?_
      rintro m22 h22
      obtain ⟨f22, hCS, hKF, hT⟩ := h22
      have hPO := hCS.1
      have hP := hPO.2
      have h8 := hT.2 (mmU (tnM L B ch c.toNat) 15) (by omega)
      refine R_aload_n 26 rfl dX10_tens_25 rfl ?_
      refine R_getP 12 29 rfl dX10_tens_26 rfl rfl fl_X10_82 (hP _ _ _ rfl) ?_
      refine R_callV_i (M' := mX8_mostMarks) 32 rfl dX10_tens_29 ml_X10_265 kmX8_mostMarks im_X8_mostMarks se_X8_mostMarks rfl ⟨by decide, rfl⟩ (c_X8_mostMarks hPO hT hr) rfl rfl ⟨Nat.le_of_ble_eq_true rfl, Nat.le_of_ble_eq_true rfl⟩ (Nat.le_of_ble_eq_true rfl) ⟨Nat.le_of_ble_eq_true rfl, Nat.le_of_ble_eq_true rfl⟩ ?_
      refine R_istore_n [_, _, _, _] 33 rfl dX10_tens_32 rfl (by decide) ?_
      refine R_aload_n 34 rfl dX10_tens_33 rfl ?_
      refine R_getP 12 37 rfl dX10_tens_34 rfl rfl fl_X10_82 (hP _ _ _ rfl) ?_
      refine R_getP 0 40 rfl dX10_tens_37 rfl rfl fl_X10_242 (hP _ _ _ rfl) ?_
      refine R_iload_n 41 rfl dX10_tens_40 rfl ?_
      refine R_iald (mmU (tnM L B ch c.toNat) 15) 42 rfl dX10_tens_41 rfl (by first | rfl | omega) (by omega) (by decide) ?_
      refine R_if_ne 45 49 rfl rfl dX10_tens_42 (by first | assumption | exact ⟨by omega, by omega⟩) (fun h42 => ?_) (fun h42 => ?_)
      · refine R_iload_n 50 rfl dX10_tens_49 rfl ?_
        refine R_if_ne 53 63 rfl rfl dX10_tens_50 (by first | assumption | exact ⟨by omega, by omega⟩) (fun h50 => ?_) (fun h50 => ?_)
        · refine R_aload_n 64 rfl dX10_tens_63 rfl ?_
          refine R_getP 12 67 rfl dX10_tens_64 rfl rfl fl_X10_82 (hP _ _ _ rfl) ?_
          refine R_getP 0 70 rfl dX10_tens_67 rfl rfl fl_X10_242 (hP _ _ _ rfl) ?_
          refine R_iload_n 71 rfl dX10_tens_70 rfl ?_
          refine R_iald (mmU (tnM L B ch c.toNat) 15) 72 rfl dX10_tens_71 rfl (by first | rfl | omega) (by omega) (by decide) ?_
          refine R_ireturn dX10_tens_72 rfl ?_
          first
            | exact QI_mk ⟨by unfold a_tens tns; rw [if_pos (by omega), if_neg (by omega), if_pos (by omega)], f22, hCS⟩
            | exact QI_mk ⟨by unfold a_tens tns; rw [if_pos (by omega), if_neg (by omega), if_neg (by omega)]; exact h8.1, f22, hCS⟩
        · refine R_bipush 55 rfl dX10_tens_53 (by decide) ?_
          refine R_bipush 57 rfl dX10_tens_55 (by decide) ?_
          refine R_iload_n 58 rfl dX10_tens_57 rfl ?_
          refine R_imul 59 rfl dX10_tens_58 ?_
          refine R_iadd 60 rfl dX10_tens_59 ?_
          refine R_goto 72 rfl dX10_tens_60 ?_
          refine R_ireturn dX10_tens_72 rfl ?_
          first
            | exact QI_mk ⟨by unfold a_tens tns; rw [if_pos (by omega), if_neg (by omega), if_pos (by omega)], f22, hCS⟩
            | exact QI_mk ⟨by unfold a_tens tns; rw [if_pos (by omega), if_neg (by omega), if_neg (by omega)]; exact h8.1, f22, hCS⟩
      · refine R_sipush 48 rfl dX10_tens_45 (by decide) ?_
        refine R_ireturn dX10_tens_48 rfl ?_
        exact QI_mk ⟨by unfold a_tens tns; rw [if_pos (by omega), if_pos (by omega)], f22, hCS⟩
    · refine R_sipush 19 rfl dX10_tens_16 (by decide) ?_
      refine R_ireturn dX10_tens_19 rfl ?_
      exact QI_mk ⟨by unfold a_tens; rw [if_neg (by omega)], Fs.rf, hCS⟩
theorem c_X10_unwed (c w : Int) (hCS : CS o d L B ch m) (hc : rg c) (hw : rg w) : C Γ mX10_unwed 6 240 0 0 [vr 0, vi c, vi w] SH m (QA o d L B ch m (a_unwed L B ch c w)) := by
  refine C_of_R rfl (Nat.le_of_ble_eq_true rfl) ?_
  have g1 := hmy_le L B ch c.toNat 1
  have g0 := hmy_le L B ch c.toNat 0
  have g2 := hCS.2.2.1.1
  have hPO := hCS.1
  have hP := hPO.2
  have hLO := hCS.2.2.2.2.1.1
  rcases hCS.2.2.2.1 with ⟨rfl, -⟩ | ⟨rfl, -⟩
  all_goals
    refine R_iload_n 1 rfl dX10_unwed_0 rfl ?_
    refine R_callS_i (M' := mX10_isChoice) 4 rfl dX10_unwed_1 ml_X10_218 kmX10_isChoice st_X10_isChoice (c_X10_isChoice _ (by first | assumption | exact ⟨by omega, by omega⟩)) rfl rfl ⟨Nat.le_of_ble_eq_true rfl, Nat.le_of_ble_eq_true rfl⟩ (Nat.le_of_ble_eq_true rfl) ⟨Nat.le_of_ble_eq_true rfl, Nat.le_of_ble_eq_true rfl⟩ ?_
    refine R_ifp_eq 7 16 rfl rfl dX10_unwed_4 (fun h4 => ?_) (fun h4 => ?_)
    · refine R_iconst 17 rfl dX10_unwed_16 ?_
      refine R_ireturn dX10_unwed_17 rfl ?_
      exact QI_mk ⟨by unfold a_unwed; rw [if_neg (by omega)], Fs.rf, hCS⟩
    · refine R_iload_n 8 rfl dX10_unwed_7 rfl ?_
      refine R_iconst 9 rfl dX10_unwed_8 ?_
      refine R_iconst 10 rfl dX10_unwed_9 ?_
      refine R_callS_i (M' := mX10_within) 13 rfl dX10_unwed_10 ml_X10_108 kmX10_within st_X10_within (c_X10_within _ _ _ (by first | assumption | exact ⟨by omega, by omega⟩) (by first | assumption | exact ⟨by omega, by omega⟩) (by first | assumption | exact ⟨by omega, by omega⟩)) rfl rfl ⟨Nat.le_of_ble_eq_true rfl, Nat.le_of_ble_eq_true rfl⟩ (Nat.le_of_ble_eq_true rfl) ⟨Nat.le_of_ble_eq_true rfl, Nat.le_of_ble_eq_true rfl⟩ ?_
      refine R_ifp_ne 16 18 rfl rfl dX10_unwed_13 (fun h13 => ?_) (fun h13 => ?_)
      · refine R_aload_n 19 rfl dX10_unwed_18 rfl ?_
        refine R_iload_n 20 rfl dX10_unwed_19 rfl ?_
        refine R_iconst 21 rfl dX10_unwed_20 ?_
        refine R_callV_I (M' := mX10_howMany) 24 rfl dX10_unwed_21 ml_X10_228 kmX10_howMany im_X10_howMany se_X10_howMany rfl ⟨by decide, rfl⟩ (c_X10_howMany c.toNat _ _ hCS (by omega) (by omega) (by omega)) rfl rfl ⟨Nat.le_of_ble_eq_true rfl, Nat.le_of_ble_eq_true rfl⟩ (Nat.le_of_ble_eq_true rfl) ⟨Nat.le_of_ble_eq_true rfl, Nat.le_of_ble_eq_true rfl⟩ ?_
        rintro z21 m21 h21
        obtain ⟨e21, f21, hCS, hKF⟩ := h21
        clear hPO hP
        have hPO := hCS.1
        have hP := hPO.2
        first | have k21 := (LdC_4 hCS.2.2.2.1).1 | have k21 := (LdC_17 hCS.2.2.2.1).1
        refine R_istore_n [_, _, _, _, _] 25 rfl dX10_unwed_24 rfl (by decide) ?_
        refine R_iload_n 26 rfl dX10_unwed_25 rfl ?_
        refine R_iconst 27 rfl dX10_unwed_26 ?_
        refine R_icmp_ge 30 34 rfl rfl dX10_unwed_27 (by first | assumption | exact ⟨by omega, by omega⟩) (by first | assumption | exact ⟨by omega, by omega⟩) (fun h27 => ?_) (fun h27 => ?_)
        · refine R_iload_n 35 rfl dX10_unwed_34 rfl ?_
          refine R_aload_n 36 rfl dX10_unwed_35 rfl ?_
          refine R_getP 2 39 rfl dX10_unwed_36 rfl rfl fl_X10_26 (PO_o hPO) ?_
          refine R_getI 5 42 rfl dX10_unwed_39 rfl rfl fl_X10_140 ?_
          refine R_iadd 43 rfl dX10_unwed_42 ?_
          refine R_istore [_, _, _, _, _] 45 rfl dX10_unwed_43 rfl (by decide) ?_
          refine R_aload_n 46 rfl dX10_unwed_45 rfl ?_
          refine R_iload 48 rfl dX10_unwed_46 rfl ?_
          refine R_aload_n 49 rfl dX10_unwed_48 rfl ?_
          refine R_iload_n 50 rfl dX10_unwed_49 rfl ?_
          refine R_iconst 51 rfl dX10_unwed_50 ?_
          refine R_callV_I (M' := mX10_howMany) 54 rfl dX10_unwed_51 ml_X10_228 kmX10_howMany im_X10_howMany se_X10_howMany rfl ⟨by decide, rfl⟩ (c_X10_howMany c.toNat _ _ hCS (by omega) (by omega) (by omega)) rfl rfl ⟨Nat.le_of_ble_eq_true rfl, Nat.le_of_ble_eq_true rfl⟩ (Nat.le_of_ble_eq_true rfl) ⟨Nat.le_of_ble_eq_true rfl, Nat.le_of_ble_eq_true rfl⟩ ?_
          rintro z51 m51 h51
          obtain ⟨e51, f51, hCS, hKF⟩ := h51
          clear hPO hP
          have hPO := hCS.1
          have hP := hPO.2
          first | have k51 := (LdC_4 hCS.2.2.2.1).1 | have k51 := (LdC_17 hCS.2.2.2.1).1
          refine R_aload_n 55 rfl dX10_unwed_54 rfl ?_
          refine R_getP 2 58 rfl dX10_unwed_55 rfl rfl fl_X10_26 (PO_o hPO) ?_
          refine R_getI 5 61 rfl dX10_unwed_58 rfl rfl fl_X10_140 ?_
          refine R_iadd 62 rfl dX10_unwed_61 ?_
          refine R_iload_n 63 rfl dX10_unwed_62 rfl ?_
          refine R_callV_I (M' := mX10_fractionOrNone) 66 rfl dX10_unwed_63 ml_X10_231 kmX10_fractionOrNone im_X10_fractionOrNone se_X10_fractionOrNone rfl ⟨by decide, rfl⟩ (c_X10_fractionOrNone _ _ _ hPO ⟨by omega, by omega⟩ ⟨by omega, by omega⟩ (by omega) (by omega)) rfl rfl ⟨Nat.le_of_ble_eq_true rfl, Nat.le_of_ble_eq_true rfl⟩ (Nat.le_of_ble_eq_true rfl) ⟨Nat.le_of_ble_eq_true rfl, Nat.le_of_ble_eq_true rfl⟩ ?_
          rintro z63 m63 h63
          refine R_ireturn dX10_unwed_66 rfl ?_
          obtain ⟨q1, q2⟩ := h63
          refine QI_mk ⟨?_, (f21.s.tr f51.s).tr (q2.s d91_q), hCS.fr q2 d91_c⟩
          rw [a_unwed, if_pos (by omega), ← e21, ← e51, q1, k51.2.2.2.2.2.1]
          first
            | rw [if_pos (show w < 2 by omega)]; rfl
            | rw [if_neg (show ¬ w < 2 by omega), k21.2.2.2.2.2.1]; rfl
        · refine R_iload_n 31 rfl dX10_unwed_30 rfl ?_
          refine R_goto 43 rfl dX10_unwed_31 ?_
          refine R_istore [_, _, _, _, _] 45 rfl dX10_unwed_43 rfl (by decide) ?_
          refine R_aload_n 46 rfl dX10_unwed_45 rfl ?_
          refine R_iload 48 rfl dX10_unwed_46 rfl ?_
          refine R_aload_n 49 rfl dX10_unwed_48 rfl ?_
          refine R_iload_n 50 rfl dX10_unwed_49 rfl ?_
          refine R_iconst 51 rfl dX10_unwed_50 ?_
          refine R_callV_I (M' := mX10_howMany) 54 rfl dX10_unwed_51 ml_X10_228 kmX10_howMany im_X10_howMany se_X10_howMany rfl ⟨by decide, rfl⟩ (c_X10_howMany c.toNat _ _ hCS (by omega) (by omega) (by omega)) rfl rfl ⟨Nat.le_of_ble_eq_true rfl, Nat.le_of_ble_eq_true rfl⟩ (Nat.le_of_ble_eq_true rfl) ⟨Nat.le_of_ble_eq_true rfl, Nat.le_of_ble_eq_true rfl⟩ ?_
          rintro z51 m51 h51
          obtain ⟨e51, f51, hCS, hKF⟩ := h51
          clear hPO hP
          have hPO := hCS.1
          have hP := hPO.2
          first | have k51 := (LdC_4 hCS.2.2.2.1).1 | have k51 := (LdC_17 hCS.2.2.2.1).1
          refine R_aload_n 55 rfl dX10_unwed_54 rfl ?_
          refine R_getP 2 58 rfl dX10_unwed_55 rfl rfl fl_X10_26 (PO_o hPO) ?_
          refine R_getI 5 61 rfl dX10_unwed_58 rfl rfl fl_X10_140 ?_
          refine R_iadd 62 rfl dX10_unwed_61 ?_
          refine R_iload_n 63 rfl dX10_unwed_62 rfl ?_
          refine R_callV_I (M' := mX10_fractionOrNone) 66 rfl dX10_unwed_63 ml_X10_231 kmX10_fractionOrNone im_X10_fractionOrNone se_X10_fractionOrNone rfl ⟨by decide, rfl⟩ (c_X10_fractionOrNone _ _ _ hPO ⟨by omega, by omega⟩ ⟨by omega, by omega⟩ (by omega) (by omega)) rfl rfl ⟨Nat.le_of_ble_eq_true rfl, Nat.le_of_ble_eq_true rfl⟩ (Nat.le_of_ble_eq_true rfl) ⟨Nat.le_of_ble_eq_true rfl, Nat.le_of_ble_eq_true rfl⟩ ?_
          rintro z63 m63 h63
          refine R_ireturn dX10_unwed_66 rfl ?_
          obtain ⟨q1, q2⟩ := h63
          refine QI_mk ⟨?_, (f21.s.tr f51.s).tr (q2.s d91_q), hCS.fr q2 d91_c⟩
          rw [a_unwed, if_pos (by omega), ← e21, ← e51, q1, k51.2.2.2.2.2.1]
          first
            | rw [if_pos (show w < 2 by omega)]; rfl
            | rw [if_neg (show ¬ w < 2 by omega), k21.2.2.2.2.2.1]; rfl
      · refine R_iconst 17 rfl dX10_unwed_16 ?_
        refine R_ireturn dX10_unwed_17 rfl ?_
        exact QI_mk ⟨by unfold a_unwed; rw [if_neg (by omega)], Fs.rf, hCS⟩
end
