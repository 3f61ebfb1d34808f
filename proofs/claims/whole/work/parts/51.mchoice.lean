theorem ty_all (L : Ld) (B : Bk) (ch : Cs) (c : Nat) (g : Int) : cnt (tyP B ch c (-4) g) (2 * B.1) = hmy L B ch c 0 := cnt_congr (fun k _ => by simp [tyP, inS, srt])
theorem ty_abl (L : Ld) (B : Bk) (ch : Cs) (c : Nat) (g : Int) : cnt (tyQ L B ch c (-4) g) (2 * B.1) = hmy L B ch c 1 := cnt_congr (fun k _ => by simp [tyQ, tyP, inS, srt])
theorem ty_gM {B : Bk} {ch : Cs} {c g : Nat} {gr : Int} (h : 0 ≤ gr) : (cnt (tyP B ch c gr (g : Int)) (2 * B.1) : Int) = tgM B ch c gr g := by
  unfold tgM
  rw [cnt_congr (q := tgP B ch c gr g) (fun k _ => by simp [tyP, tgP, show ¬ gr = -4 by omega])]
theorem ty_gA {L : Ld} {B : Bk} {ch : Cs} {c g : Nat} {gr : Int} (h : 0 ≤ gr) : (cnt (tyQ L B ch c gr (g : Int)) (2 * B.1) : Int) = tgA L B ch c gr g := by
  unfold tgA
  rw [cnt_congr (q := tgQ L B ch c gr g) (fun k _ => by simp [tyQ, tgQ, tyP, tgP, show ¬ gr = -4 by omega])]
def gMy (L : Ld) (gr : Int) : Nat := if gr = 0 then npN L else if gr = 1 then 8 else 2
theorem tg_beyond {L : Ld} {B : Bk} {ch : Cs} {c g : Nat} {gr : Int} (hL : LdOk L) (hO : BkOk (L.1 0) B) (hg : gMy L gr ≤ g) : tgM B ch c gr g = 0 := by
  unfold tgM
  have hn := npN_le hL
  have e : cnt (tgP B ch c gr g) (2 * B.1) = 0 := by
    apply Classical.byContradiction
    intro q
    have key : ∀ n, (∀ k, k < n → ¬ tgP B ch c gr g k = true) → cnt (tgP B ch c gr g) n = 0 := by
      intro n
      induction n with
      | zero => intro _; rfl
      | succ n ih => intro h; rw [cnt_n (h n (by omega)), ih (fun k hk => h k (by omega))]
    refine q (key _ (fun k hk w => ?_))
    have w1 : grp B k gr = (g : Int) := by simp only [tgP, Bool.and_eq_true, decide_eq_true_eq] at w; exact w.2
    have a1 := hO.2.1 (k / 2) (by omega)
    have a2 := hO.2.2 k hk
    unfold grp at w1
    unfold gMy at hg
    split at w1
    · rw [if_pos (by assumption)] at hg; omega
    · rw [if_neg (by assumption)] at hg
      split at w1
      · rw [if_pos (by assumption)] at hg; omega
      · rw [if_neg (by assumption)] at hg
        split at w1 <;> omega
  rw [e]; rfl
theorem gsU_beyond {mk ab : Nat → Int} {n : Int} {a : Nat} (hn : 1 ≤ n) (h : ∀ g, a ≤ g → mk g = 0) : ∀ b, gsU mk ab n (a + b) = gsU mk ab n a
  | 0 => rfl
  | b + 1 => by
    rw [← gsU_beyond hn h b]
    show (if n ≤ mk (a + b) ∧ _ then _ else _) = _
    rw [if_neg (fun q => by have := q.1; rw [h (a + b) (by omega)] at this; omega)]
    rfl
theorem gMy_le {L : Ld} (h : LdOk L) (gr : Int) : gMy L gr ≤ 12 := by
  have := npN_le h
  unfold gMy
  split
  · omega
  · split <;> omega
section
variable {Γ : GX} {m m' : Mem} {B B' : Bk} {L : Ld} {ch ch' : Cs}
theorem RW.choose {c : Nat} {p f t s r : Int} (h : RW L B ch m) (hc : c < 2) (hO : ChOk (chSet ch c p f t s r)) : RS L B (chSet ch c p f t s r) (scM m c p f t s r) := by
  obtain ⟨h1, h2, h3, h4, h5, h6, h7⟩ := h.1
  have rc := h.rc
  have fm := (Fm.rf (m := m)).sc (c := c) (p := p) (f := f) (t := t) (s := s) (r := r) hc
  have y := scM_y (m := m) (c := c) (p := p) (f := f) (t := t) (s := s) (r := r)
  obtain ⟨k1, k2, k3, k4, k5, -, k7⟩ := h.1
  obtain ⟨l2, l3, l4⟩ := k2
  obtain ⟨b1, b2, b3⟩ := k4
  have b := k5.1
  refine ⟨fun a k r q => k1 a k r q, ⟨fun j hj => by rw [scM_n ⟨by omega, by omega⟩]; exact l2 j hj, fun p hp w hw => by rw [scM_n ⟨by omega, by omega⟩]; exact l3 p hp w hw, fun p hp w hw => by rw [scM_n ⟨by omega, by omega⟩]; exact l4 p hp w hw⟩, k3, ⟨by rw [scM_n ⟨by omega, by omega⟩]; exact b1, fun k hk w hw => by rw [scM_n ⟨by omega, by omega⟩]; exact b2 k hk w hw, fun k hk w hw => by rw [scM_n ⟨by omega, by omega⟩]; exact b3 k hk w hw⟩, k5, Or.inl ⟨y.1, fun c' hc' j hj => ?_⟩, hO⟩
  by_cases e : c' = c
  · subst e
    simp only [chSet, if_true]
    rcases (show j = 0 ∨ j = 1 ∨ j = 2 ∨ j = 3 ∨ j = 4 by omega) with rfl | rfl | rfl | rfl | rfl
    · simpa using y.2.1
    · simpa using y.2.2.1
    · simpa using y.2.2.2.1
    · simpa using y.2.2.2.2.1
    · simpa using y.2.2.2.2.2
  · simp only [chSet, if_neg e]
    rw [scM_n ⟨by omega, by omega⟩]
    exact rc c' hc' j hj
theorem c_X11_choose (c p f t s r : Int) (hR : RS L B ch m) (hc : rg c) (hp : rg p) (hf : rg f) (ht : rg t) (hs : rg s) (hr : rg r) : C Γ mX11_choose 7 280 0 0 [vr 96, vi c, vi p, vi f, vi t, vi s, vi r] SH m (QI SH (fun z' m' => z' = (if choK L c p f t s r = true then (hmy L B (chSet ch c.toNat p f t s r) c.toNat 0 : Int) else -1) ∧ Fm m m' ∧ RS L B (if choK L c p f t s r = true then chSet ch c.toNat p f t s r else ch) m')) := by
  refine C_of_R rfl (Nat.le_of_ble_eq_true rfl) ?_
  have hP := hR.1
  have h0 := allB_rg hR.2.2.1
  have hl := hR.2.2.1.1
  have h2 := hR.2.1.1 0 (by omega)
  have e2 : 1 * 2 ^ (m.1 101 0).toNat - 1 = allB L := by rw [h2]; unfold allB npN; omega
  refine R_iload_n 1 rfl dX11_choose_0 rfl ?_
  refine R_callS_i (M' := mX11_isChoice) 4 rfl dX11_choose_1 ml_X11_222 kmX11_isChoice st_X11_isChoice (c_X11_isChoice _ (by first | assumption | exact ⟨by omega, by omega⟩)) rfl rfl ⟨Nat.le_of_ble_eq_true rfl, Nat.le_of_ble_eq_true rfl⟩ (Nat.le_of_ble_eq_true rfl) ⟨Nat.le_of_ble_eq_true rfl, Nat.le_of_ble_eq_true rfl⟩ ?_
  refine R_ifp_eq 7 79 rfl rfl dX11_choose_4 (fun h4 => ?_) (fun h4 => ?_)
  · refine R_iconst 80 rfl dX11_choose_79 ?_
    refine R_ireturn dX11_choose_80 rfl ?_
    have c1 : ¬ choK L c p f t s r = true := fun q => by have := choK_iff.mp q; omega
    exact QI_mk ⟨by rw [if_neg c1], Fm.rf, by rw [if_neg c1]; exact hR⟩
  · refine R_iload_n 8 rfl dX11_choose_7 rfl ?_
    refine R_i2l 9 rfl dX11_choose_8 (by first | assumption | exact ⟨by omega, by omega⟩) ?_
    refine R_lconst 10 rfl dX11_choose_9 ?_
    refine R_topL (b := 0) rfl ?_
    refine R_iconst 11 rfl dX11_choose_10 ?_
    refine R_aload_n 12 rfl dX11_choose_11 rfl ?_
    refine R_getP 12 15 rfl dX11_choose_12 rfl rfl fl_X11_22 (hP _ _ _ rfl) ?_
    refine R_iconst 16 rfl dX11_choose_15 ?_
    refine R_iald 0 17 rfl dX11_choose_16 rfl (by first | rfl | omega) (by decide) (by decide) ?_
    refine R_ishl 18 rfl dX11_choose_17 (by omega) (by omega) ?_
    refine R_iconst 19 rfl dX11_choose_18 ?_
    refine R_isub 20 rfl dX11_choose_19 ?_
    rw [e2]
    refine R_i2l 21 rfl dX11_choose_20 (by first | assumption | exact ⟨by omega, by omega⟩) ?_
    refine R_callS_i (M' := mX11_in) 24 rfl dX11_choose_21 ml_X11_63 kmX11_in st_X11_in (c_X11_in _ _ _ (by first | assumption | exact ⟨by omega, by omega⟩ | exact rg_L (by assumption)) (by first | assumption | exact ⟨by omega, by omega⟩ | exact rg_L (by assumption)) (by first | assumption | exact ⟨by omega, by omega⟩ | exact rg_L (by assumption))) rfl rfl ⟨Nat.le_of_ble_eq_true rfl, Nat.le_of_ble_eq_true rfl⟩ (Nat.le_of_ble_eq_true rfl) ⟨Nat.le_of_ble_eq_true rfl, Nat.le_of_ble_eq_true rfl⟩ ?_
    refine R_ifp_eq 27 79 rfl rfl dX11_choose_24 (fun h24 => ?_) (fun h24 => ?_)
    · refine R_iconst 80 rfl dX11_choose_79 ?_
      refine R_ireturn dX11_choose_80 rfl ?_
      have c1 : ¬ choK L c p f t s r = true := fun q => by have := choK_iff.mp q; omega
      exact QI_mk ⟨by rw [if_neg c1], Fm.rf, by rw [if_neg c1]; exact hR⟩
    · refine R_iload_n 28 rfl dX11_choose_27 rfl ?_
      refine R_i2l 29 rfl dX11_choose_28 (by first | assumption | exact ⟨by omega, by omega⟩) ?_
      refine R_lconst 30 rfl dX11_choose_29 ?_
      refine R_topL (b := 0) rfl ?_
      refine R_ldc2 (89) 33 rfl dX11_choose_30 kl_X11_171 (by decide) ?_
      refine R_callS_i (M' := mX11_in) 36 rfl dX11_choose_33 ml_X11_63 kmX11_in st_X11_in (c_X11_in _ _ _ (by first | assumption | exact ⟨by omega, by omega⟩ | exact rg_L (by assumption)) (by first | assumption | exact ⟨by omega, by omega⟩ | exact rg_L (by assumption)) (by first | assumption | exact ⟨by omega, by omega⟩ | exact rg_L (by assumption))) rfl rfl ⟨Nat.le_of_ble_eq_true rfl, Nat.le_of_ble_eq_true rfl⟩ (Nat.le_of_ble_eq_true rfl) ⟨Nat.le_of_ble_eq_true rfl, Nat.le_of_ble_eq_true rfl⟩ ?_
      refine R_ifp_eq 39 79 rfl rfl dX11_choose_36 (fun h36 => ?_) (fun h36 => ?_)
      · refine R_iconst 80 rfl dX11_choose_79 ?_
        refine R_ireturn dX11_choose_80 rfl ?_
        have c1 : ¬ choK L c p f t s r = true := fun q => by have := choK_iff.mp q; omega
        exact QI_mk ⟨by rw [if_neg c1], Fm.rf, by rw [if_neg c1]; exact hR⟩
      · refine R_iload 41 rfl dX11_choose_39 rfl ?_
        refine R_i2l 42 rfl dX11_choose_41 (by first | assumption | exact ⟨by omega, by omega⟩) ?_
        refine R_iload_n 43 rfl dX11_choose_42 rfl ?_
        refine R_i2l 44 rfl dX11_choose_43 (by first | assumption | exact ⟨by omega, by omega⟩) ?_
        refine R_ldc2 (89) 47 rfl dX11_choose_44 kl_X11_171 (by decide) ?_
        refine R_callS_i (M' := mX11_in) 50 rfl dX11_choose_47 ml_X11_63 kmX11_in st_X11_in (c_X11_in _ _ _ (by first | assumption | exact ⟨by omega, by omega⟩ | exact rg_L (by assumption)) (by first | assumption | exact ⟨by omega, by omega⟩ | exact rg_L (by assumption)) (by first | assumption | exact ⟨by omega, by omega⟩ | exact rg_L (by assumption))) rfl rfl ⟨Nat.le_of_ble_eq_true rfl, Nat.le_of_ble_eq_true rfl⟩ (Nat.le_of_ble_eq_true rfl) ⟨Nat.le_of_ble_eq_true rfl, Nat.le_of_ble_eq_true rfl⟩ ?_
        refine R_ifp_eq 53 79 rfl rfl dX11_choose_50 (fun h50 => ?_) (fun h50 => ?_)
        · refine R_iconst 80 rfl dX11_choose_79 ?_
          refine R_ireturn dX11_choose_80 rfl ?_
          have c1 : ¬ choK L c p f t s r = true := fun q => by have := choK_iff.mp q; omega
          exact QI_mk ⟨by rw [if_neg c1], Fm.rf, by rw [if_neg c1]; exact hR⟩
        · refine R_iload 55 rfl dX11_choose_53 rfl ?_
          refine R_i2l 56 rfl dX11_choose_55 (by first | assumption | exact ⟨by omega, by omega⟩) ?_
          refine R_lconst 57 rfl dX11_choose_56 ?_
          refine R_topL (b := 0) rfl ?_
          refine R_ldc2 (3) 60 rfl dX11_choose_57 kl_X11_225 (by decide) ?_
          refine R_callS_i (M' := mX11_in) 63 rfl dX11_choose_60 ml_X11_63 kmX11_in st_X11_in (c_X11_in _ _ _ (by first | assumption | exact ⟨by omega, by omega⟩ | exact rg_L (by assumption)) (by first | assumption | exact ⟨by omega, by omega⟩ | exact rg_L (by assumption)) (by first | assumption | exact ⟨by omega, by omega⟩ | exact rg_L (by assumption))) rfl rfl ⟨Nat.le_of_ble_eq_true rfl, Nat.le_of_ble_eq_true rfl⟩ (Nat.le_of_ble_eq_true rfl) ⟨Nat.le_of_ble_eq_true rfl, Nat.le_of_ble_eq_true rfl⟩ ?_
          refine R_ifp_eq 66 79 rfl rfl dX11_choose_63 (fun h63 => ?_) (fun h63 => ?_)
          · refine R_iconst 80 rfl dX11_choose_79 ?_
            refine R_ireturn dX11_choose_80 rfl ?_
            have c1 : ¬ choK L c p f t s r = true := fun q => by have := choK_iff.mp q; omega
            exact QI_mk ⟨by rw [if_neg c1], Fm.rf, by rw [if_neg c1]; exact hR⟩
          · refine R_iload 68 rfl dX11_choose_66 rfl ?_
            refine R_i2l 69 rfl dX11_choose_68 (by first | assumption | exact ⟨by omega, by omega⟩) ?_
            refine R_lconst 70 rfl dX11_choose_69 ?_
            refine R_topL (b := 0) rfl ?_
            refine R_ldc2 (255) 73 rfl dX11_choose_70 kl_X11_187 (by decide) ?_
            refine R_callS_i (M' := mX11_in) 76 rfl dX11_choose_73 ml_X11_63 kmX11_in st_X11_in (c_X11_in _ _ _ (by first | assumption | exact ⟨by omega, by omega⟩ | exact rg_L (by assumption)) (by first | assumption | exact ⟨by omega, by omega⟩ | exact rg_L (by assumption)) (by first | assumption | exact ⟨by omega, by omega⟩ | exact rg_L (by assumption))) rfl rfl ⟨Nat.le_of_ble_eq_true rfl, Nat.le_of_ble_eq_true rfl⟩ (Nat.le_of_ble_eq_true rfl) ⟨Nat.le_of_ble_eq_true rfl, Nat.le_of_ble_eq_true rfl⟩ ?_
            refine R_ifp_ne 79 81 rfl rfl dX11_choose_76 (fun h76 => ?_) (fun h76 => ?_)
            · refine R_aload_n 82 rfl dX11_choose_81 rfl ?_
              refine R_callV_V (M' := mX11_awake) 85 rfl dX11_choose_82 ml_X11_219 kmX11_awake im_X11_awake se_X11_awake rfl ⟨by decide, rfl⟩ (c_X11_awake hR) rfl rfl ⟨Nat.le_of_ble_eq_true rfl, Nat.le_of_ble_eq_true rfl⟩ (Nat.le_of_ble_eq_true rfl) ⟨Nat.le_of_ble_eq_true rfl, Nat.le_of_ble_eq_true rfl⟩ ?_
              rintro m82 h82
              obtain ⟨f82, w82, -⟩ := h82
              refine R_aload_n 86 rfl dX11_choose_85 rfl ?_
              refine R_iload_n 87 rfl dX11_choose_86 rfl ?_
              refine R_iload_n 88 rfl dX11_choose_87 rfl ?_
              refine R_iload_n 89 rfl dX11_choose_88 rfl ?_
              refine R_iload 91 rfl dX11_choose_89 rfl ?_
              refine R_iload 93 rfl dX11_choose_91 rfl ?_
              refine R_iload 95 rfl dX11_choose_93 rfl ?_
              refine R_callV_v (M' := mX11_setChoice) 98 rfl dX11_choose_95 ml_X11_138 kmX11_setChoice im_X11_setChoice se_X11_setChoice rfl ⟨by decide, rfl⟩ (c_X11_setChoice _ _ _ _ _ _ c.toNat w82.1.1 (by omega) (by omega)) rfl rfl ⟨Nat.le_of_ble_eq_true rfl, Nat.le_of_ble_eq_true rfl⟩ (Nat.le_of_ble_eq_true rfl) ⟨Nat.le_of_ble_eq_true rfl, Nat.le_of_ble_eq_true rfl⟩ ?_
              have r95 := w82.choose (c := c.toNat) (by omega) (chSet_ok (c := c.toNat) (p := p) (f := f) (t := t) (s := s) (r := r) hR.2.2.2.2.2.2 (by omega) (by omega) (by omega) (by omega) (by omega))
              refine R_aload_n 99 rfl dX11_choose_98 rfl ?_
              refine R_callV_V (M' := mX11_layKinds) 102 rfl dX11_choose_99 ml_X11_227 kmX11_layKinds im_X11_layKinds se_X11_layKinds rfl ⟨by decide, rfl⟩ (c_X11_layKinds r95) rfl rfl ⟨Nat.le_of_ble_eq_true rfl, Nat.le_of_ble_eq_true rfl⟩ (Nat.le_of_ble_eq_true rfl) ⟨Nat.le_of_ble_eq_true rfl, Nat.le_of_ble_eq_true rfl⟩ ?_
              rintro m99 h99
              obtain ⟨f99, z99⟩ := h99
              refine R_aload_n 103 rfl dX11_choose_102 rfl ?_
              refine R_iload_n 104 rfl dX11_choose_103 rfl ?_
              refine R_bipush 106 rfl dX11_choose_104 (by decide) ?_
              refine R_iconst 107 rfl dX11_choose_106 ?_
              refine R_callV_V (M' := mX11_tally) 110 rfl dX11_choose_107 ml_X11_230 kmX11_tally im_X11_tally se_X11_tally rfl ⟨by decide, rfl⟩ (c_X11_tally _ _ _ c.toNat z99 (by omega) (by omega) (Or.inl rfl) ⟨by omega, by omega⟩) rfl rfl ⟨Nat.le_of_ble_eq_true rfl, Nat.le_of_ble_eq_true rfl⟩ (Nat.le_of_ble_eq_true rfl) ⟨Nat.le_of_ble_eq_true rfl, Nat.le_of_ble_eq_true rfl⟩ ?_
              rintro m107 h107
              obtain ⟨f107, z107, a107, -⟩ := h107
              refine R_aload_n 111 rfl dX11_choose_110 rfl ?_
              refine R_getI 22 114 rfl dX11_choose_111 rfl rfl fl_X11_234 ?_
              refine R_ireturn dX11_choose_114 rfl ?_
              have c1 : choK L c p f t s r = true := choK_iff.mpr (by omega)
              rw [if_pos c1, if_pos c1]
              exact QI_mk ⟨by rw [a107, ty_all L], ((f82.sc (by omega)).tr f99).tr f107, z107.1⟩
            · refine R_iconst 80 rfl dX11_choose_79 ?_
              refine R_ireturn dX11_choose_80 rfl ?_
              have c1 : ¬ choK L c p f t s r = true := fun q => by have := choK_iff.mp q; omega
              exact QI_mk ⟨by rw [if_neg c1], Fm.rf, by rw [if_neg c1]; exact hR⟩
theorem c_X11_many (c w : Int) (hR : RS L B ch m) (hc : rg c) (hw : rg w) : C Γ mX11_many 7 280 0 0 [vr 96, vi c, vi w] SH m (QM L B ch m (a_many L B ch c w)) := by
  refine C_of_R rfl (Nat.le_of_ble_eq_true rfl) ?_
  have h3 := hR.2.2.2.2.1.1
  have hl := hR.2.2.1.1
  have Lp : (0 ≤ c ∧ c ≤ 1) ∧ ((0 ≤ w ∧ w ≤ 2) ∨ (11 ≤ w ∧ w ≤ 15)) → ∀ m1, Fm m m1 → RZ L B ch m1 → m1.1 96 22 = (hmy L B ch c.toNat 0 : Int) → m1.1 96 23 = (hmy L B ch c.toNat 1 : Int) → ∀ k, k ≤ 2 * B.1 → ∀ a z x, (2 ≤ w → a = (cnt (inS L B ch c.toNat w) k : Int)) → z = (k : Int) → R Γ mX11_many { frames := 7, cells := 0, slots := 0, locals := 280 } 0 0 (QM L B ch m (a_many L B ch c w)) 0 0 52 [some (vr 96), some (vi c), some (vi w), some (vi a), some (vi z), x] [] SH m1 := by
    intro ho m1 hf hZ h22 h23
    have hP := hZ.1.1
    have hW := hZ.w
    refine up_ind (2 * B.1) (fun k hk ih a z x ha hz => ?_)
    refine R_iload 54 rfl dX11_many_52 rfl ?_
    refine R_iconst 55 rfl dX11_many_54 ?_
    refine R_aload_n 56 rfl dX11_many_55 rfl ?_
    refine R_callV_i (M' := mX11_size) 59 rfl dX11_many_56 ml_X11_150 kmX11_size im_X11_size se_X11_size rfl ⟨by decide, rfl⟩ (c_X11_size hZ.1) rfl rfl ⟨Nat.le_of_ble_eq_true rfl, Nat.le_of_ble_eq_true rfl⟩ (Nat.le_of_ble_eq_true rfl) ⟨Nat.le_of_ble_eq_true rfl, Nat.le_of_ble_eq_true rfl⟩ ?_
    refine R_imul 60 rfl dX11_many_59 ?_
    refine R_icmp_ge 63 142 rfl rfl dX11_many_60 (by first | assumption | exact ⟨by omega, by omega⟩) (by first | assumption | exact ⟨by omega, by omega⟩) (fun h60 => ?_) (fun h60 => ?_)
    · refine R_iload_n 143 rfl dX11_many_142 rfl ?_
      refine R_if_ne 146 153 rfl rfl dX11_many_143 (by first | assumption | exact ⟨by omega, by omega⟩) (fun h143 => ?_) (fun h143 => ?_)
      · refine R_iload_n 154 rfl dX11_many_153 rfl ?_
        refine R_iconst 155 rfl dX11_many_154 ?_
        refine R_icmp_ne 158 165 rfl rfl dX11_many_155 (by first | assumption | exact ⟨by omega, by omega⟩) (by first | assumption | exact ⟨by omega, by omega⟩) (fun h155 => ?_) (fun h155 => ?_)
        · refine R_iload_n 166 rfl dX11_many_165 rfl ?_
          refine R_ireturn dX11_many_166 rfl ?_
          refine QI_mk ⟨?_, hf, hZ.1⟩
          unfold a_many
          rw [if_pos ho]
          first
            | (rw [h22, show w = 0 by omega])
            | (rw [h23, show w = 1 by omega])
            | (rw [ha (by omega), show k = 2 * B.1 by omega]; rfl)
        · refine R_aload_n 159 rfl dX11_many_158 rfl ?_
          refine R_getI 23 162 rfl dX11_many_159 rfl rfl fl_X11_237 ?_
          refine R_goto 166 rfl dX11_many_162 ?_
          refine R_ireturn dX11_many_166 rfl ?_
          refine QI_mk ⟨?_, hf, hZ.1⟩
          unfold a_many
          rw [if_pos ho]
          first
            | (rw [h22, show w = 0 by omega])
            | (rw [h23, show w = 1 by omega])
            | (rw [ha (by omega), show k = 2 * B.1 by omega]; rfl)
      · refine R_aload_n 147 rfl dX11_many_146 rfl ?_
        refine R_getI 22 150 rfl dX11_many_147 rfl rfl fl_X11_234 ?_
        refine R_goto 166 rfl dX11_many_150 ?_
        refine R_ireturn dX11_many_166 rfl ?_
        refine QI_mk ⟨?_, hf, hZ.1⟩
        unfold a_many
        rw [if_pos ho]
        first
          | (rw [h22, show w = 0 by omega])
          | (rw [h23, show w = 1 by omega])
          | (rw [ha (by omega), show k = 2 * B.1 by omega]; rfl)
    · have g5 := hR.2.2.2.2.1.2.2 k (by omega)
      have g6 := kd_rg L B k
      have g7 := hZ.2.2 k (by omega)
      have e1 := inS_iff (L := L) (B := B) (ch := ch) (c := c.toNat) (w := w) (k := k)
      have e2 := fun (q : 2 < w) => srt_3 (L := L) (B := B) (k := k) q
      refine R_iload_n 64 rfl dX11_many_63 rfl ?_
      refine R_iconst 65 rfl dX11_many_64 ?_
      refine R_icmp_ne 68 92 rfl rfl dX11_many_65 (by first | assumption | exact ⟨by omega, by omega⟩) (by first | assumption | exact ⟨by omega, by omega⟩) (fun h65 => ?_) (fun h65 => ?_)
      · refine R_aload_n 93 rfl dX11_many_92 rfl ?_
        refine R_getP 21 96 rfl dX11_many_93 rfl rfl fl_X11_43 (hP _ _ _ rfl) ?_
        refine R_iload 98 rfl dX11_many_96 rfl ?_
        refine R_iald k 99 rfl dX11_many_98 rfl (by first | rfl | omega) (by omega) (by decide) ?_
        rw [g7]
        refine R_iload_n 100 rfl dX11_many_99 rfl ?_
        refine R_bipush 102 rfl dX11_many_100 (by decide) ?_
        refine R_isub 103 rfl dX11_many_102 ?_
        refine R_icmp_ne 106 110 rfl rfl dX11_many_103 (by first | assumption | exact ⟨by omega, by omega⟩) (by first | assumption | exact ⟨by omega, by omega⟩) (fun h103 => ?_) (fun h103 => ?_)
        · refine R_iconst 111 rfl dX11_many_110 ?_
          refine R_istore [_, _, _, _, _, _] 113 rfl dX11_many_111 rfl (by decide) ?_
          refine R_iload_n 114 rfl dX11_many_113 rfl ?_
          refine R_aload_n 115 rfl dX11_many_114 rfl ?_
          refine R_iload_n 116 rfl dX11_many_115 rfl ?_
          refine R_iload 118 rfl dX11_many_116 rfl ?_
          refine R_callV_i (M' := mX11_isIn) 121 rfl dX11_many_118 ml_X11_240 kmX11_isIn im_X11_isIn se_X11_isIn rfl ⟨by decide, rfl⟩ (c_X11_isIn _ _ c.toNat k hW (by omega) (by omega) (by omega) (by omega)) rfl rfl ⟨Nat.le_of_ble_eq_true rfl, Nat.le_of_ble_eq_true rfl⟩ (Nat.le_of_ble_eq_true rfl) ⟨Nat.le_of_ble_eq_true rfl, Nat.le_of_ble_eq_true rfl⟩ ?_
          refine R_ifp_eq 124 133 rfl rfl dX11_many_121 (fun h121 => ?_) (fun h121 => ?_)
          · refine R_iconst 134 rfl dX11_many_133 ?_
            refine R_iadd 135 rfl dX11_many_134 ?_
            refine R_istore_n [_, _, _, _, _, _] 136 rfl dX11_many_135 rfl (by decide) ?_
            refine R_iinc [_, _, _, _, _, _] 139 rfl dX11_many_136 rfl rfl (by decide) ?_
            refine R_goto 52 rfl dX11_many_139 ?_
            first
              | exact ih (by omega) _ _ _ (fun q => by rw [cnt_y (e1.mpr ⟨h121, (e2 (by omega)).mpr (by omega)⟩)]; have := ha q; omega) (by omega)
              | (have hw2 : w = 2 := by omega
                 subst hw2
                 exact ih (by omega) _ _ _ (fun q => by rw [cnt_y (e1.mpr ⟨h121, srt_2.mpr (by omega)⟩)]; have := ha q; omega) (by omega))
              | (refine ih (by omega) _ _ _ (fun q => ?_) (by omega)
                 rw [cnt_n (fun w1 => ?_)]
                 · have := ha q; omega
                 · have w2 := e1.mp w1
                   first
                     | exact h121 w2.1
                     | (have w3 := (e2 (by omega)).mp w2.2; omega)
                     | (have hw2 : w = 2 := by omega
                        subst hw2
                        have w3 := srt_2.mp w2.2
                        omega))
          · refine R_iload 126 rfl dX11_many_124 rfl ?_
            refine R_if_eq 129 133 rfl rfl dX11_many_126 (by first | assumption | exact ⟨by omega, by omega⟩) (fun h126 => ?_) (fun h126 => ?_)
            rotate_left
            · exact absurd h126 (by omega)
            refine R_iconst 134 rfl dX11_many_133 ?_
            refine R_iadd 135 rfl dX11_many_134 ?_
            refine R_istore_n [_, _, _, _, _, _] 136 rfl dX11_many_135 rfl (by decide) ?_
            refine R_iinc [_, _, _, _, _, _] 139 rfl dX11_many_136 rfl rfl (by decide) ?_
            refine R_goto 52 rfl dX11_many_139 ?_
            first
              | exact ih (by omega) _ _ _ (fun q => by rw [cnt_y (e1.mpr ⟨h121, (e2 (by omega)).mpr (by omega)⟩)]; have := ha q; omega) (by omega)
              | (have hw2 : w = 2 := by omega
                 subst hw2
                 exact ih (by omega) _ _ _ (fun q => by rw [cnt_y (e1.mpr ⟨h121, srt_2.mpr (by omega)⟩)]; have := ha q; omega) (by omega))
              | (refine ih (by omega) _ _ _ (fun q => ?_) (by omega)
                 rw [cnt_n (fun w1 => ?_)]
                 · have := ha q; omega
                 · have w2 := e1.mp w1
                   first
                     | exact h121 w2.1
                     | (have w3 := (e2 (by omega)).mp w2.2; omega)
                     | (have hw2 : w = 2 := by omega
                        subst hw2
                        have w3 := srt_2.mp w2.2
                        omega))
        · refine R_iconst 107 rfl dX11_many_106 ?_
          refine R_goto 111 rfl dX11_many_107 ?_
          refine R_istore [_, _, _, _, _, _] 113 rfl dX11_many_111 rfl (by decide) ?_
          refine R_iload_n 114 rfl dX11_many_113 rfl ?_
          refine R_aload_n 115 rfl dX11_many_114 rfl ?_
          refine R_iload_n 116 rfl dX11_many_115 rfl ?_
          refine R_iload 118 rfl dX11_many_116 rfl ?_
          refine R_callV_i (M' := mX11_isIn) 121 rfl dX11_many_118 ml_X11_240 kmX11_isIn im_X11_isIn se_X11_isIn rfl ⟨by decide, rfl⟩ (c_X11_isIn _ _ c.toNat k hW (by omega) (by omega) (by omega) (by omega)) rfl rfl ⟨Nat.le_of_ble_eq_true rfl, Nat.le_of_ble_eq_true rfl⟩ (Nat.le_of_ble_eq_true rfl) ⟨Nat.le_of_ble_eq_true rfl, Nat.le_of_ble_eq_true rfl⟩ ?_
          refine R_ifp_eq 124 133 rfl rfl dX11_many_121 (fun h121 => ?_) (fun h121 => ?_)
          · refine R_iconst 134 rfl dX11_many_133 ?_
            refine R_iadd 135 rfl dX11_many_134 ?_
            refine R_istore_n [_, _, _, _, _, _] 136 rfl dX11_many_135 rfl (by decide) ?_
            refine R_iinc [_, _, _, _, _, _] 139 rfl dX11_many_136 rfl rfl (by decide) ?_
            refine R_goto 52 rfl dX11_many_139 ?_
            first
              | exact ih (by omega) _ _ _ (fun q => by rw [cnt_y (e1.mpr ⟨h121, (e2 (by omega)).mpr (by omega)⟩)]; have := ha q; omega) (by omega)
              | (have hw2 : w = 2 := by omega
                 subst hw2
                 exact ih (by omega) _ _ _ (fun q => by rw [cnt_y (e1.mpr ⟨h121, srt_2.mpr (by omega)⟩)]; have := ha q; omega) (by omega))
              | (refine ih (by omega) _ _ _ (fun q => ?_) (by omega)
                 rw [cnt_n (fun w1 => ?_)]
                 · have := ha q; omega
                 · have w2 := e1.mp w1
                   first
                     | exact h121 w2.1
                     | (have w3 := (e2 (by omega)).mp w2.2; omega)
                     | (have hw2 : w = 2 := by omega
                        subst hw2
                        have w3 := srt_2.mp w2.2
                        omega))
          · refine R_iload 126 rfl dX11_many_124 rfl ?_
            refine R_if_eq 129 133 rfl rfl dX11_many_126 (by first | assumption | exact ⟨by omega, by omega⟩) (fun h126 => ?_) (fun h126 => ?_)
            · exact absurd h126 (by omega)
            refine R_iconst 130 rfl dX11_many_129 ?_
            refine R_goto 134 rfl dX11_many_130 ?_
            refine R_iadd 135 rfl dX11_many_134 ?_
            refine R_istore_n [_, _, _, _, _, _] 136 rfl dX11_many_135 rfl (by decide) ?_
            refine R_iinc [_, _, _, _, _, _] 139 rfl dX11_many_136 rfl rfl (by decide) ?_
            refine R_goto 52 rfl dX11_many_139 ?_
            first
              | exact ih (by omega) _ _ _ (fun q => by rw [cnt_y (e1.mpr ⟨h121, (e2 (by omega)).mpr (by omega)⟩)]; have := ha q; omega) (by omega)
              | (have hw2 : w = 2 := by omega
                 subst hw2
                 exact ih (by omega) _ _ _ (fun q => by rw [cnt_y (e1.mpr ⟨h121, srt_2.mpr (by omega)⟩)]; have := ha q; omega) (by omega))
              | (refine ih (by omega) _ _ _ (fun q => ?_) (by omega)
                 rw [cnt_n (fun w1 => ?_)]
                 · have := ha q; omega
                 · have w2 := e1.mp w1
                   first
                     | exact h121 w2.1
                     | (have w3 := (e2 (by omega)).mp w2.2; omega)
                     | (have hw2 : w = 2 := by omega
                        subst hw2
                        have w3 := srt_2.mp w2.2
                        omega))
      · refine R_aload_n 69 rfl dX11_many_68 rfl ?_
        refine R_iload 71 rfl dX11_many_69 rfl ?_
        refine R_iconst 72 rfl dX11_many_71 ?_
        refine R_idiv_p 73 rfl dX11_many_72 (by first | assumption | exact ⟨by omega, by omega⟩) (by first | assumption | exact ⟨by omega, by omega⟩) (by omega) (by omega) ?_
        refine R_iload 75 rfl dX11_many_73 rfl ?_
        refine R_iconst 76 rfl dX11_many_75 ?_
        refine R_irem_p 77 rfl dX11_many_76 (by first | assumption | exact ⟨by omega, by omega⟩) (by first | assumption | exact ⟨by omega, by omega⟩) (by omega) (by omega) ?_
        refine R_iconst 78 rfl dX11_many_77 ?_
        refine R_callV_i (M' := mX11_of5) 81 rfl dX11_many_78 ml_X11_198 kmX11_of5 im_X11_of5 se_X11_of5 rfl ⟨by decide, rfl⟩ (c_X11_of5 _ _ _ k 0 hZ.1 (by omega) (by omega) (by omega) (by omega) (by omega)) rfl rfl ⟨Nat.le_of_ble_eq_true rfl, Nat.le_of_ble_eq_true rfl⟩ (Nat.le_of_ble_eq_true rfl) ⟨Nat.le_of_ble_eq_true rfl, Nat.le_of_ble_eq_true rfl⟩ ?_
        refine R_if_ne 84 88 rfl rfl dX11_many_81 (by first | assumption | exact ⟨by omega, by omega⟩) (fun h81 => ?_) (fun h81 => ?_)
        · refine R_iconst 89 rfl dX11_many_88 ?_
          refine R_goto 111 rfl dX11_many_89 ?_
          refine R_istore [_, _, _, _, _, _] 113 rfl dX11_many_111 rfl (by decide) ?_
          refine R_iload_n 114 rfl dX11_many_113 rfl ?_
          refine R_aload_n 115 rfl dX11_many_114 rfl ?_
          refine R_iload_n 116 rfl dX11_many_115 rfl ?_
          refine R_iload 118 rfl dX11_many_116 rfl ?_
          refine R_callV_i (M' := mX11_isIn) 121 rfl dX11_many_118 ml_X11_240 kmX11_isIn im_X11_isIn se_X11_isIn rfl ⟨by decide, rfl⟩ (c_X11_isIn _ _ c.toNat k hW (by omega) (by omega) (by omega) (by omega)) rfl rfl ⟨Nat.le_of_ble_eq_true rfl, Nat.le_of_ble_eq_true rfl⟩ (Nat.le_of_ble_eq_true rfl) ⟨Nat.le_of_ble_eq_true rfl, Nat.le_of_ble_eq_true rfl⟩ ?_
          refine R_ifp_eq 124 133 rfl rfl dX11_many_121 (fun h121 => ?_) (fun h121 => ?_)
          · refine R_iconst 134 rfl dX11_many_133 ?_
            refine R_iadd 135 rfl dX11_many_134 ?_
            refine R_istore_n [_, _, _, _, _, _] 136 rfl dX11_many_135 rfl (by decide) ?_
            refine R_iinc [_, _, _, _, _, _] 139 rfl dX11_many_136 rfl rfl (by decide) ?_
            refine R_goto 52 rfl dX11_many_139 ?_
            first
              | exact ih (by omega) _ _ _ (fun q => by rw [cnt_y (e1.mpr ⟨h121, (e2 (by omega)).mpr (by omega)⟩)]; have := ha q; omega) (by omega)
              | (have hw2 : w = 2 := by omega
                 subst hw2
                 exact ih (by omega) _ _ _ (fun q => by rw [cnt_y (e1.mpr ⟨h121, srt_2.mpr (by omega)⟩)]; have := ha q; omega) (by omega))
              | (refine ih (by omega) _ _ _ (fun q => ?_) (by omega)
                 rw [cnt_n (fun w1 => ?_)]
                 · have := ha q; omega
                 · have w2 := e1.mp w1
                   first
                     | exact h121 w2.1
                     | (have w3 := (e2 (by omega)).mp w2.2; omega)
                     | (have hw2 : w = 2 := by omega
                        subst hw2
                        have w3 := srt_2.mp w2.2
                        omega))
          · refine R_iload 126 rfl dX11_many_124 rfl ?_
            refine R_if_eq 129 133 rfl rfl dX11_many_126 (by first | assumption | exact ⟨by omega, by omega⟩) (fun h126 => ?_) (fun h126 => ?_)
            rotate_left
            · exact absurd h126 (by omega)
            refine R_iconst 134 rfl dX11_many_133 ?_
            refine R_iadd 135 rfl dX11_many_134 ?_
            refine R_istore_n [_, _, _, _, _, _] 136 rfl dX11_many_135 rfl (by decide) ?_
            refine R_iinc [_, _, _, _, _, _] 139 rfl dX11_many_136 rfl rfl (by decide) ?_
            refine R_goto 52 rfl dX11_many_139 ?_
            first
              | exact ih (by omega) _ _ _ (fun q => by rw [cnt_y (e1.mpr ⟨h121, (e2 (by omega)).mpr (by omega)⟩)]; have := ha q; omega) (by omega)
              | (have hw2 : w = 2 := by omega
                 subst hw2
                 exact ih (by omega) _ _ _ (fun q => by rw [cnt_y (e1.mpr ⟨h121, srt_2.mpr (by omega)⟩)]; have := ha q; omega) (by omega))
              | (refine ih (by omega) _ _ _ (fun q => ?_) (by omega)
                 rw [cnt_n (fun w1 => ?_)]
                 · have := ha q; omega
                 · have w2 := e1.mp w1
                   first
                     | exact h121 w2.1
                     | (have w3 := (e2 (by omega)).mp w2.2; omega)
                     | (have hw2 : w = 2 := by omega
                        subst hw2
                        have w3 := srt_2.mp w2.2
                        omega))
        · refine R_iconst 85 rfl dX11_many_84 ?_
          refine R_goto 111 rfl dX11_many_85 ?_
          refine R_istore [_, _, _, _, _, _] 113 rfl dX11_many_111 rfl (by decide) ?_
          refine R_iload_n 114 rfl dX11_many_113 rfl ?_
          refine R_aload_n 115 rfl dX11_many_114 rfl ?_
          refine R_iload_n 116 rfl dX11_many_115 rfl ?_
          refine R_iload 118 rfl dX11_many_116 rfl ?_
          refine R_callV_i (M' := mX11_isIn) 121 rfl dX11_many_118 ml_X11_240 kmX11_isIn im_X11_isIn se_X11_isIn rfl ⟨by decide, rfl⟩ (c_X11_isIn _ _ c.toNat k hW (by omega) (by omega) (by omega) (by omega)) rfl rfl ⟨Nat.le_of_ble_eq_true rfl, Nat.le_of_ble_eq_true rfl⟩ (Nat.le_of_ble_eq_true rfl) ⟨Nat.le_of_ble_eq_true rfl, Nat.le_of_ble_eq_true rfl⟩ ?_
          refine R_ifp_eq 124 133 rfl rfl dX11_many_121 (fun h121 => ?_) (fun h121 => ?_)
          · refine R_iconst 134 rfl dX11_many_133 ?_
            refine R_iadd 135 rfl dX11_many_134 ?_
            refine R_istore_n [_, _, _, _, _, _] 136 rfl dX11_many_135 rfl (by decide) ?_
            refine R_iinc [_, _, _, _, _, _] 139 rfl dX11_many_136 rfl rfl (by decide) ?_
            refine R_goto 52 rfl dX11_many_139 ?_
            first
              | exact ih (by omega) _ _ _ (fun q => by rw [cnt_y (e1.mpr ⟨h121, (e2 (by omega)).mpr (by omega)⟩)]; have := ha q; omega) (by omega)
              | (have hw2 : w = 2 := by omega
                 subst hw2
                 exact ih (by omega) _ _ _ (fun q => by rw [cnt_y (e1.mpr ⟨h121, srt_2.mpr (by omega)⟩)]; have := ha q; omega) (by omega))
              | (refine ih (by omega) _ _ _ (fun q => ?_) (by omega)
                 rw [cnt_n (fun w1 => ?_)]
                 · have := ha q; omega
                 · have w2 := e1.mp w1
                   first
                     | exact h121 w2.1
                     | (have w3 := (e2 (by omega)).mp w2.2; omega)
                     | (have hw2 : w = 2 := by omega
                        subst hw2
                        have w3 := srt_2.mp w2.2
                        omega))
          · refine R_iload 126 rfl dX11_many_124 rfl ?_
            refine R_if_eq 129 133 rfl rfl dX11_many_126 (by first | assumption | exact ⟨by omega, by omega⟩) (fun h126 => ?_) (fun h126 => ?_)
            · exact absurd h126 (by omega)
            refine R_iconst 130 rfl dX11_many_129 ?_
            refine R_goto 134 rfl dX11_many_130 ?_
            refine R_iadd 135 rfl dX11_many_134 ?_
            refine R_istore_n [_, _, _, _, _, _] 136 rfl dX11_many_135 rfl (by decide) ?_
            refine R_iinc [_, _, _, _, _, _] 139 rfl dX11_many_136 rfl rfl (by decide) ?_
            refine R_goto 52 rfl dX11_many_139 ?_
            first
              | exact ih (by omega) _ _ _ (fun q => by rw [cnt_y (e1.mpr ⟨h121, (e2 (by omega)).mpr (by omega)⟩)]; have := ha q; omega) (by omega)
              | (have hw2 : w = 2 := by omega
                 subst hw2
                 exact ih (by omega) _ _ _ (fun q => by rw [cnt_y (e1.mpr ⟨h121, srt_2.mpr (by omega)⟩)]; have := ha q; omega) (by omega))
              | (refine ih (by omega) _ _ _ (fun q => ?_) (by omega)
                 rw [cnt_n (fun w1 => ?_)]
                 · have := ha q; omega
                 · have w2 := e1.mp w1
                   first
                     | exact h121 w2.1
                     | (have w3 := (e2 (by omega)).mp w2.2; omega)
                     | (have hw2 : w = 2 := by omega
                        subst hw2
                        have w3 := srt_2.mp w2.2
                        omega))
  refine R_iload_n 1 rfl dX11_many_0 rfl ?_
  refine R_callS_i (M' := mX11_isChoice) 4 rfl dX11_many_1 ml_X11_222 kmX11_isChoice st_X11_isChoice (c_X11_isChoice _ (by first | assumption | exact ⟨by omega, by omega⟩)) rfl rfl ⟨Nat.le_of_ble_eq_true rfl, Nat.le_of_ble_eq_true rfl⟩ (Nat.le_of_ble_eq_true rfl) ⟨Nat.le_of_ble_eq_true rfl, Nat.le_of_ble_eq_true rfl⟩ ?_
  refine R_ifp_eq 7 33 rfl rfl dX11_many_4 (fun h4 => ?_) (fun h4 => ?_)
  · refine R_iconst 34 rfl dX11_many_33 ?_
    refine R_ireturn dX11_many_34 rfl ?_
    exact QI_mk ⟨by unfold a_many; rw [if_neg (by omega)], Fm.rf, hR⟩
  · refine R_iload_n 8 rfl dX11_many_7 rfl ?_
    refine R_i2l 9 rfl dX11_many_8 (by first | assumption | exact ⟨by omega, by omega⟩) ?_
    refine R_lconst 10 rfl dX11_many_9 ?_
    refine R_topL (b := 0) rfl ?_
    refine R_ldc2 (2) 13 rfl dX11_many_10 kl_X11_202 (by decide) ?_
    refine R_callS_i (M' := mX11_in) 16 rfl dX11_many_13 ml_X11_63 kmX11_in st_X11_in (c_X11_in _ _ _ (by first | assumption | exact ⟨by omega, by omega⟩ | exact rg_L (by assumption)) (by first | assumption | exact ⟨by omega, by omega⟩ | exact rg_L (by assumption)) (by first | assumption | exact ⟨by omega, by omega⟩ | exact rg_L (by assumption))) rfl rfl ⟨Nat.le_of_ble_eq_true rfl, Nat.le_of_ble_eq_true rfl⟩ (Nat.le_of_ble_eq_true rfl) ⟨Nat.le_of_ble_eq_true rfl, Nat.le_of_ble_eq_true rfl⟩ ?_
    refine R_ifp_ne 19 35 rfl rfl dX11_many_16 (fun h16 => ?_) (fun h16 => ?_)
    · refine R_aload_n 36 rfl dX11_many_35 rfl ?_
      refine R_callV_V (M' := mX11_layKinds) 39 rfl dX11_many_36 ml_X11_227 kmX11_layKinds im_X11_layKinds se_X11_layKinds rfl ⟨by decide, rfl⟩ (c_X11_layKinds hR) rfl rfl ⟨Nat.le_of_ble_eq_true rfl, Nat.le_of_ble_eq_true rfl⟩ (Nat.le_of_ble_eq_true rfl) ⟨Nat.le_of_ble_eq_true rfl, Nat.le_of_ble_eq_true rfl⟩ ?_
      rintro m36 h36
      obtain ⟨f36, z36⟩ := h36
      refine R_aload_n 40 rfl dX11_many_39 rfl ?_
      refine R_iload_n 41 rfl dX11_many_40 rfl ?_
      refine R_bipush 43 rfl dX11_many_41 (by decide) ?_
      refine R_iconst 44 rfl dX11_many_43 ?_
      refine R_callV_V (M' := mX11_tally) 47 rfl dX11_many_44 ml_X11_230 kmX11_tally im_X11_tally se_X11_tally rfl ⟨by decide, rfl⟩ (c_X11_tally _ _ _ c.toNat z36 (by omega) (by omega) (Or.inl rfl) ⟨by omega, by omega⟩) rfl rfl ⟨Nat.le_of_ble_eq_true rfl, Nat.le_of_ble_eq_true rfl⟩ (Nat.le_of_ble_eq_true rfl) ⟨Nat.le_of_ble_eq_true rfl, Nat.le_of_ble_eq_true rfl⟩ ?_
      rintro m44 h44
      obtain ⟨f44, z44, a44, b44⟩ := h44
      refine R_iconst 48 rfl dX11_many_47 ?_
      refine R_istore_n [_, _, _, _, _, _] 49 rfl dX11_many_48 rfl (by decide) ?_
      refine R_iconst 50 rfl dX11_many_49 ?_
      refine R_istore [_, _, _, _, _, _] 52 rfl dX11_many_50 rfl (by decide) ?_
      exact Lp (by omega) _ (f36.tr f44) z44 (by rw [a44, ty_all L]) (by rw [b44, ty_abl]) 0 (by omega) _ _ _ (fun _ => rfl) rfl
    · refine R_iload_n 20 rfl dX11_many_19 rfl ?_
      refine R_i2l 21 rfl dX11_many_20 (by first | assumption | exact ⟨by omega, by omega⟩) ?_
      refine R_ldc2 (11) 24 rfl dX11_many_21 kl_X11_249 (by decide) ?_
      refine R_ldc2 (15) 27 rfl dX11_many_24 kl_X11_251 (by decide) ?_
      refine R_callS_i (M' := mX11_in) 30 rfl dX11_many_27 ml_X11_63 kmX11_in st_X11_in (c_X11_in _ _ _ (by first | assumption | exact ⟨by omega, by omega⟩ | exact rg_L (by assumption)) (by first | assumption | exact ⟨by omega, by omega⟩ | exact rg_L (by assumption)) (by first | assumption | exact ⟨by omega, by omega⟩ | exact rg_L (by assumption))) rfl rfl ⟨Nat.le_of_ble_eq_true rfl, Nat.le_of_ble_eq_true rfl⟩ (Nat.le_of_ble_eq_true rfl) ⟨Nat.le_of_ble_eq_true rfl, Nat.le_of_ble_eq_true rfl⟩ ?_
      refine R_ifp_ne 33 35 rfl rfl dX11_many_30 (fun h30 => ?_) (fun h30 => ?_)
      · refine R_aload_n 36 rfl dX11_many_35 rfl ?_
        refine R_callV_V (M' := mX11_layKinds) 39 rfl dX11_many_36 ml_X11_227 kmX11_layKinds im_X11_layKinds se_X11_layKinds rfl ⟨by decide, rfl⟩ (c_X11_layKinds hR) rfl rfl ⟨Nat.le_of_ble_eq_true rfl, Nat.le_of_ble_eq_true rfl⟩ (Nat.le_of_ble_eq_true rfl) ⟨Nat.le_of_ble_eq_true rfl, Nat.le_of_ble_eq_true rfl⟩ ?_
        rintro m36 h36
        obtain ⟨f36, z36⟩ := h36
        refine R_aload_n 40 rfl dX11_many_39 rfl ?_
        refine R_iload_n 41 rfl dX11_many_40 rfl ?_
        refine R_bipush 43 rfl dX11_many_41 (by decide) ?_
        refine R_iconst 44 rfl dX11_many_43 ?_
        refine R_callV_V (M' := mX11_tally) 47 rfl dX11_many_44 ml_X11_230 kmX11_tally im_X11_tally se_X11_tally rfl ⟨by decide, rfl⟩ (c_X11_tally _ _ _ c.toNat z36 (by omega) (by omega) (Or.inl rfl) ⟨by omega, by omega⟩) rfl rfl ⟨Nat.le_of_ble_eq_true rfl, Nat.le_of_ble_eq_true rfl⟩ (Nat.le_of_ble_eq_true rfl) ⟨Nat.le_of_ble_eq_true rfl, Nat.le_of_ble_eq_true rfl⟩ ?_
        rintro m44 h44
        obtain ⟨f44, z44, a44, b44⟩ := h44
        refine R_iconst 48 rfl dX11_many_47 ?_
        refine R_istore_n [_, _, _, _, _, _] 49 rfl dX11_many_48 rfl (by decide) ?_
        refine R_iconst 50 rfl dX11_many_49 ?_
        refine R_istore [_, _, _, _, _, _] 52 rfl dX11_many_50 rfl (by decide) ?_
        exact Lp (by omega) _ (f36.tr f44) z44 (by rw [a44, ty_all L]) (by rw [b44, ty_abl]) 0 (by omega) _ _ _ (fun _ => rfl) rfl
      · refine R_iconst 34 rfl dX11_many_33 ?_
        refine R_ireturn dX11_many_34 rfl ?_
        exact QI_mk ⟨by unfold a_many; rw [if_neg (by omega)], Fm.rf, hR⟩
end
