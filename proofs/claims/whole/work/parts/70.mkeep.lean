section
variable {Γ : GX} {m m' m'' : Mem} {B B' : Bk} {L : Ld} {ch ch' : Cs} {T : Tp} {F N : Int} {I : Nat → Im} {S : Nat → Sht}
theorem RX.im {kn : Nat} {J : Im} (hkn : kn < 2) (h : RX T F I S N m) (e : ∀ a k, (a ≠ 107 ∨ k < 660 * (kn + 1) ∨ 660 * (kn + 1) + 660 ≤ k) ∧ (a ≠ 109 ∨ k ≠ kn) → m'.1 a k = m.1 a k) (hJ : RI kn m' J) (hO : ImOk J) : RX T F (imSet I kn J) S N m' := by
  obtain ⟨⟨o1, o2, o3, o4, o5⟩, ⟨h1, h1'⟩, h2, h3, h4, h5, k1, k2, k3⟩ := h
  refine ⟨⟨o1, o2, fun k hk => ?_, o4, o5⟩, ⟨by rw [e 96 1 (by omega)]; exact h1, fun k hk => by rw [e 97 k (by omega)]; exact h1' k hk⟩, by rw [e 96 2 (by omega)]; exact h2, fun k hk => ?_, fun k hk => ?_, by rw [e 96 34 (by omega)]; exact h5, fun j hj => by rw [e 100 j (by omega)]; exact k1 j hj, fun j hj => by rw [e 98 j (by omega)]; exact k2 j hj, fun j hj => by rw [e 99 j (by omega)]; exact k3 j hj⟩
  · simp only [imSet]
    by_cases q : k = kn
    · rw [if_pos q]; exact hO
    · rw [if_neg q]; exact o3 k hk
  · simp only [imSet]
    by_cases q : k = kn
    · rw [if_pos q, q]; exact hJ
    · rw [if_neg q]
      obtain ⟨a1, a2, a3⟩ := h3 k hk
      refine ⟨by rw [e 109 k (by omega)]; exact a1, fun w => ?_, by rw [e 107 _ (by omega)]; exact a3⟩
      obtain ⟨⟨b1, b2, b3⟩, b4⟩ := a2 w
      have hb := (o3 k hk w).1.1
      exact ⟨⟨by rw [e 107 _ (by omega)]; exact b1, fun j hj w hw => by rw [e 107 _ (by omega)]; exact b2 j hj w hw, fun j hj w hw => by rw [e 107 _ (by omega)]; exact b3 j hj w hw⟩, fun c hc j hj => by rw [e 107 _ (by omega)]; exact b4 c hc j hj⟩
  · obtain ⟨a1, a2, a3⟩ := h4 k hk
    exact ⟨by rw [e 110 k (by omega)]; exact a1, fun q => by rw [e 111 k (by omega)]; exact a2 q, fun i hi => by rw [e 112 _ (by omega)]; exact a3 i hi⟩
theorem RS.hi (h : RS L B ch m) (e : ∀ a k, (a ≠ 107 ∨ k < 660) ∧ a ≠ 109 → m'.1 a k = m.1 a k) (e2 : m'.2 = m.2) : RS L B ch m' := by
  obtain ⟨h1, h2, h3, ⟨b1, b2, b3⟩, h5, h6, h7⟩ := h
  have hb := h5.1
  refine ⟨fun a k r q => by rw [e2]; exact h1 a k r q, h2.eq (fun a k q1 q2 => e a k (by omega)), h3, ⟨by rw [e 107 _ (by omega)]; exact b1, fun k hk w hw => by rw [e 107 _ (by omega)]; exact b2 k hk w hw, fun k hk w hw => by rw [e 107 _ (by omega)]; exact b3 k hk w hw⟩, h5, ?_, h7⟩
  rcases h6 with ⟨a, b⟩ | ⟨a, b⟩
  · exact Or.inl ⟨by rw [e 96 20 (by omega)]; exact a, fun c hc j hj => by rw [e 107 _ (by omega)]; exact b c hc j hj⟩
  · exact Or.inr ⟨by rw [e 96 20 (by omega)]; exact a, b⟩
theorem c_X11_keep (k : Int) (hR : RS L B ch m) (hX : RX T F I S N m) (hk : rg k) : C Γ mX11_keep 2 80 0 0 [vr 96, vi k] SH m (QR L B ch T F (if 0 ≤ k ∧ k ≤ 1 then imSet I k.toNat (true, B, ch) else I) S N m (if 0 ≤ k ∧ k ≤ 1 then pI ((I k.toNat).1 = true) else -1)) := by
  refine C_of_R rfl (Nat.le_of_ble_eq_true rfl) ?_
  have Lp : 0 ≤ k ∧ k ≤ 1 → ∀ m0, Fm m m0 → RW L B ch m0 → ∀ i : Nat, i ≤ 660 → ∀ z m1, z = (i : Int) → m1.2 = m0.2 → (∀ a j, a ≠ 107 ∨ j < 660 * (k.toNat + 1) ∨ 660 * (k.toNat + 1) + i ≤ j → m1.1 a j = m0.1 a j) → (∀ j, j < i → m1.1 107 (660 * (k.toNat + 1) + j) = m0.1 107 j) → R Γ mX11_keep { frames := 2, cells := 0, slots := 0, locals := 80 } 0 0 (QR L B ch T F (if 0 ≤ k ∧ k ≤ 1 then imSet I k.toNat (true, B, ch) else I) S N m (if 0 ≤ k ∧ k ≤ 1 then pI ((I k.toNat).1 = true) else -1)) 0 0 18 [some (vr 96), some (vi k), some (vi z)] [] SH m1 := by
    intro ho m0 hf hW
    have hX0 := hX.fm hf
    have hRI := hX0.2.2.2.1 k.toNat (by omega)
    have hO := hW.1.2.2.2.2.1
    have hb := hO.1
    have hl := hW.1.2.2.1.1
    have rb := hW.1.2.2.2.1
    have rc := hW.rc
    refine up_ind 660 (fun i hi ih z m1 hz h2 h0 h1 => ?_)
    have hP : RP m1 := fun a k r q => by rw [h2]; exact hW.1.1 a k r q
    have g9 : m1.1 109 k.toNat = pI ((I k.toNat).1 = true) := (h0 109 k.toNat (by omega)).trans hRI.1
    have g01 := pI_01 ((I k.toNat).1 = true)
    have fin : i = 660 → Fl m (setI m1 109 k.toNat 1) ∧ RS L B ch (setI m1 109 k.toNat 1) ∧ RX T F (imSet I k.toNat (true, B, ch)) S N (setI m1 109 k.toNat 1) := by
      intro ei
      subst ei
      have e : ∀ a j, (a ≠ 107 ∨ j < 660 * (k.toNat + 1) ∨ 660 * (k.toNat + 1) + 660 ≤ j) ∧ (a ≠ 109 ∨ j ≠ k.toNat) → (setI m1 109 k.toNat 1).1 a j = m0.1 a j := fun a j q => by simp only [setI]; rw [if_neg (by omega)]; exact h0 a j q.1
      refine ⟨⟨fun a j q => (e a j (by omega)).trans (hf.1 a j (by omega) (by omega) (by omega)), h2.trans hf.2.2.2⟩, hW.1.hi (fun a j q => e a j (by omega)) h2, hX0.im (by omega) e ⟨?_, fun _ => ⟨⟨?_, fun j hj w hw => ?_, fun j hj w hw => ?_⟩, fun c hc j hj => ?_⟩, ?_⟩ (fun _ => ⟨hO.wk hl.2.1, hW.1.2.2.2.2.2.2⟩)⟩
      · simp only [setI]; rw [if_pos ⟨trivial, trivial⟩]; exact pI_1 (c := (true = true)) rfl
      · simp only [setI]; rw [if_neg (by omega), h1 650 (by omega)]; exact rb.1
      · have hj2 : j < B.1 := hj
        simp only [setI]; rw [if_neg (by omega), show 660 * (k.toNat + 1) + 16 * j + w = 660 * (k.toNat + 1) + (0 + 16 * j + w) by omega, h1 _ (by omega)]; exact rb.2.1 j hj w hw
      · have hj2 : j < 2 * B.1 := hj
        simp only [setI]; rw [if_neg (by omega), show 660 * (k.toNat + 1) + 16 * (j / 2) + 3 + 5 * (j % 2) + w = 660 * (k.toNat + 1) + (0 + 16 * (j / 2) + 3 + 5 * (j % 2) + w) by omega, h1 _ (by omega)]; exact rb.2.2 j hj w hw
      · simp only [setI]; rw [if_neg (by omega), show 660 * (k.toNat + 1) + 640 + 5 * c + j = 660 * (k.toNat + 1) + (0 + 640 + 5 * c + j) by omega, h1 _ (by omega)]; exact rc c hc j hj
      · simp only [setI]; rw [if_neg (by omega), h1 650 (by omega)]; have := rb.1; rw [Nat.zero_add] at this; omega
    refine R_iload_n 19 rfl dX11_keep_18 rfl ?_
    refine R_sipush 22 rfl dX11_keep_19 (by decide) ?_
    refine R_icmp_ge 25 51 rfl rfl dX11_keep_22 (by first | assumption | exact ⟨by omega, by omega⟩) (by first | assumption | exact ⟨by omega, by omega⟩) (fun h22 => ?_) (fun h22 => ?_)
    · refine R_aload_n 52 rfl dX11_keep_51 rfl ?_
      refine R_getP 30 55 rfl dX11_keep_52 rfl rfl fl_X11_46 (hP _ _ _ rfl) ?_
      refine R_iload_n 56 rfl dX11_keep_55 rfl ?_
      refine R_zald k.toNat 57 rfl dX11_keep_56 rfl (by first | rfl | omega) (by omega) (by decide) ?_
      rw [g9]
      refine R_if_eq 60 64 rfl rfl dX11_keep_57 (by first | assumption | exact ⟨by omega, by omega⟩) (fun h57 => ?_) (fun h57 => ?_)
      · refine R_iconst 65 rfl dX11_keep_64 ?_
        refine R_istore_n [_, _, _] 66 rfl dX11_keep_65 rfl (by decide) ?_
        refine R_aload_n 67 rfl dX11_keep_66 rfl ?_
        refine R_getP 30 70 rfl dX11_keep_67 rfl rfl fl_X11_46 (hP _ _ _ rfl) ?_
        refine R_iload_n 71 rfl dX11_keep_70 rfl ?_
        refine R_iconst 72 rfl dX11_keep_71 ?_
        refine R_zast k.toNat 73 rfl dX11_keep_72 rfl (by first | rfl | omega) (by omega) (by decide) (Or.inr rfl) ?_
        refine R_iload_n 74 rfl dX11_keep_73 rfl ?_
        refine R_ireturn dX11_keep_74 rfl ?_
        obtain ⟨f1, f2, f3⟩ := fin (by omega)
        rw [if_pos ho, if_pos ho]
        exact QI_mk ⟨by omega, f1, f2, f3⟩
      · refine R_iconst 61 rfl dX11_keep_60 ?_
        refine R_goto 65 rfl dX11_keep_61 ?_
        refine R_istore_n [_, _, _] 66 rfl dX11_keep_65 rfl (by decide) ?_
        refine R_aload_n 67 rfl dX11_keep_66 rfl ?_
        refine R_getP 30 70 rfl dX11_keep_67 rfl rfl fl_X11_46 (hP _ _ _ rfl) ?_
        refine R_iload_n 71 rfl dX11_keep_70 rfl ?_
        refine R_iconst 72 rfl dX11_keep_71 ?_
        refine R_zast k.toNat 73 rfl dX11_keep_72 rfl (by first | rfl | omega) (by omega) (by decide) (Or.inr rfl) ?_
        refine R_iload_n 74 rfl dX11_keep_73 rfl ?_
        refine R_ireturn dX11_keep_74 rfl ?_
        obtain ⟨f1, f2, f3⟩ := fin (by omega)
        rw [if_pos ho, if_pos ho]
        exact QI_mk ⟨by omega, f1, f2, f3⟩
    · refine R_aload_n 26 rfl dX11_keep_25 rfl ?_
      refine R_getP 19 29 rfl dX11_keep_26 rfl rfl fl_X11_40 (hP _ _ _ rfl) ?_
      refine R_sipush 32 rfl dX11_keep_29 (by decide) ?_
      refine R_iload_n 33 rfl dX11_keep_32 rfl ?_
      refine R_iconst 34 rfl dX11_keep_33 ?_
      refine R_iadd 35 rfl dX11_keep_34 ?_
      refine R_imul 36 rfl dX11_keep_35 ?_
      refine R_iload_n 37 rfl dX11_keep_36 rfl ?_
      refine R_iadd 38 rfl dX11_keep_37 ?_
      refine R_aload_n 39 rfl dX11_keep_38 rfl ?_
      refine R_getP 19 42 rfl dX11_keep_39 rfl rfl fl_X11_40 (hP _ _ _ rfl) ?_
      refine R_iload_n 43 rfl dX11_keep_42 rfl ?_
      refine R_iald i 44 rfl dX11_keep_43 rfl (by first | rfl | omega) (by omega) (by decide) ?_
      refine R_iast (660 * (k.toNat + 1) + i) 45 rfl dX11_keep_44 rfl (by first | rfl | omega) (by omega) (by decide) ?_
      refine R_iinc [_, _, _] 48 rfl dX11_keep_45 rfl rfl (by decide) ?_
      refine R_goto 18 rfl dX11_keep_48 ?_
      refine ih (by omega) _ _ (by omega) h2 (fun a j q => ?_) (fun j hj => ?_)
      · simp only [setI]; rw [if_neg (by omega)]; exact h0 a j (by omega)
      · simp only [setI]
        by_cases e : j = i
        · subst e; rw [if_pos ⟨trivial, rfl⟩]; exact h0 107 _ (by omega)
        · rw [if_neg (by omega)]; exact h1 j (by omega)
  refine R_iload_n 1 rfl dX11_keep_0 rfl ?_
  refine R_i2l 2 rfl dX11_keep_1 (by first | assumption | exact ⟨by omega, by omega⟩) ?_
  refine R_lconst 3 rfl dX11_keep_2 ?_
  refine R_topL (b := 0) rfl ?_
  refine R_lconst 4 rfl dX11_keep_3 ?_
  refine R_topL (b := 1) rfl ?_
  refine R_callS_i (M' := mX11_in) 7 rfl dX11_keep_4 ml_X11_63 kmX11_in st_X11_in (c_X11_in _ _ _ (by first | assumption | exact ⟨by omega, by omega⟩ | exact rg_L (by assumption)) (by first | assumption | exact ⟨by omega, by omega⟩ | exact rg_L (by assumption)) (by first | assumption | exact ⟨by omega, by omega⟩ | exact rg_L (by assumption))) rfl rfl ⟨Nat.le_of_ble_eq_true rfl, Nat.le_of_ble_eq_true rfl⟩ (Nat.le_of_ble_eq_true rfl) ⟨Nat.le_of_ble_eq_true rfl, Nat.le_of_ble_eq_true rfl⟩ ?_
  refine R_ifp_ne 10 12 rfl rfl dX11_keep_7 (fun h7 => ?_) (fun h7 => ?_)
  · refine R_aload_n 13 rfl dX11_keep_12 rfl ?_
    refine R_callV_V (M' := mX11_awake) 16 rfl dX11_keep_13 ml_X11_219 kmX11_awake im_X11_awake se_X11_awake rfl ⟨by decide, rfl⟩ (c_X11_awake hR) rfl rfl ⟨Nat.le_of_ble_eq_true rfl, Nat.le_of_ble_eq_true rfl⟩ (Nat.le_of_ble_eq_true rfl) ⟨Nat.le_of_ble_eq_true rfl, Nat.le_of_ble_eq_true rfl⟩ ?_
    rintro m13 h13
    obtain ⟨f13, w13, -⟩ := h13
    refine R_iconst 17 rfl dX11_keep_16 ?_
    refine R_istore_n [_, _, _] 18 rfl dX11_keep_17 rfl (by decide) ?_
    exact Lp (by omega) _ f13 w13 0 (by omega) _ _ rfl rfl (fun _ _ _ => rfl) (fun j hj => by omega)
  · refine R_iconst 11 rfl dX11_keep_10 ?_
    refine R_ireturn dX11_keep_11 rfl ?_
    rw [if_neg (by omega), if_neg (by omega)]
    exact QI_mk ⟨rfl, Fl.rf, hR, hX⟩
end
