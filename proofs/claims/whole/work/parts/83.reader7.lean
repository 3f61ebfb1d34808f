def kY2 (T : Tp) (st : St) : PX (Int × St) := pb (adv T st) (num T 0 ((sL st).1 0 - 1))
def kY3 (T : Tp) (st : St) : PX (Int × St) := pb (sx (kY2 T st)) (num T 0 89)
def kY4 (T : Tp) (st : St) : PX (Int × St) := pb (kY3 T st) (fun q => num T q.1 89 q.2)
def kY5 (T : Tp) (st : St) : PX (Int × St) := pb (sx (kY4 T st)) (num T 0 255)
def kY6 (T : Tp) (st : St) : PX (Int × St) := pb (sx (kY5 T st)) (num T 0 4)
theorem clk_l {T : Tp} {st : St} {e : Int × Nat} (hn : ¬ 8 ≤ (sL st).1 1) (h : sx (kY6 T st) = .inl e) : clerkT T st = .inl e := by
  unfold clerkT
  rw [if_neg hn]
  unfold kY6 kY5 kY4 kY3 kY2 at h
  cases h1 : adv T st with
  | inl e1 => rw [h1] at h; exact h
  | inr s1 =>
    rw [h1] at h
    simp only [pb] at h ⊢
    cases h2 : num T 0 ((sL st).1 0 - 1) s1 with
    | inl e1 => rw [h2] at h; exact h
    | inr q2 =>
      rw [h2] at h
      simp only [sx, pb] at h ⊢
      cases h3 : num T 0 89 q2.2 with
      | inl e1 => rw [h3] at h; exact h
      | inr q3 =>
        rw [h3] at h
        simp only [pb] at h ⊢
        cases h4 : num T q3.1 89 q3.2 with
        | inl e1 => rw [h4] at h; exact h
        | inr q4 =>
          rw [h4] at h
          simp only [pb] at h ⊢
          cases h5 : num T 0 255 q4.2 with
          | inl e1 => rw [h5] at h; exact h
          | inr q5 =>
            rw [h5] at h
            simp only [pb] at h ⊢
            cases h6 : num T 0 4 q5.2 with
            | inl e1 => rw [h6] at h; exact h
            | inr q6 => rw [h6] at h; cases h
theorem clk_r {T : Tp} {st s : St} (hn : ¬ 8 ≤ (sL st).1 1) (h : sx (kY6 T st) = .inr s) : ∃ v1 v2 v3 v4 v5 s2 s3 s4 s5, kY2 T st = .inr (v1, s2) ∧ kY3 T st = .inr (v2, s3) ∧ kY4 T st = .inr (v3, s4) ∧ kY5 T st = .inr (v4, s5) ∧ kY6 T st = .inr (v5, s) ∧ clerkT T st = .inr (wL s (addK (sL s) v1 v2 v3 v4 v5)) := by
  obtain ⟨q6, a6, b6⟩ := pb_inv h
  cases b6
  have a6' := a6
  unfold kY6 at a6
  obtain ⟨s5, a5, b5⟩ := pb_inv a6
  obtain ⟨q5, c5, d5⟩ := pb_inv a5
  cases d5
  have c5' := c5
  unfold kY5 at c5
  obtain ⟨s4, a4, b4⟩ := pb_inv c5
  obtain ⟨q4, c4, d4⟩ := pb_inv a4
  cases d4
  have c4' := c4
  unfold kY4 at c4
  obtain ⟨q3, c3, b3⟩ := pb_inv c4
  have c3' := c3
  unfold kY3 at c3
  obtain ⟨s2, a2, b2⟩ := pb_inv c3
  obtain ⟨q2, c2, d2⟩ := pb_inv a2
  cases d2
  have c2' := c2
  unfold kY2 at c2
  obtain ⟨s1, a1, b1⟩ := pb_inv c2
  refine ⟨q2.1, q3.1, q4.1, q5.1, q6.1, q2.2, q3.2, q4.2, q5.2, c2', c3', c4', c5', a6', ?_⟩
  unfold clerkT
  rw [if_neg hn, a1]
  simp only [pb]
  rw [b1]
  simp only
  rw [b2]
  simp only
  rw [b3]
  simp only
  rw [b4]
  simp only
  rw [b5]
theorem numz {T : Tp} {y : PX (Int × St)} {z hi : Int} (hz : ∀ v s, y = .inr (v, s) → z = v) : pb (sx y) (num T z hi) = pb y (fun q => num T q.1 hi q.2) := by
  cases y with
  | inl e => rfl
  | inr q =>
    have := hz q.1 q.2 rfl
    subst this
    rfl
theorem num_rg {T : Tp} {x : PX St} {lo hi v : Int} {s : St} (h : pb x (num T lo hi) = .inr (v, s)) : lo ≤ v ∧ v ≤ hi := by
  obtain ⟨s0, a, b⟩ := pb_inv h
  unfold num at b
  split at b
  · split at b
    · obtain ⟨s2, h5, h6⟩ := pb_inv b
      cases h6
      assumption
    · cases b
  · cases b
theorem sx_inv {α : Type} {y : PX (α × St)} {s : St} (h : sx y = .inr s) : ∃ v, y = .inr (v, s) := by
  obtain ⟨q, a, b⟩ := pb_inv h
  cases b
  exact ⟨q.1, a⟩
section
variable {Γ : GX} {m m' : Mem} {T : Tp} {o d : Nat} {P : Nat → Bool} {x : PX St} {L : Ld}
theorem LdC.addK {p f t hh a : Int} (h : LdC d m L) (hd : d = 4 ∨ d = 17) (h0 : 0 ≤ L.1 1) (e0 : m'.1 d 1 = L.1 1 + 1) (e1 : ∀ k, k ≠ 1 → k < 7 → m'.1 d k = m.1 d k) (e2 : ∀ k, m'.1 (d + 1) k = m.1 (d + 1) k) (e3 : ∀ r p, r < 4 → m'.1 (d + 3 + r) p = m.1 (d + 3 + r) p) (e4 : ∀ r k, r < 5 → k ≠ (L.1 1).toNat → m'.1 (d + 8 + r) k = m.1 (d + 8 + r) k) (v0 : m'.1 (d + 8 + 0) (L.1 1).toNat = p) (v1 : m'.1 (d + 8 + 1) (L.1 1).toNat = f) (v2 : m'.1 (d + 8 + 2) (L.1 1).toNat = t) (v3 : m'.1 (d + 8 + 3) (L.1 1).toNat = hh) (v4 : m'.1 (d + 8 + 4) (L.1 1).toNat = a) : LdC d m' (addK L p f t hh a) := by
  obtain ⟨c1, c2, c3, c4⟩ := h.u
  refine LdU.c ⟨fun k hk => ?_, fun k hk => ?_, fun r hr p hp => ?_, fun r hr k hk => ?_⟩ hd
  · show m'.1 d k = (if k = 1 then L.1 1 + 1 else L.1 k)
    by_cases q : k = 1
    · rw [if_pos q, q]; exact e0
    · rw [if_neg q, e1 k q hk]; exact c1 k hk
  · show m'.1 (d + 1) k = (if 7 + k = 1 then L.1 1 + 1 else L.1 (7 + k))
    rw [if_neg (by omega), e2]; exact c2 k hk
  · show m'.1 (d + 3 + r) p = L.2.1 r p
    rw [e3 r p hr]; exact c3 r hr p hp
  · have hp2 : (k : Int) < L.1 1 + 1 := hk
    show m'.1 (d + 8 + r) k = (if k = (L.1 1).toNat then (if r = 0 then p else if r = 1 then f else if r = 2 then t else if r = 3 then hh else a) else L.2.2 r k)
    by_cases q : k = (L.1 1).toNat
    · rw [if_pos q, q]
      rcases (show r = 0 ∨ r = 1 ∨ r = 2 ∨ r = 3 ∨ r = 4 by omega) with rfl | rfl | rfl | rfl | rfl
      · exact v0
      · exact v1
      · exact v2
      · exact v3
      · exact v4
    · rw [if_neg q, e4 r k hr q]; exact c4 r hr k (by omega)
theorem c_X5_takeClerk4 (st : St) (hb : PCb o 4 T m) (hx : PCa T 4 m st) : C Γ mX5_takeClerk 6 240 0 0 [vr 3] SH m (QV SH (fun m' => Fr (isRD 4) m m' ∧ PCx T 4 m' (clerkT T st))) := by
  refine C_of_R rfl (Nat.le_of_ble_eq_true rfl) ?_
  have hx0 : PCx T 4 m (.inr st) := hx
  obtain ⟨g2, g3, g4, g5, g6, g7, v, hL, hB⟩ := hx
  have l0 : m.1 4 0 = (sL st).1 0 := hL.u.1 0 (by omega)
  have l1 : m.1 4 1 = (sL st).1 1 := hL.u.1 1 (by omega)
  have b0 := hB.1
  have b1 := hB.2.1
  have b2 := hB.2.2.1
  have b3 := hB.2.2.2
  have hP := hb.1.2
  have hD := hb.2.2.2.2
  have w3 : ∀ a, isRD 4 a = false → is3 a = false := fun a h => by simp [isRD] at h; simp [is3]; omega
  have nl : ∀ s : St, s.2.2.2 = st.2.2.2 → ¬ ((((sL st).1 1).toNat : Nat) : Int) < (sL s).1 1 := fun s h => by unfold sL at *; rw [h]; omega
  refine R_aload_n 1 rfl dX5_takeClerk_0 rfl ?_
  refine R_getP 1 4 rfl dX5_takeClerk_1 rfl rfl fl_X5_15 hD ?_
  refine R_getI 1 7 rfl dX5_takeClerk_4 rfl rfl fl_X5_114 ?_
  rw [l1]
  refine R_istore_n [_, _] 8 rfl dX5_takeClerk_7 rfl (by decide) ?_
  refine R_iload_n 9 rfl dX5_takeClerk_8 rfl ?_
  refine R_bipush 11 rfl dX5_takeClerk_9 (by decide) ?_
  refine R_icmp_lt 14 20 rfl rfl dX5_takeClerk_11 (by first | assumption | exact ⟨by omega, by omega⟩) (by first | assumption | exact ⟨by omega, by omega⟩) (fun h11 => ?_) (fun h11 => ?_)
  · have hn : ¬ 8 ≤ (sL st).1 1 := by omega
    refine R_aload_n 21 rfl dX5_takeClerk_20 rfl ?_
    refine R_callV_V (M' := mX5_advance) 24 rfl dX5_takeClerk_21 ml_X5_37 kmX5_advance im_X5_advance se_X5_advance rfl ⟨by decide, rfl⟩ (c_X5_advance st hb g2 g6 g7 v.2.1 v.2.2.2.2.1 hL hB) rfl rfl ⟨Nat.le_of_ble_eq_true rfl, Nat.le_of_ble_eq_true rfl⟩ (Nat.le_of_ble_eq_true rfl) ⟨Nat.le_of_ble_eq_true rfl, Nat.le_of_ble_eq_true rfl⟩ ?_
    rintro m21 h21
    obtain ⟨f21, p21⟩ := h21
    have b21 := hb.fr f21 rfl rfl
    have k21 := adv_kp (T := T) (st := st) (s := st) v rfl (Nat.le_refl _)
    have l21 : m21.1 4 0 = (sL st).1 0 := by rw [f21.1 _ _ rfl]; exact l0
    clear hP hD
    have hP := b21.1.2
    have hD := b21.2.2.2.2
    refine R_aload_n 25 rfl dX5_takeClerk_24 rfl ?_
    refine R_getP 1 28 rfl dX5_takeClerk_25 rfl rfl fl_X5_15 hD ?_
    refine R_getP 9 31 rfl dX5_takeClerk_28 rfl rfl fl_X5_117 (hP _ _ _ rfl) ?_
    refine R_iconst 32 rfl dX5_takeClerk_31 ?_
    refine R_aald 0 33 rfl dX5_takeClerk_32 rfl rfl (by first | rfl | omega) (by decide) (by decide) (hP _ _ _ rfl) ?_
    refine R_iload_n 34 rfl dX5_takeClerk_33 rfl ?_
    refine R_aload_n 35 rfl dX5_takeClerk_34 rfl ?_
    refine R_iconst 36 rfl dX5_takeClerk_35 ?_
    refine R_aload_n 37 rfl dX5_takeClerk_36 rfl ?_
    refine R_getP 1 40 rfl dX5_takeClerk_37 rfl rfl fl_X5_15 hD ?_
    refine R_getI 0 43 rfl dX5_takeClerk_40 rfl rfl fl_X5_99 ?_
    rw [l21]
    refine R_iconst 44 rfl dX5_takeClerk_43 ?_
    refine R_isub 45 rfl dX5_takeClerk_44 ?_
    refine R_callV_I (M' := mX5_takeNumber) 48 rfl dX5_takeClerk_45 ml_X5_71 kmX5_takeNumber im_X5_takeNumber se_X5_takeNumber rfl ⟨by decide, rfl⟩ (c_X5_takeNumber 0 ((sL st).1 0 - 1) (adv T st) b21 p21 (fun _ _ => ⟨⟨by omega, by omega⟩, ⟨by omega, by omega⟩⟩)) rfl rfl ⟨Nat.le_of_ble_eq_true rfl, Nat.le_of_ble_eq_true rfl⟩ (Nat.le_of_ble_eq_true rfl) ⟨Nat.le_of_ble_eq_true rfl, Nat.le_of_ble_eq_true rfl⟩ ?_
    rintro z45 m45 h45
    obtain ⟨f45, p45, v45⟩ := h45
    have b45 := b21.fr f45 rfl rfl
    have k45 : kp T st (sx (pb (adv T st) (num T 0 ((sL st).1 0 - 1)))) := kp_num k21
    have k45 : kp T st (sx (kY2 T st)) := k45
    have p45 : PCx T 4 m45 (sx (kY2 T st)) := p45
    have v45 : ∀ v s, kY2 T st = .inr (v, s) → z45 = v := v45
    have bs45 : PCb o 4 T (setI m45 12 ((sL st).1 1).toNat z45) := b45.fr (P := fun a => decide (a = 12)) (Fr.rf.set rfl) rfl rfl
    have ps45 : PCx T 4 (setI m45 12 ((sL st).1 1).toNat z45) (sx (kY2 T st)) := PCx.ld p45 (fun k => by simp [setI]) (fun s hs hl => LdC.wk (r := 0) hl (Or.inl rfl) (by decide) (nl s (k45 s hs).1))
    clear hP hD
    have hP := b45.1.2
    have hD := b45.2.2.2.2
    refine R_iast ((sL st).1 1).toNat 49 rfl dX5_takeClerk_48 rfl (by first | rfl | omega) (by omega) (by decide) ?_
    refine R_aload_n 50 rfl dX5_takeClerk_49 rfl ?_
    refine R_getP 1 53 rfl dX5_takeClerk_50 rfl rfl fl_X5_15 hD ?_
    refine R_getP 9 56 rfl dX5_takeClerk_53 rfl rfl fl_X5_117 (hP _ _ _ rfl) ?_
    refine R_iconst 57 rfl dX5_takeClerk_56 ?_
    refine R_aald 1 58 rfl dX5_takeClerk_57 rfl rfl (by first | rfl | omega) (by decide) (by decide) (hP _ _ _ rfl) ?_
    refine R_iload_n 59 rfl dX5_takeClerk_58 rfl ?_
    refine R_aload_n 60 rfl dX5_takeClerk_59 rfl ?_
    refine R_iconst 61 rfl dX5_takeClerk_60 ?_
    refine R_bipush 63 rfl dX5_takeClerk_61 (by decide) ?_
    refine R_callV_I (M' := mX5_takeNumber) 66 rfl dX5_takeClerk_63 ml_X5_71 kmX5_takeNumber im_X5_takeNumber se_X5_takeNumber rfl ⟨by decide, rfl⟩ (c_X5_takeNumber 0 89 (sx (kY2 T st)) bs45 ps45 (fun _ _ => ⟨⟨by omega, by omega⟩, ⟨by omega, by omega⟩⟩)) rfl rfl ⟨Nat.le_of_ble_eq_true rfl, Nat.le_of_ble_eq_true rfl⟩ (Nat.le_of_ble_eq_true rfl) ⟨Nat.le_of_ble_eq_true rfl, Nat.le_of_ble_eq_true rfl⟩ ?_
    rintro z63 m63 h63
    obtain ⟨f63, p63, v63⟩ := h63
    have b63 := bs45.fr f63 rfl rfl
    have k63 : kp T st (sx (pb (sx (kY2 T st)) (num T 0 89))) := kp_num k45
    have k63 : kp T st (sx (kY3 T st)) := k63
    have p63 : PCx T 4 m63 (sx (kY3 T st)) := p63
    have v63 : ∀ v s, kY3 T st = .inr (v, s) → z63 = v := v63
    have bs63 : PCb o 4 T (setI m63 13 ((sL st).1 1).toNat z63) := b63.fr (P := fun a => decide (a = 13)) (Fr.rf.set rfl) rfl rfl
    have ps63 : PCx T 4 (setI m63 13 ((sL st).1 1).toNat z63) (sx (kY3 T st)) := PCx.ld p63 (fun k => by simp [setI]) (fun s hs hl => LdC.wk (r := 1) hl (Or.inl rfl) (by decide) (nl s (k63 s hs).1))
    clear hP hD
    have hP := b63.1.2
    have hD := b63.2.2.2.2
    refine R_iast ((sL st).1 1).toNat 67 rfl dX5_takeClerk_66 rfl (by first | rfl | omega) (by omega) (by decide) ?_
    refine R_aload_n 68 rfl dX5_takeClerk_67 rfl ?_
    refine R_getP 1 71 rfl dX5_takeClerk_68 rfl rfl fl_X5_15 hD ?_
    refine R_getP 9 74 rfl dX5_takeClerk_71 rfl rfl fl_X5_117 (hP _ _ _ rfl) ?_
    refine R_iconst 75 rfl dX5_takeClerk_74 ?_
    refine R_aald 2 76 rfl dX5_takeClerk_75 rfl rfl (by first | rfl | omega) (by decide) (by decide) (hP _ _ _ rfl) ?_
    refine R_iload_n 77 rfl dX5_takeClerk_76 rfl ?_
    refine R_aload_n 78 rfl dX5_takeClerk_77 rfl ?_
    refine R_aload_n 79 rfl dX5_takeClerk_78 rfl ?_
    refine R_getP 1 82 rfl dX5_takeClerk_79 rfl rfl fl_X5_15 hD ?_
    refine R_getP 9 85 rfl dX5_takeClerk_82 rfl rfl fl_X5_117 (hP _ _ _ rfl) ?_
    refine R_iconst 86 rfl dX5_takeClerk_85 ?_
    refine R_aald 1 87 rfl dX5_takeClerk_86 rfl rfl (by first | rfl | omega) (by decide) (by decide) (hP _ _ _ rfl) ?_
    refine R_iload_n 88 rfl dX5_takeClerk_87 rfl ?_
    refine R_iald ((sL st).1 1).toNat 89 rfl dX5_takeClerk_88 rfl (by first | rfl | omega) (by omega) (by decide) ?_
    refine R_top (b := z63) (by simp [setI]) ?_
    refine R_bipush 91 rfl dX5_takeClerk_89 (by decide) ?_
    refine R_callV_I (M' := mX5_takeNumber) 94 rfl dX5_takeClerk_91 ml_X5_71 kmX5_takeNumber im_X5_takeNumber se_X5_takeNumber rfl ⟨by decide, rfl⟩ (c_X5_takeNumber z63 89 (sx (kY3 T st)) bs63 ps63 (fun s hs => by obtain ⟨vv, hv⟩ := sx_inv hs; have e1 := v63 _ _ hv; have e2 := num_rg hv; exact ⟨⟨by omega, by omega⟩, ⟨by omega, by omega⟩⟩)) rfl rfl ⟨Nat.le_of_ble_eq_true rfl, Nat.le_of_ble_eq_true rfl⟩ (Nat.le_of_ble_eq_true rfl) ⟨Nat.le_of_ble_eq_true rfl, Nat.le_of_ble_eq_true rfl⟩ ?_
    rintro z91 m91 h91
    obtain ⟨f91, p91, v91⟩ := h91
    have b91 := bs63.fr f91 rfl rfl
    have k91 : kp T st (sx (pb (sx (kY3 T st)) (num T z63 89))) := kp_num k63
    rw [numz v63] at p91 v91 k91
    have k91 : kp T st (sx (kY4 T st)) := k91
    have p91 : PCx T 4 m91 (sx (kY4 T st)) := p91
    have v91 : ∀ v s, kY4 T st = .inr (v, s) → z91 = v := v91
    have bs91 : PCb o 4 T (setI m91 14 ((sL st).1 1).toNat z91) := b91.fr (P := fun a => decide (a = 14)) (Fr.rf.set rfl) rfl rfl
    have ps91 : PCx T 4 (setI m91 14 ((sL st).1 1).toNat z91) (sx (kY4 T st)) := PCx.ld p91 (fun k => by simp [setI]) (fun s hs hl => LdC.wk (r := 2) hl (Or.inl rfl) (by decide) (nl s (k91 s hs).1))
    clear hP hD
    have hP := b91.1.2
    have hD := b91.2.2.2.2
    refine R_iast ((sL st).1 1).toNat 95 rfl dX5_takeClerk_94 rfl (by first | rfl | omega) (by omega) (by decide) ?_
    refine R_aload_n 96 rfl dX5_takeClerk_95 rfl ?_
    refine R_getP 1 99 rfl dX5_takeClerk_96 rfl rfl fl_X5_15 hD ?_
    refine R_getP 9 102 rfl dX5_takeClerk_99 rfl rfl fl_X5_117 (hP _ _ _ rfl) ?_
    refine R_iconst 103 rfl dX5_takeClerk_102 ?_
    refine R_aald 3 104 rfl dX5_takeClerk_103 rfl rfl (by first | rfl | omega) (by decide) (by decide) (hP _ _ _ rfl) ?_
    refine R_iload_n 105 rfl dX5_takeClerk_104 rfl ?_
    refine R_aload_n 106 rfl dX5_takeClerk_105 rfl ?_
    refine R_iconst 107 rfl dX5_takeClerk_106 ?_
    refine R_sipush 110 rfl dX5_takeClerk_107 (by decide) ?_
    refine R_callV_I (M' := mX5_takeNumber) 113 rfl dX5_takeClerk_110 ml_X5_71 kmX5_takeNumber im_X5_takeNumber se_X5_takeNumber rfl ⟨by decide, rfl⟩ (c_X5_takeNumber 0 255 (sx (kY4 T st)) bs91 ps91 (fun _ _ => ⟨⟨by omega, by omega⟩, ⟨by omega, by omega⟩⟩)) rfl rfl ⟨Nat.le_of_ble_eq_true rfl, Nat.le_of_ble_eq_true rfl⟩ (Nat.le_of_ble_eq_true rfl) ⟨Nat.le_of_ble_eq_true rfl, Nat.le_of_ble_eq_true rfl⟩ ?_
    rintro z110 m110 h110
    obtain ⟨f110, p110, v110⟩ := h110
    have b110 := bs91.fr f110 rfl rfl
    have k110 : kp T st (sx (pb (sx (kY4 T st)) (num T 0 255))) := kp_num k91
    have k110 : kp T st (sx (kY5 T st)) := k110
    have p110 : PCx T 4 m110 (sx (kY5 T st)) := p110
    have v110 : ∀ v s, kY5 T st = .inr (v, s) → z110 = v := v110
    have bs110 : PCb o 4 T (setI m110 15 ((sL st).1 1).toNat z110) := b110.fr (P := fun a => decide (a = 15)) (Fr.rf.set rfl) rfl rfl
    have ps110 : PCx T 4 (setI m110 15 ((sL st).1 1).toNat z110) (sx (kY5 T st)) := PCx.ld p110 (fun k => by simp [setI]) (fun s hs hl => LdC.wk (r := 3) hl (Or.inl rfl) (by decide) (nl s (k110 s hs).1))
    clear hP hD
    have hP := b110.1.2
    have hD := b110.2.2.2.2
    refine R_iast ((sL st).1 1).toNat 114 rfl dX5_takeClerk_113 rfl (by first | rfl | omega) (by omega) (by decide) ?_
    refine R_aload_n 115 rfl dX5_takeClerk_114 rfl ?_
    refine R_getP 1 118 rfl dX5_takeClerk_115 rfl rfl fl_X5_15 hD ?_
    refine R_getP 9 121 rfl dX5_takeClerk_118 rfl rfl fl_X5_117 (hP _ _ _ rfl) ?_
    refine R_iconst 122 rfl dX5_takeClerk_121 ?_
    refine R_aald 4 123 rfl dX5_takeClerk_122 rfl rfl (by first | rfl | omega) (by decide) (by decide) (hP _ _ _ rfl) ?_
    refine R_iload_n 124 rfl dX5_takeClerk_123 rfl ?_
    refine R_aload_n 125 rfl dX5_takeClerk_124 rfl ?_
    refine R_iconst 126 rfl dX5_takeClerk_125 ?_
    refine R_iconst 127 rfl dX5_takeClerk_126 ?_
    refine R_callV_I (M' := mX5_takeNumber) 130 rfl dX5_takeClerk_127 ml_X5_71 kmX5_takeNumber im_X5_takeNumber se_X5_takeNumber rfl ⟨by decide, rfl⟩ (c_X5_takeNumber 0 4 (sx (kY5 T st)) bs110 ps110 (fun _ _ => ⟨⟨by omega, by omega⟩, ⟨by omega, by omega⟩⟩)) rfl rfl ⟨Nat.le_of_ble_eq_true rfl, Nat.le_of_ble_eq_true rfl⟩ (Nat.le_of_ble_eq_true rfl) ⟨Nat.le_of_ble_eq_true rfl, Nat.le_of_ble_eq_true rfl⟩ ?_
    rintro z127 m127 h127
    obtain ⟨f127, p127, v127⟩ := h127
    have b127 := bs110.fr f127 rfl rfl
    have k127 : kp T st (sx (pb (sx (kY5 T st)) (num T 0 4))) := kp_num k110
    have k127 : kp T st (sx (kY6 T st)) := k127
    have p127 : PCx T 4 m127 (sx (kY6 T st)) := p127
    have v127 : ∀ v s, kY6 T st = .inr (v, s) → z127 = v := v127
    clear hP hD
    have hP := b127.1.2
    have hD := b127.2.2.2.2
    refine R_iast ((sL st).1 1).toNat 131 rfl dX5_takeClerk_130 rfl (by first | rfl | omega) (by omega) (by decide) ?_
    refine R_aload_n 132 rfl dX5_takeClerk_131 rfl ?_
    refine R_getP 1 135 rfl dX5_takeClerk_132 rfl rfl fl_X5_15 hD ?_
    refine R_iload_n 136 rfl dX5_takeClerk_135 rfl ?_
    refine R_iconst 137 rfl dX5_takeClerk_136 ?_
    refine R_iadd 138 rfl dX5_takeClerk_137 ?_
    refine R_putI 1 141 rfl dX5_takeClerk_138 rfl rfl fl_X5_114 ?_
    refine R_return dX5_takeClerk_141 rfl ?_
    have ff : Fr (isRD 4) m m127 := (((((((((f21.wk w3).tr (f45.wk w3)).set rfl).tr (f63.wk w3)).set rfl).tr (f91.wk w3)).set rfl).tr (f110.wk w3)).set rfl).tr (f127.wk w3)
    refine QV_mk ⟨(ff.set rfl).set rfl, ?_⟩
    cases h5 : sx (kY6 T st) with
    | inl e =>
      rw [clk_l hn h5]
      rw [h5] at p127
      exact p127.ld (fun k => by simp [setI]) (fun s q => by cases q)
    | inr s =>
      obtain ⟨q1, q2, q3, q4, q5, s2, s3, s4, s5, y2, y3, y4, y5, y6, yp⟩ := clk_r hn h5
      rw [yp]
      rw [h5] at p127
      have kk := k127 s h5
      have es : sL s = sL st := by unfold sL; rw [kk.1]
      obtain ⟨a1, a2, a3, a4, a5, a6, a7, a8, a9⟩ := p127
      refine ⟨by simp [setI]; exact a1, by simp [setI]; exact a2, by simp [setI]; exact a3, fun w => by simp [setI]; exact a4 w, by simp [setI]; exact a5, by simp [setI]; exact a6, a7, ?_, ?_⟩
      · refine LdC.addK a8 (Or.inl rfl) (by rw [es]; exact b2) (by rw [es]; simp [setI]) (fun k k1 k2 => by simp only [setI]; rw [if_neg (by omega), if_neg (by omega)]) (fun k => by simp [setI]) (fun r k hr => by simp only [setI]; rw [if_neg (by omega), if_neg (by omega)]) (fun r p hr hp => by rw [es] at hp; simp only [setI]; rw [if_neg (by omega), if_neg (by omega)]) ?_ ?_ ?_ ?_ ?_
        · rw [es]; simp only [setI]; rw [if_neg (by omega), if_neg (by omega), f127.1 _ _ rfl]; simp only [setI]; rw [if_neg (by omega), f110.1 _ _ rfl]; simp only [setI]; rw [if_neg (by omega), f91.1 _ _ rfl]; simp only [setI]; rw [if_neg (by omega), f63.1 _ _ rfl]; simp only [setI]; rw [if_pos ⟨trivial, trivial⟩]; exact v45 _ _ y2
        · rw [es]; simp only [setI]; rw [if_neg (by omega), if_neg (by omega), f127.1 _ _ rfl]; simp only [setI]; rw [if_neg (by omega), f110.1 _ _ rfl]; simp only [setI]; rw [if_neg (by omega), f91.1 _ _ rfl]; simp only [setI]; rw [if_pos ⟨trivial, trivial⟩]; exact v63 _ _ y3
        · rw [es]; simp only [setI]; rw [if_neg (by omega), if_neg (by omega), f127.1 _ _ rfl]; simp only [setI]; rw [if_neg (by omega), f110.1 _ _ rfl]; simp only [setI]; rw [if_pos ⟨trivial, trivial⟩]; exact v91 _ _ y4
        · rw [es]; simp only [setI]; rw [if_neg (by omega), if_neg (by omega), f127.1 _ _ rfl]; simp only [setI]; rw [if_pos ⟨trivial, trivial⟩]; exact v110 _ _ y5
        · rw [es]; simp only [setI]; rw [if_neg (by omega), if_pos ⟨trivial, trivial⟩]; exact v127 _ _ y6
      · show LdB (addK (sL s) q1 q2 q3 q4 q5)
        rw [es]
        exact ⟨b0, b1, by show 0 ≤ (sL st).1 1 + 1; omega, by show (sL st).1 1 + 1 ≤ 8; omega⟩
  · refine R_aload_n 15 rfl dX5_takeClerk_14 rfl ?_
    refine R_iconst 16 rfl dX5_takeClerk_15 ?_
    refine R_callV_V (M' := mX5_refuse) 19 rfl dX5_takeClerk_16 ml_X5_93 kmX5_refuse im_X5_refuse se_X5_refuse rfl ⟨by decide, rfl⟩ (c_X5_refuse 5 _ hx0 (by omega)) rfl rfl ⟨Nat.le_of_ble_eq_true rfl, Nat.le_of_ble_eq_true rfl⟩ (Nat.le_of_ble_eq_true rfl) ⟨Nat.le_of_ble_eq_true rfl, Nat.le_of_ble_eq_true rfl⟩ ?_
    rintro m16 h16
    obtain ⟨f16, p16⟩ := h16
    refine R_return dX5_takeClerk_19 rfl ?_
    have e : clerkT T st = .inl (5, st.2.1) := if_pos (by omega)
    rw [e]
    exact QV_mk ⟨f16.wk w3, p16⟩
theorem c_X5_takeClerk17 (st : St) (hb : PCb o 17 T m) (hx : PCa T 17 m st) : C Γ mX5_takeClerk 6 240 0 0 [vr 3] SH m (QV SH (fun m' => Fr (isRD 17) m m' ∧ PCx T 17 m' (clerkT T st))) := by
  refine C_of_R rfl (Nat.le_of_ble_eq_true rfl) ?_
  have hx0 : PCx T 17 m (.inr st) := hx
  obtain ⟨g2, g3, g4, g5, g6, g7, v, hL, hB⟩ := hx
  have l0 : m.1 17 0 = (sL st).1 0 := hL.u.1 0 (by omega)
  have l1 : m.1 17 1 = (sL st).1 1 := hL.u.1 1 (by omega)
  have b0 := hB.1
  have b1 := hB.2.1
  have b2 := hB.2.2.1
  have b3 := hB.2.2.2
  have hP := hb.1.2
  have hD := hb.2.2.2.2
  have w3 : ∀ a, isRD 17 a = false → is3 a = false := fun a h => by simp [isRD] at h; simp [is3]; omega
  have nl : ∀ s : St, s.2.2.2 = st.2.2.2 → ¬ ((((sL st).1 1).toNat : Nat) : Int) < (sL s).1 1 := fun s h => by unfold sL at *; rw [h]; omega
  refine R_aload_n 1 rfl dX5_takeClerk_0 rfl ?_
  refine R_getP 1 4 rfl dX5_takeClerk_1 rfl rfl fl_X5_15 hD ?_
  refine R_getI 1 7 rfl dX5_takeClerk_4 rfl rfl fl_X5_114 ?_
  rw [l1]
  refine R_istore_n [_, _] 8 rfl dX5_takeClerk_7 rfl (by decide) ?_
  refine R_iload_n 9 rfl dX5_takeClerk_8 rfl ?_
  refine R_bipush 11 rfl dX5_takeClerk_9 (by decide) ?_
  refine R_icmp_lt 14 20 rfl rfl dX5_takeClerk_11 (by first | assumption | exact ⟨by omega, by omega⟩) (by first | assumption | exact ⟨by omega, by omega⟩) (fun h11 => ?_) (fun h11 => ?_)
  · have hn : ¬ 8 ≤ (sL st).1 1 := by omega
    refine R_aload_n 21 rfl dX5_takeClerk_20 rfl ?_
    refine R_callV_V (M' := mX5_advance) 24 rfl dX5_takeClerk_21 ml_X5_37 kmX5_advance im_X5_advance se_X5_advance rfl ⟨by decide, rfl⟩ (c_X5_advance st hb g2 g6 g7 v.2.1 v.2.2.2.2.1 hL hB) rfl rfl ⟨Nat.le_of_ble_eq_true rfl, Nat.le_of_ble_eq_true rfl⟩ (Nat.le_of_ble_eq_true rfl) ⟨Nat.le_of_ble_eq_true rfl, Nat.le_of_ble_eq_true rfl⟩ ?_
    rintro m21 h21
    obtain ⟨f21, p21⟩ := h21
    have b21 := hb.fr f21 rfl rfl
    have k21 := adv_kp (T := T) (st := st) (s := st) v rfl (Nat.le_refl _)
    have l21 : m21.1 17 0 = (sL st).1 0 := by rw [f21.1 _ _ rfl]; exact l0
    clear hP hD
    have hP := b21.1.2
    have hD := b21.2.2.2.2
    refine R_aload_n 25 rfl dX5_takeClerk_24 rfl ?_
    refine R_getP 1 28 rfl dX5_takeClerk_25 rfl rfl fl_X5_15 hD ?_
    refine R_getP 9 31 rfl dX5_takeClerk_28 rfl rfl fl_X5_117 (hP _ _ _ rfl) ?_
    refine R_iconst 32 rfl dX5_takeClerk_31 ?_
    refine R_aald 0 33 rfl dX5_takeClerk_32 rfl rfl (by first | rfl | omega) (by decide) (by decide) (hP _ _ _ rfl) ?_
    refine R_iload_n 34 rfl dX5_takeClerk_33 rfl ?_
    refine R_aload_n 35 rfl dX5_takeClerk_34 rfl ?_
    refine R_iconst 36 rfl dX5_takeClerk_35 ?_
    refine R_aload_n 37 rfl dX5_takeClerk_36 rfl ?_
    refine R_getP 1 40 rfl dX5_takeClerk_37 rfl rfl fl_X5_15 hD ?_
    refine R_getI 0 43 rfl dX5_takeClerk_40 rfl rfl fl_X5_99 ?_
    rw [l21]
    refine R_iconst 44 rfl dX5_takeClerk_43 ?_
    refine R_isub 45 rfl dX5_takeClerk_44 ?_
    refine R_callV_I (M' := mX5_takeNumber) 48 rfl dX5_takeClerk_45 ml_X5_71 kmX5_takeNumber im_X5_takeNumber se_X5_takeNumber rfl ⟨by decide, rfl⟩ (c_X5_takeNumber 0 ((sL st).1 0 - 1) (adv T st) b21 p21 (fun _ _ => ⟨⟨by omega, by omega⟩, ⟨by omega, by omega⟩⟩)) rfl rfl ⟨Nat.le_of_ble_eq_true rfl, Nat.le_of_ble_eq_true rfl⟩ (Nat.le_of_ble_eq_true rfl) ⟨Nat.le_of_ble_eq_true rfl, Nat.le_of_ble_eq_true rfl⟩ ?_
    rintro z45 m45 h45
    obtain ⟨f45, p45, v45⟩ := h45
    have b45 := b21.fr f45 rfl rfl
    have k45 : kp T st (sx (pb (adv T st) (num T 0 ((sL st).1 0 - 1)))) := kp_num k21
    have k45 : kp T st (sx (kY2 T st)) := k45
    have p45 : PCx T 17 m45 (sx (kY2 T st)) := p45
    have v45 : ∀ v s, kY2 T st = .inr (v, s) → z45 = v := v45
    have bs45 : PCb o 17 T (setI m45 25 ((sL st).1 1).toNat z45) := b45.fr (P := fun a => decide (a = 25)) (Fr.rf.set rfl) rfl rfl
    have ps45 : PCx T 17 (setI m45 25 ((sL st).1 1).toNat z45) (sx (kY2 T st)) := PCx.ld p45 (fun k => by simp [setI]) (fun s hs hl => LdC.wk (r := 0) hl (Or.inr rfl) (by decide) (nl s (k45 s hs).1))
    clear hP hD
    have hP := b45.1.2
    have hD := b45.2.2.2.2
    refine R_iast ((sL st).1 1).toNat 49 rfl dX5_takeClerk_48 rfl (by first | rfl | omega) (by omega) (by decide) ?_
    refine R_aload_n 50 rfl dX5_takeClerk_49 rfl ?_
    refine R_getP 1 53 rfl dX5_takeClerk_50 rfl rfl fl_X5_15 hD ?_
    refine R_getP 9 56 rfl dX5_takeClerk_53 rfl rfl fl_X5_117 (hP _ _ _ rfl) ?_
    refine R_iconst 57 rfl dX5_takeClerk_56 ?_
    refine R_aald 1 58 rfl dX5_takeClerk_57 rfl rfl (by first | rfl | omega) (by decide) (by decide) (hP _ _ _ rfl) ?_
    refine R_iload_n 59 rfl dX5_takeClerk_58 rfl ?_
    refine R_aload_n 60 rfl dX5_takeClerk_59 rfl ?_
    refine R_iconst 61 rfl dX5_takeClerk_60 ?_
    refine R_bipush 63 rfl dX5_takeClerk_61 (by decide) ?_
    refine R_callV_I (M' := mX5_takeNumber) 66 rfl dX5_takeClerk_63 ml_X5_71 kmX5_takeNumber im_X5_takeNumber se_X5_takeNumber rfl ⟨by decide, rfl⟩ (c_X5_takeNumber 0 89 (sx (kY2 T st)) bs45 ps45 (fun _ _ => ⟨⟨by omega, by omega⟩, ⟨by omega, by omega⟩⟩)) rfl rfl ⟨Nat.le_of_ble_eq_true rfl, Nat.le_of_ble_eq_true rfl⟩ (Nat.le_of_ble_eq_true rfl) ⟨Nat.le_of_ble_eq_true rfl, Nat.le_of_ble_eq_true rfl⟩ ?_
    rintro z63 m63 h63
    obtain ⟨f63, p63, v63⟩ := h63
    have b63 := bs45.fr f63 rfl rfl
    have k63 : kp T st (sx (pb (sx (kY2 T st)) (num T 0 89))) := kp_num k45
    have k63 : kp T st (sx (kY3 T st)) := k63
    have p63 : PCx T 17 m63 (sx (kY3 T st)) := p63
    have v63 : ∀ v s, kY3 T st = .inr (v, s) → z63 = v := v63
    have bs63 : PCb o 17 T (setI m63 26 ((sL st).1 1).toNat z63) := b63.fr (P := fun a => decide (a = 26)) (Fr.rf.set rfl) rfl rfl
    have ps63 : PCx T 17 (setI m63 26 ((sL st).1 1).toNat z63) (sx (kY3 T st)) := PCx.ld p63 (fun k => by simp [setI]) (fun s hs hl => LdC.wk (r := 1) hl (Or.inr rfl) (by decide) (nl s (k63 s hs).1))
    clear hP hD
    have hP := b63.1.2
    have hD := b63.2.2.2.2
    refine R_iast ((sL st).1 1).toNat 67 rfl dX5_takeClerk_66 rfl (by first | rfl | omega) (by omega) (by decide) ?_
    refine R_aload_n 68 rfl dX5_takeClerk_67 rfl ?_
    refine R_getP 1 71 rfl dX5_takeClerk_68 rfl rfl fl_X5_15 hD ?_
    refine R_getP 9 74 rfl dX5_takeClerk_71 rfl rfl fl_X5_117 (hP _ _ _ rfl) ?_
    refine R_iconst 75 rfl dX5_takeClerk_74 ?_
    refine R_aald 2 76 rfl dX5_takeClerk_75 rfl rfl (by first | rfl | omega) (by decide) (by decide) (hP _ _ _ rfl) ?_
    refine R_iload_n 77 rfl dX5_takeClerk_76 rfl ?_
    refine R_aload_n 78 rfl dX5_takeClerk_77 rfl ?_
    refine R_aload_n 79 rfl dX5_takeClerk_78 rfl ?_
    refine R_getP 1 82 rfl dX5_takeClerk_79 rfl rfl fl_X5_15 hD ?_
    refine R_getP 9 85 rfl dX5_takeClerk_82 rfl rfl fl_X5_117 (hP _ _ _ rfl) ?_
    refine R_iconst 86 rfl dX5_takeClerk_85 ?_
    refine R_aald 1 87 rfl dX5_takeClerk_86 rfl rfl (by first | rfl | omega) (by decide) (by decide) (hP _ _ _ rfl) ?_
    refine R_iload_n 88 rfl dX5_takeClerk_87 rfl ?_
    refine R_iald ((sL st).1 1).toNat 89 rfl dX5_takeClerk_88 rfl (by first | rfl | omega) (by omega) (by decide) ?_
    refine R_top (b := z63) (by simp [setI]) ?_
    refine R_bipush 91 rfl dX5_takeClerk_89 (by decide) ?_
    refine R_callV_I (M' := mX5_takeNumber) 94 rfl dX5_takeClerk_91 ml_X5_71 kmX5_takeNumber im_X5_takeNumber se_X5_takeNumber rfl ⟨by decide, rfl⟩ (c_X5_takeNumber z63 89 (sx (kY3 T st)) bs63 ps63 (fun s hs => by obtain ⟨vv, hv⟩ := sx_inv hs; have e1 := v63 _ _ hv; have e2 := num_rg hv; exact ⟨⟨by omega, by omega⟩, ⟨by omega, by omega⟩⟩)) rfl rfl ⟨Nat.le_of_ble_eq_true rfl, Nat.le_of_ble_eq_true rfl⟩ (Nat.le_of_ble_eq_true rfl) ⟨Nat.le_of_ble_eq_true rfl, Nat.le_of_ble_eq_true rfl⟩ ?_
    rintro z91 m91 h91
    obtain ⟨f91, p91, v91⟩ := h91
    have b91 := bs63.fr f91 rfl rfl
    have k91 : kp T st (sx (pb (sx (kY3 T st)) (num T z63 89))) := kp_num k63
    rw [numz v63] at p91 v91 k91
    have k91 : kp T st (sx (kY4 T st)) := k91
    have p91 : PCx T 17 m91 (sx (kY4 T st)) := p91
    have v91 : ∀ v s, kY4 T st = .inr (v, s) → z91 = v := v91
    have bs91 : PCb o 17 T (setI m91 27 ((sL st).1 1).toNat z91) := b91.fr (P := fun a => decide (a = 27)) (Fr.rf.set rfl) rfl rfl
    have ps91 : PCx T 17 (setI m91 27 ((sL st).1 1).toNat z91) (sx (kY4 T st)) := PCx.ld p91 (fun k => by simp [setI]) (fun s hs hl => LdC.wk (r := 2) hl (Or.inr rfl) (by decide) (nl s (k91 s hs).1))
    clear hP hD
    have hP := b91.1.2
    have hD := b91.2.2.2.2
    refine R_iast ((sL st).1 1).toNat 95 rfl dX5_takeClerk_94 rfl (by first | rfl | omega) (by omega) (by decide) ?_
    refine R_aload_n 96 rfl dX5_takeClerk_95 rfl ?_
    refine R_getP 1 99 rfl dX5_takeClerk_96 rfl rfl fl_X5_15 hD ?_
    refine R_getP 9 102 rfl dX5_takeClerk_99 rfl rfl fl_X5_117 (hP _ _ _ rfl) ?_
    refine R_iconst 103 rfl dX5_takeClerk_102 ?_
    refine R_aald 3 104 rfl dX5_takeClerk_103 rfl rfl (by first | rfl | omega) (by decide) (by decide) (hP _ _ _ rfl) ?_
    refine R_iload_n 105 rfl dX5_takeClerk_104 rfl ?_
    refine R_aload_n 106 rfl dX5_takeClerk_105 rfl ?_
    refine R_iconst 107 rfl dX5_takeClerk_106 ?_
    refine R_sipush 110 rfl dX5_takeClerk_107 (by decide) ?_
    refine R_callV_I (M' := mX5_takeNumber) 113 rfl dX5_takeClerk_110 ml_X5_71 kmX5_takeNumber im_X5_takeNumber se_X5_takeNumber rfl ⟨by decide, rfl⟩ (c_X5_takeNumber 0 255 (sx (kY4 T st)) bs91 ps91 (fun _ _ => ⟨⟨by omega, by omega⟩, ⟨by omega, by omega⟩⟩)) rfl rfl ⟨Nat.le_of_ble_eq_true rfl, Nat.le_of_ble_eq_true rfl⟩ (Nat.le_of_ble_eq_true rfl) ⟨Nat.le_of_ble_eq_true rfl, Nat.le_of_ble_eq_true rfl⟩ ?_
    rintro z110 m110 h110
    obtain ⟨f110, p110, v110⟩ := h110
    have b110 := bs91.fr f110 rfl rfl
    have k110 : kp T st (sx (pb (sx (kY4 T st)) (num T 0 255))) := kp_num k91
    have k110 : kp T st (sx (kY5 T st)) := k110
    have p110 : PCx T 17 m110 (sx (kY5 T st)) := p110
    have v110 : ∀ v s, kY5 T st = .inr (v, s) → z110 = v := v110
    have bs110 : PCb o 17 T (setI m110 28 ((sL st).1 1).toNat z110) := b110.fr (P := fun a => decide (a = 28)) (Fr.rf.set rfl) rfl rfl
    have ps110 : PCx T 17 (setI m110 28 ((sL st).1 1).toNat z110) (sx (kY5 T st)) := PCx.ld p110 (fun k => by simp [setI]) (fun s hs hl => LdC.wk (r := 3) hl (Or.inr rfl) (by decide) (nl s (k110 s hs).1))
    clear hP hD
    have hP := b110.1.2
    have hD := b110.2.2.2.2
    refine R_iast ((sL st).1 1).toNat 114 rfl dX5_takeClerk_113 rfl (by first | rfl | omega) (by omega) (by decide) ?_
    refine R_aload_n 115 rfl dX5_takeClerk_114 rfl ?_
    refine R_getP 1 118 rfl dX5_takeClerk_115 rfl rfl fl_X5_15 hD ?_
    refine R_getP 9 121 rfl dX5_takeClerk_118 rfl rfl fl_X5_117 (hP _ _ _ rfl) ?_
    refine R_iconst 122 rfl dX5_takeClerk_121 ?_
    refine R_aald 4 123 rfl dX5_takeClerk_122 rfl rfl (by first | rfl | omega) (by decide) (by decide) (hP _ _ _ rfl) ?_
    refine R_iload_n 124 rfl dX5_takeClerk_123 rfl ?_
    refine R_aload_n 125 rfl dX5_takeClerk_124 rfl ?_
    refine R_iconst 126 rfl dX5_takeClerk_125 ?_
    refine R_iconst 127 rfl dX5_takeClerk_126 ?_
    refine R_callV_I (M' := mX5_takeNumber) 130 rfl dX5_takeClerk_127 ml_X5_71 kmX5_takeNumber im_X5_takeNumber se_X5_takeNumber rfl ⟨by decide, rfl⟩ (c_X5_takeNumber 0 4 (sx (kY5 T st)) bs110 ps110 (fun _ _ => ⟨⟨by omega, by omega⟩, ⟨by omega, by omega⟩⟩)) rfl rfl ⟨Nat.le_of_ble_eq_true rfl, Nat.le_of_ble_eq_true rfl⟩ (Nat.le_of_ble_eq_true rfl) ⟨Nat.le_of_ble_eq_true rfl, Nat.le_of_ble_eq_true rfl⟩ ?_
    rintro z127 m127 h127
    obtain ⟨f127, p127, v127⟩ := h127
    have b127 := bs110.fr f127 rfl rfl
    have k127 : kp T st (sx (pb (sx (kY5 T st)) (num T 0 4))) := kp_num k110
    have k127 : kp T st (sx (kY6 T st)) := k127
    have p127 : PCx T 17 m127 (sx (kY6 T st)) := p127
    have v127 : ∀ v s, kY6 T st = .inr (v, s) → z127 = v := v127
    clear hP hD
    have hP := b127.1.2
    have hD := b127.2.2.2.2
    refine R_iast ((sL st).1 1).toNat 131 rfl dX5_takeClerk_130 rfl (by first | rfl | omega) (by omega) (by decide) ?_
    refine R_aload_n 132 rfl dX5_takeClerk_131 rfl ?_
    refine R_getP 1 135 rfl dX5_takeClerk_132 rfl rfl fl_X5_15 hD ?_
    refine R_iload_n 136 rfl dX5_takeClerk_135 rfl ?_
    refine R_iconst 137 rfl dX5_takeClerk_136 ?_
    refine R_iadd 138 rfl dX5_takeClerk_137 ?_
    refine R_putI 1 141 rfl dX5_takeClerk_138 rfl rfl fl_X5_114 ?_
    refine R_return dX5_takeClerk_141 rfl ?_
    have ff : Fr (isRD 17) m m127 := (((((((((f21.wk w3).tr (f45.wk w3)).set rfl).tr (f63.wk w3)).set rfl).tr (f91.wk w3)).set rfl).tr (f110.wk w3)).set rfl).tr (f127.wk w3)
    refine QV_mk ⟨(ff.set rfl).set rfl, ?_⟩
    cases h5 : sx (kY6 T st) with
    | inl e =>
      rw [clk_l hn h5]
      rw [h5] at p127
      exact p127.ld (fun k => by simp [setI]) (fun s q => by cases q)
    | inr s =>
      obtain ⟨q1, q2, q3, q4, q5, s2, s3, s4, s5, y2, y3, y4, y5, y6, yp⟩ := clk_r hn h5
      rw [yp]
      rw [h5] at p127
      have kk := k127 s h5
      have es : sL s = sL st := by unfold sL; rw [kk.1]
      obtain ⟨a1, a2, a3, a4, a5, a6, a7, a8, a9⟩ := p127
      refine ⟨by simp [setI]; exact a1, by simp [setI]; exact a2, by simp [setI]; exact a3, fun w => by simp [setI]; exact a4 w, by simp [setI]; exact a5, by simp [setI]; exact a6, a7, ?_, ?_⟩
      · refine LdC.addK a8 (Or.inr rfl) (by rw [es]; exact b2) (by rw [es]; simp [setI]) (fun k k1 k2 => by simp only [setI]; rw [if_neg (by omega), if_neg (by omega)]) (fun k => by simp [setI]) (fun r k hr => by simp only [setI]; rw [if_neg (by omega), if_neg (by omega)]) (fun r p hr hp => by rw [es] at hp; simp only [setI]; rw [if_neg (by omega), if_neg (by omega)]) ?_ ?_ ?_ ?_ ?_
        · rw [es]; simp only [setI]; rw [if_neg (by omega), if_neg (by omega), f127.1 _ _ rfl]; simp only [setI]; rw [if_neg (by omega), f110.1 _ _ rfl]; simp only [setI]; rw [if_neg (by omega), f91.1 _ _ rfl]; simp only [setI]; rw [if_neg (by omega), f63.1 _ _ rfl]; simp only [setI]; rw [if_pos ⟨trivial, trivial⟩]; exact v45 _ _ y2
        · rw [es]; simp only [setI]; rw [if_neg (by omega), if_neg (by omega), f127.1 _ _ rfl]; simp only [setI]; rw [if_neg (by omega), f110.1 _ _ rfl]; simp only [setI]; rw [if_neg (by omega), f91.1 _ _ rfl]; simp only [setI]; rw [if_pos ⟨trivial, trivial⟩]; exact v63 _ _ y3
        · rw [es]; simp only [setI]; rw [if_neg (by omega), if_neg (by omega), f127.1 _ _ rfl]; simp only [setI]; rw [if_neg (by omega), f110.1 _ _ rfl]; simp only [setI]; rw [if_pos ⟨trivial, trivial⟩]; exact v91 _ _ y4
        · rw [es]; simp only [setI]; rw [if_neg (by omega), if_neg (by omega), f127.1 _ _ rfl]; simp only [setI]; rw [if_pos ⟨trivial, trivial⟩]; exact v110 _ _ y5
        · rw [es]; simp only [setI]; rw [if_neg (by omega), if_pos ⟨trivial, trivial⟩]; exact v127 _ _ y6
      · show LdB (addK (sL s) q1 q2 q3 q4 q5)
        rw [es]
        exact ⟨b0, b1, by show 0 ≤ (sL st).1 1 + 1; omega, by show (sL st).1 1 + 1 ≤ 8; omega⟩
  · refine R_aload_n 15 rfl dX5_takeClerk_14 rfl ?_
    refine R_iconst 16 rfl dX5_takeClerk_15 ?_
    refine R_callV_V (M' := mX5_refuse) 19 rfl dX5_takeClerk_16 ml_X5_93 kmX5_refuse im_X5_refuse se_X5_refuse rfl ⟨by decide, rfl⟩ (c_X5_refuse 5 _ hx0 (by omega)) rfl rfl ⟨Nat.le_of_ble_eq_true rfl, Nat.le_of_ble_eq_true rfl⟩ (Nat.le_of_ble_eq_true rfl) ⟨Nat.le_of_ble_eq_true rfl, Nat.le_of_ble_eq_true rfl⟩ ?_
    rintro m16 h16
    obtain ⟨f16, p16⟩ := h16
    refine R_return dX5_takeClerk_19 rfl ?_
    have e : clerkT T st = .inl (5, st.2.1) := if_pos (by omega)
    rw [e]
    exact QV_mk ⟨f16.wk w3, p16⟩
end
