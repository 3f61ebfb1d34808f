def isRD (d a : Nat) : Bool := decide (a = 3 ∨ d ≤ a ∧ a ≤ d + 12)
section
variable {Γ : GX} {m m' : Mem} {T : Tp} {o d : Nat} {P : Nat → Bool} {x : PX St} {L : Ld}
theorem LdC.addP {a t mi sc : Int} (h : LdC d m L) (hd : d = 4 ∨ d = 17) (h0 : 0 ≤ L.1 0) (e0 : m'.1 d 0 = L.1 0 + 1) (e1 : ∀ k, 1 ≤ k → k < 7 → m'.1 d k = m.1 d k) (e2 : ∀ k, m'.1 (d + 1) k = m.1 (d + 1) k) (e3 : ∀ r p, r < 4 → p ≠ (L.1 0).toNat → m'.1 (d + 3 + r) p = m.1 (d + 3 + r) p) (e4 : ∀ r k, r < 5 → m'.1 (d + 8 + r) k = m.1 (d + 8 + r) k) (v0 : m'.1 (d + 3 + 0) (L.1 0).toNat = a) (v1 : m'.1 (d + 3 + 1) (L.1 0).toNat = t) (v2 : m'.1 (d + 3 + 2) (L.1 0).toNat = mi) (v3 : m'.1 (d + 3 + 3) (L.1 0).toNat = sc) : LdC d m' (addP L a t mi sc) := by
  obtain ⟨c1, c2, c3, c4⟩ := h.u
  refine LdU.c ⟨fun k hk => ?_, fun k hk => ?_, fun r hr p hp => ?_, fun r hr k hk => ?_⟩ hd
  · show m'.1 d k = (if k = 0 then L.1 0 + 1 else L.1 k)
    by_cases q : k = 0
    · rw [if_pos q, q]; exact e0
    · rw [if_neg q, e1 k (by omega) hk]; exact c1 k hk
  · show m'.1 (d + 1) k = (if 7 + k = 0 then L.1 0 + 1 else L.1 (7 + k))
    rw [if_neg (by omega), e2]; exact c2 k hk
  · have hp2 : (p : Int) < L.1 0 + 1 := hp
    show m'.1 (d + 3 + r) p = (if p = (L.1 0).toNat then (if r = 0 then a else if r = 1 then t else if r = 2 then mi else sc) else L.2.1 r p)
    by_cases q : p = (L.1 0).toNat
    · rw [if_pos q, q]
      rcases (show r = 0 ∨ r = 1 ∨ r = 2 ∨ r = 3 by omega) with rfl | rfl | rfl | rfl
      · exact v0
      · exact v1
      · exact v2
      · exact v3
    · rw [if_neg q, e3 r p hr q]; exact c3 r hr p (by omega)
  · show m'.1 (d + 8 + r) k = L.2.2 r k
    rw [e4 r k hr]; exact c4 r hr k hk
set_option maxHeartbeats 1000000 in
theorem c_X5_takeParish4 (st : St) (hΓ : GOk Γ) (hb : PCb o 4 T m) (hx : PCa T 4 m st) : C Γ mX5_takeParish 6 240 0 0 [vr 3] SH m (QV SH (fun m' => Fr (isRD 4) m m' ∧ PCx T 4 m' (parishT T st))) := by
  refine C_of_R rfl (Nat.le_of_ble_eq_true rfl) ?_
  have hx0 : PCx T 4 m (.inr st) := hx
  obtain ⟨g2, g3, g4, g5, g6, g7, v, hL, hB⟩ := hx
  have l0 : m.1 4 0 = (sL st).1 0 := hL.u.1 0 (by omega)
  have b0 := hB.1
  have b1 := hB.2.1
  have hP := hb.1.2
  have hD := hb.2.2.2.2
  have w3 : ∀ a, isRD 4 a = false → is3 a = false := fun a h => by simp [isRD] at h; simp [is3]; omega
  have nl : ∀ s : St, s.2.2.2 = st.2.2.2 → ¬ ((((sL st).1 0).toNat : Nat) : Int) < (sL s).1 0 := fun s h => by unfold sL at *; rw [h]; omega
  have L100 : ¬ 12 ≤ (sL st).1 0 → ∀ mm, Fr (isRD 4) m mm → PCb o 4 T mm → PCx T 4 mm (sx (pY4 T st)) → kp T st (sx (pY4 T st)) → (∀ q s, pY2 T st = .inr (q, s) → mm.1 7 ((sL st).1 0).toNat = q) → (∀ q s, pY3 T st = .inr (q, s) → mm.1 8 ((sL st).1 0).toNat = q) → (∀ q s, pY4 T st = .inr (q, s) → mm.1 9 ((sL st).1 0).toNat = q) → R Γ mX5_takeParish { frames := 6, cells := 0, slots := 0, locals := 240 } 0 0 (QV SH (fun m' => Fr (isRD 4) m m' ∧ PCx T 4 m' (parishT T st))) 0 0 100 [some (vr 3), some (vi ((sL st).1 0))] [] SH mm := by
    intro hn mm fm bm pm km c7 c8 c9
    clear hP hD
    have hP := bm.1.2
    have hD := bm.2.2.2.2
    have fin : ∀ m2 z, Fr is3 mm m2 → PCx T 4 m2 (sx (pY5 T st)) → (∀ q s, pY5 T st = .inr (q, s) → z = q) → Fr (isRD 4) m (setI (setI m2 10 ((sL st).1 0).toNat z) 4 0 ((sL st).1 0 + 1)) ∧ PCx T 4 (setI (setI m2 10 ((sL st).1 0).toNat z) 4 0 ((sL st).1 0 + 1)) (parishT T st) := by
      intro m2 z f2 p2 hz
      refine ⟨((fm.tr (f2.wk w3)).set rfl).set rfl, ?_⟩
      cases h5 : sx (pY5 T st) with
      | inl e =>
        rw [par_l hn h5]
        rw [h5] at p2
        exact p2.ld (fun k => by simp [setI]) (fun s q => by cases q)
      | inr s =>
        obtain ⟨q1, q2, q3, q4, s2, s3, s4, y2, y3, y4, y5, yp⟩ := par_r hn h5
        rw [yp]
        rw [h5] at p2
        have kk := kp_yr (i := 9) km s h5
        have es : sL s = sL st := by unfold sL; rw [kk.1]
        obtain ⟨a1, a2, a3, a4, a5, a6, a7, a8, a9⟩ := p2
        refine ⟨by simp [setI]; exact a1, by simp [setI]; exact a2, by simp [setI]; exact a3, fun w => by simp [setI]; exact a4 w, by simp [setI]; exact a5, by simp [setI]; exact a6, a7, ?_, ?_⟩
        · refine LdC.addP a8 (Or.inl rfl) (by rw [es]; exact b0) (by rw [es]; simp [setI]) (fun k k1 k2 => by simp only [setI]; rw [if_neg (by omega), if_neg (by omega)]) (fun k => by simp [setI]) (fun r p hr hp => by rw [es] at hp; simp only [setI]; rw [if_neg (by omega), if_neg (by omega)]) (fun r k hr => by simp only [setI]; rw [if_neg (by omega), if_neg (by omega)]) ?_ ?_ ?_ ?_
          · rw [es]; simp only [setI]; rw [if_neg (by omega), if_neg (by omega), f2.1 _ _ rfl]; exact c7 _ _ y2
          · rw [es]; simp only [setI]; rw [if_neg (by omega), if_neg (by omega), f2.1 _ _ rfl]; exact c8 _ _ y3
          · rw [es]; simp only [setI]; rw [if_neg (by omega), if_neg (by omega), f2.1 _ _ rfl]; exact c9 _ _ y4
          · rw [es]; simp only [setI]; rw [if_neg (by omega), if_pos ⟨trivial, trivial⟩]; exact hz _ _ y5
        · show LdB (addP (sL s) q1 q2 q3 q4)
          have b9 := hB.2.2
          rw [es]
          exact ⟨by show 0 ≤ (sL st).1 0 + 1; omega, by show (sL st).1 0 + 1 ≤ 12; omega, b9.1, b9.2⟩
    refine R_aload_n 101 rfl dX5_takeParish_100 rfl ?_
    refine R_getP 1 104 rfl dX5_takeParish_101 rfl rfl fl_X5_15 hD ?_
    refine R_getP 8 107 rfl dX5_takeParish_104 rfl rfl fl_X5_102 (hP _ _ _ rfl) ?_
    refine R_iconst 108 rfl dX5_takeParish_107 ?_
    refine R_aald 3 109 rfl dX5_takeParish_108 rfl rfl (by first | rfl | omega) (by decide) (by decide) (hP _ _ _ rfl) ?_
    refine R_iload_n 110 rfl dX5_takeParish_109 rfl ?_
    refine R_aload_n 111 rfl dX5_takeParish_110 rfl ?_
    refine R_ldcS 9 113 rfl dX5_takeParish_111 rfl (by decide) ?_
    refine R_callV_I (M' := mX5_takeWord) 116 rfl dX5_takeParish_113 ml_X5_107 kmX5_takeWord im_X5_takeWord se_X5_takeWord rfl ⟨by decide, rfl⟩ (c_X5_takeWord 9 (sx (pY4 T st)) hΓ (by decide) bm pm) rfl rfl ⟨Nat.le_of_ble_eq_true rfl, Nat.le_of_ble_eq_true rfl⟩ (Nat.le_of_ble_eq_true rfl) ⟨Nat.le_of_ble_eq_true rfl, Nat.le_of_ble_eq_true rfl⟩ ?_
    rintro z113 m113 h113
    obtain ⟨rfl, f113, p113⟩ := h113
    have b113 := bm.fr f113 rfl rfl
    clear hP hD
    have hP := b113.1.2
    have hD := b113.2.2.2.2
    refine R_ifp_eq 119 129 rfl rfl dX5_takeParish_116 (fun h116 => ?_) (fun h116 => ?_)
    · refine R_bipush 131 rfl dX5_takeParish_129 (by decide) ?_
      refine R_iast ((sL st).1 0).toNat 132 rfl dX5_takeParish_131 rfl (by first | rfl | omega) (by omega) (by decide) ?_
      refine R_aload_n 133 rfl dX5_takeParish_132 rfl ?_
      refine R_getP 1 136 rfl dX5_takeParish_133 rfl rfl fl_X5_15 hD ?_
      refine R_iload_n 137 rfl dX5_takeParish_136 rfl ?_
      refine R_iconst 138 rfl dX5_takeParish_137 ?_
      refine R_iadd 139 rfl dX5_takeParish_138 ?_
      refine R_putI 0 142 rfl dX5_takeParish_139 rfl rfl fl_X5_99 ?_
      refine R_return dX5_takeParish_142 rfl ?_
      first
        | exact QV_mk (fin _ _ (f113.tr f123) p123 v123)
        | exact QV_mk (fin _ _ f113 (by show PCx T 4 m113 (sx (pb (sx (pY4 T st)) (yr T 9))); rw [(yr_n h116).1]; rw [if_neg h116] at p113; exact p113) (yr_n h116).2)
    · refine R_aload_n 120 rfl dX5_takeParish_119 rfl ?_
      refine R_iconst 121 rfl dX5_takeParish_120 ?_
      refine R_bipush 123 rfl dX5_takeParish_121 (by decide) ?_
      refine R_callV_I (M' := mX5_takeNumber) 126 rfl dX5_takeParish_123 ml_X5_71 kmX5_takeNumber im_X5_takeNumber se_X5_takeNumber rfl ⟨by decide, rfl⟩ (c_X5_takeNumber 0 89 (pb (sx (pY4 T st)) (adv T)) b113 (by rw [if_pos h116] at p113; exact p113) (fun _ _ => ⟨⟨by omega, by omega⟩, ⟨by omega, by omega⟩⟩)) rfl rfl ⟨Nat.le_of_ble_eq_true rfl, Nat.le_of_ble_eq_true rfl⟩ (Nat.le_of_ble_eq_true rfl) ⟨Nat.le_of_ble_eq_true rfl, Nat.le_of_ble_eq_true rfl⟩ ?_
      rintro z123 m123 h123
      obtain ⟨f123, p123, v123⟩ := h123
      have b123 := b113.fr f123 rfl rfl
      clear hP hD
      have hP := b123.1.2
      have hD := b123.2.2.2.2
      rw [← yr_y h116] at p123 v123
      refine R_goto 131 rfl dX5_takeParish_126 ?_
      refine R_iast ((sL st).1 0).toNat 132 rfl dX5_takeParish_131 rfl (by first | rfl | omega) (by omega) (by decide) ?_
      refine R_aload_n 133 rfl dX5_takeParish_132 rfl ?_
      refine R_getP 1 136 rfl dX5_takeParish_133 rfl rfl fl_X5_15 hD ?_
      refine R_iload_n 137 rfl dX5_takeParish_136 rfl ?_
      refine R_iconst 138 rfl dX5_takeParish_137 ?_
      refine R_iadd 139 rfl dX5_takeParish_138 ?_
      refine R_putI 0 142 rfl dX5_takeParish_139 rfl rfl fl_X5_99 ?_
      refine R_return dX5_takeParish_142 rfl ?_
      first
        | exact QV_mk (fin _ _ (f113.tr f123) p123 v123)
        | exact QV_mk (fin _ _ f113 (by show PCx T 4 m113 (sx (pb (sx (pY4 T st)) (yr T 9))); rw [(yr_n h116).1]; rw [if_neg h116] at p113; exact p113) (yr_n h116).2)
  refine R_aload_n 1 rfl dX5_takeParish_0 rfl ?_
  refine R_getP 1 4 rfl dX5_takeParish_1 rfl rfl fl_X5_15 hD ?_
  refine R_getI 0 7 rfl dX5_takeParish_4 rfl rfl fl_X5_99 ?_
  rw [l0]
  refine R_istore_n [_, _] 8 rfl dX5_takeParish_7 rfl (by decide) ?_
  refine R_iload_n 9 rfl dX5_takeParish_8 rfl ?_
  refine R_bipush 11 rfl dX5_takeParish_9 (by decide) ?_
  refine R_icmp_lt 14 20 rfl rfl dX5_takeParish_11 (by first | assumption | exact ⟨by omega, by omega⟩) (by first | assumption | exact ⟨by omega, by omega⟩) (fun h11 => ?_) (fun h11 => ?_)
  · refine R_aload_n 21 rfl dX5_takeParish_20 rfl ?_
    have hn : ¬ 12 ≤ (sL st).1 0 := by omega
    refine R_callV_V (M' := mX5_advance) 24 rfl dX5_takeParish_21 ml_X5_37 kmX5_advance im_X5_advance se_X5_advance rfl ⟨by decide, rfl⟩ (c_X5_advance st hb g2 g6 g7 v.2.1 v.2.2.2.2.1 hL hB) rfl rfl ⟨Nat.le_of_ble_eq_true rfl, Nat.le_of_ble_eq_true rfl⟩ (Nat.le_of_ble_eq_true rfl) ⟨Nat.le_of_ble_eq_true rfl, Nat.le_of_ble_eq_true rfl⟩ ?_
    rintro m21 h21
    obtain ⟨f21, p21⟩ := h21
    have b21 := hb.fr f21 rfl rfl
    have k21 := adv_kp (T := T) (st := st) (s := st) v rfl (Nat.le_refl _)
    clear hP hD
    have hP := b21.1.2
    have hD := b21.2.2.2.2
    refine R_aload_n 25 rfl dX5_takeParish_24 rfl ?_
    refine R_getP 1 28 rfl dX5_takeParish_25 rfl rfl fl_X5_15 hD ?_
    refine R_getP 8 31 rfl dX5_takeParish_28 rfl rfl fl_X5_102 (hP _ _ _ rfl) ?_
    refine R_iconst 32 rfl dX5_takeParish_31 ?_
    refine R_aald 0 33 rfl dX5_takeParish_32 rfl rfl (by first | rfl | omega) (by decide) (by decide) (hP _ _ _ rfl) ?_
    refine R_iload_n 34 rfl dX5_takeParish_33 rfl ?_
    refine R_aload_n 35 rfl dX5_takeParish_34 rfl ?_
    refine R_iconst 36 rfl dX5_takeParish_35 ?_
    refine R_sipush 39 rfl dX5_takeParish_36 (by decide) ?_
    refine R_callV_I (M' := mX5_takeNumber) 42 rfl dX5_takeParish_39 ml_X5_71 kmX5_takeNumber im_X5_takeNumber se_X5_takeNumber rfl ⟨by decide, rfl⟩ (c_X5_takeNumber 1 999 (adv T st) b21 p21 (fun _ _ => ⟨⟨by omega, by omega⟩, ⟨by omega, by omega⟩⟩)) rfl rfl ⟨Nat.le_of_ble_eq_true rfl, Nat.le_of_ble_eq_true rfl⟩ (Nat.le_of_ble_eq_true rfl) ⟨Nat.le_of_ble_eq_true rfl, Nat.le_of_ble_eq_true rfl⟩ ?_
    rintro z39 m39 h39
    obtain ⟨f39, p39, v39⟩ := h39
    have b39 := b21.fr f39 rfl rfl
    have k39 : kp T st (sx (pY2 T st)) := kp_num k21
    have b42 : PCb o 4 T (setI m39 7 ((sL st).1 0).toNat z39) := b39.fr (P := fun a => decide (a = 7)) (Fr.rf.set rfl) rfl rfl
    have p42 : PCx T 4 (setI m39 7 ((sL st).1 0).toNat z39) (sx (pY2 T st)) := PCx.ld p39 (fun k => by simp [setI]) (fun s hs hl => LdC.wp (r := 0) hl (Or.inl rfl) (by decide) (nl s (k39 s hs).1))
    clear hP hD
    have hP := b39.1.2
    have hD := b39.2.2.2.2
    refine R_iast ((sL st).1 0).toNat 43 rfl dX5_takeParish_42 rfl (by first | rfl | omega) (by omega) (by decide) ?_
    refine R_aload_n 44 rfl dX5_takeParish_43 rfl ?_
    refine R_getP 1 47 rfl dX5_takeParish_44 rfl rfl fl_X5_15 hD ?_
    refine R_getP 8 50 rfl dX5_takeParish_47 rfl rfl fl_X5_102 (hP _ _ _ rfl) ?_
    refine R_iconst 51 rfl dX5_takeParish_50 ?_
    refine R_aald 1 52 rfl dX5_takeParish_51 rfl rfl (by first | rfl | omega) (by decide) (by decide) (hP _ _ _ rfl) ?_
    refine R_iload_n 53 rfl dX5_takeParish_52 rfl ?_
    refine R_aload_n 54 rfl dX5_takeParish_53 rfl ?_
    refine R_ldcS 7 56 rfl dX5_takeParish_54 rfl (by decide) ?_
    refine R_callV_I (M' := mX5_takeWord) 59 rfl dX5_takeParish_56 ml_X5_107 kmX5_takeWord im_X5_takeWord se_X5_takeWord rfl ⟨by decide, rfl⟩ (c_X5_takeWord 7 (sx (pY2 T st)) hΓ (by decide) b42 p42) rfl rfl ⟨Nat.le_of_ble_eq_true rfl, Nat.le_of_ble_eq_true rfl⟩ (Nat.le_of_ble_eq_true rfl) ⟨Nat.le_of_ble_eq_true rfl, Nat.le_of_ble_eq_true rfl⟩ ?_
    rintro z56 m56 h56
    obtain ⟨rfl, f56, p56⟩ := h56
    rw [wd_x.1] at p56
    have b56 := b42.fr f56 rfl rfl
    have k56 : kp T st (sx (pY3 T st)) := kp_wd k39
    have b67 : ∀ z, PCb o 4 T (setI m56 8 ((sL st).1 0).toNat z) := fun z => b56.fr (P := fun a => decide (a = 8)) (Fr.rf.set rfl) rfl rfl
    have p67 : ∀ z, PCx T 4 (setI m56 8 ((sL st).1 0).toNat z) (sx (pY3 T st)) := fun z => PCx.ld p56 (fun k => by simp [setI]) (fun s hs hl => LdC.wp (r := 1) hl (Or.inl rfl) (by decide) (nl s (k56 s hs).1))
    clear hP hD
    have hP := b56.1.2
    have hD := b56.2.2.2.2
    refine R_ifp_eq 62 66 rfl rfl dX5_takeParish_59 (fun h59 => ?_) (fun h59 => ?_)
    · refine R_iconst 67 rfl dX5_takeParish_66 ?_
      refine R_iast ((sL st).1 0).toNat 68 rfl dX5_takeParish_67 rfl (by first | rfl | omega) (by omega) (by decide) ?_
      refine R_aload_n 69 rfl dX5_takeParish_68 rfl ?_
      refine R_getP 1 72 rfl dX5_takeParish_69 rfl rfl fl_X5_15 hD ?_
      refine R_getP 8 75 rfl dX5_takeParish_72 rfl rfl fl_X5_102 (hP _ _ _ rfl) ?_
      refine R_iconst 76 rfl dX5_takeParish_75 ?_
      refine R_aald 2 77 rfl dX5_takeParish_76 rfl rfl (by first | rfl | omega) (by decide) (by decide) (hP _ _ _ rfl) ?_
      refine R_iload_n 78 rfl dX5_takeParish_77 rfl ?_
      refine R_aload_n 79 rfl dX5_takeParish_78 rfl ?_
      refine R_ldcS 8 81 rfl dX5_takeParish_79 rfl (by decide) ?_
      refine R_callV_I (M' := mX5_takeWord) 84 rfl dX5_takeParish_81 ml_X5_107 kmX5_takeWord im_X5_takeWord se_X5_takeWord rfl ⟨by decide, rfl⟩ (c_X5_takeWord 8 (sx (pY3 T st)) hΓ (by decide) (b67 _) (p67 _)) rfl rfl ⟨Nat.le_of_ble_eq_true rfl, Nat.le_of_ble_eq_true rfl⟩ (Nat.le_of_ble_eq_true rfl) ⟨Nat.le_of_ble_eq_true rfl, Nat.le_of_ble_eq_true rfl⟩ ?_
      rintro z81 m81 h81
      obtain ⟨rfl, f81, p81⟩ := h81
      have b81 := (b67 _).fr f81 rfl rfl
      clear hP hD
      have hP := b81.1.2
      have hD := b81.2.2.2.2
      refine R_ifp_eq 87 97 rfl rfl dX5_takeParish_84 (fun h84 => ?_) (fun h84 => ?_)
      · refine R_bipush 99 rfl dX5_takeParish_97 (by decide) ?_
        refine R_iast ((sL st).1 0).toNat 100 rfl dX5_takeParish_99 rfl (by first | rfl | omega) (by omega) (by decide) ?_
        have wx := (wd_x (T := T) (x := sx (pY2 T st)) (i := 7)).2
        have k91 : kp T st (sx (pY4 T st)) := kp_yr k56
        first
          | (refine L100 hn _ (((((((f21.wk w3).tr (f39.wk w3)).set rfl).tr (f56.wk w3)).set rfl).tr ((f81.tr f91).wk w3)).set rfl) (b91.fr (P := fun a => decide (a = 9)) (Fr.rf.set rfl) rfl rfl) (PCx.ld p91 (fun k => by simp [setI]) (fun s hs hl => LdC.wp (r := 2) hl (Or.inl rfl) (by decide) (nl s (k91 s hs).1))) k91 (fun q s hq => ?_) (fun q s hq => ?_) (fun q s hq => ?_)
             · simp only [setI]; rw [if_neg (by omega), f91.1 _ _ rfl, f81.1 _ _ rfl]; simp only [setI]; rw [if_neg (by omega), f56.1 _ _ rfl]; simp only [setI]; rw [if_pos ⟨trivial, trivial⟩]; exact v39 q s hq
             · simp only [setI]; rw [if_neg (by omega), f91.1 _ _ rfl, f81.1 _ _ rfl]; simp only [setI]; rw [if_pos ⟨trivial, trivial⟩]; have := wx q s hq; first | (rw [pI_t h59] at this; exact this) | (rw [pI_f h59] at this; exact this)
             · simp only [setI]; rw [if_pos ⟨trivial, trivial⟩]; exact v91 q s hq)
          | (have p9 : PCx T 4 m81 (sx (pY4 T st)) := by show PCx T 4 m81 (sx (pb (sx (pY3 T st)) (yr T 8))); rw [(yr_n h84).1]; rw [if_neg h84] at p81; exact p81
             refine L100 hn _ (((((((f21.wk w3).tr (f39.wk w3)).set rfl).tr (f56.wk w3)).set rfl).tr (f81.wk w3)).set rfl) (b81.fr (P := fun a => decide (a = 9)) (Fr.rf.set rfl) rfl rfl) (PCx.ld p9 (fun k => by simp [setI]) (fun s hs hl => LdC.wp (r := 2) hl (Or.inl rfl) (by decide) (nl s (k91 s hs).1))) k91 (fun q s hq => ?_) (fun q s hq => ?_) (fun q s hq => ?_)
             · simp only [setI]; rw [if_neg (by omega), f81.1 _ _ rfl]; simp only [setI]; rw [if_neg (by omega), f56.1 _ _ rfl]; simp only [setI]; rw [if_pos ⟨trivial, trivial⟩]; exact v39 q s hq
             · simp only [setI]; rw [if_neg (by omega), f81.1 _ _ rfl]; simp only [setI]; rw [if_pos ⟨trivial, trivial⟩]; have := wx q s hq; first | (rw [pI_t h59] at this; exact this) | (rw [pI_f h59] at this; exact this)
             · simp only [setI]; rw [if_pos ⟨trivial, trivial⟩]; exact (yr_n h84).2 q s hq)
      · refine R_aload_n 88 rfl dX5_takeParish_87 rfl ?_
        refine R_iconst 89 rfl dX5_takeParish_88 ?_
        refine R_bipush 91 rfl dX5_takeParish_89 (by decide) ?_
        refine R_callV_I (M' := mX5_takeNumber) 94 rfl dX5_takeParish_91 ml_X5_71 kmX5_takeNumber im_X5_takeNumber se_X5_takeNumber rfl ⟨by decide, rfl⟩ (c_X5_takeNumber 0 89 (pb (sx (pY3 T st)) (adv T)) b81 (by rw [if_pos h84] at p81; exact p81) (fun _ _ => ⟨⟨by omega, by omega⟩, ⟨by omega, by omega⟩⟩)) rfl rfl ⟨Nat.le_of_ble_eq_true rfl, Nat.le_of_ble_eq_true rfl⟩ (Nat.le_of_ble_eq_true rfl) ⟨Nat.le_of_ble_eq_true rfl, Nat.le_of_ble_eq_true rfl⟩ ?_
        rintro z91 m91 h91
        obtain ⟨f91, p91, v91⟩ := h91
        have b91 := b81.fr f91 rfl rfl
        clear hP hD
        have hP := b91.1.2
        have hD := b91.2.2.2.2
        rw [← yr_y h84] at p91 v91
        refine R_goto 99 rfl dX5_takeParish_94 ?_
        refine R_iast ((sL st).1 0).toNat 100 rfl dX5_takeParish_99 rfl (by first | rfl | omega) (by omega) (by decide) ?_
        have wx := (wd_x (T := T) (x := sx (pY2 T st)) (i := 7)).2
        have k91 : kp T st (sx (pY4 T st)) := kp_yr k56
        first
          | (refine L100 hn _ (((((((f21.wk w3).tr (f39.wk w3)).set rfl).tr (f56.wk w3)).set rfl).tr ((f81.tr f91).wk w3)).set rfl) (b91.fr (P := fun a => decide (a = 9)) (Fr.rf.set rfl) rfl rfl) (PCx.ld p91 (fun k => by simp [setI]) (fun s hs hl => LdC.wp (r := 2) hl (Or.inl rfl) (by decide) (nl s (k91 s hs).1))) k91 (fun q s hq => ?_) (fun q s hq => ?_) (fun q s hq => ?_)
             · simp only [setI]; rw [if_neg (by omega), f91.1 _ _ rfl, f81.1 _ _ rfl]; simp only [setI]; rw [if_neg (by omega), f56.1 _ _ rfl]; simp only [setI]; rw [if_pos ⟨trivial, trivial⟩]; exact v39 q s hq
             · simp only [setI]; rw [if_neg (by omega), f91.1 _ _ rfl, f81.1 _ _ rfl]; simp only [setI]; rw [if_pos ⟨trivial, trivial⟩]; have := wx q s hq; first | (rw [pI_t h59] at this; exact this) | (rw [pI_f h59] at this; exact this)
             · simp only [setI]; rw [if_pos ⟨trivial, trivial⟩]; exact v91 q s hq)
          | (have p9 : PCx T 4 m81 (sx (pY4 T st)) := by show PCx T 4 m81 (sx (pb (sx (pY3 T st)) (yr T 8))); rw [(yr_n h84).1]; rw [if_neg h84] at p81; exact p81
             refine L100 hn _ (((((((f21.wk w3).tr (f39.wk w3)).set rfl).tr (f56.wk w3)).set rfl).tr (f81.wk w3)).set rfl) (b81.fr (P := fun a => decide (a = 9)) (Fr.rf.set rfl) rfl rfl) (PCx.ld p9 (fun k => by simp [setI]) (fun s hs hl => LdC.wp (r := 2) hl (Or.inl rfl) (by decide) (nl s (k91 s hs).1))) k91 (fun q s hq => ?_) (fun q s hq => ?_) (fun q s hq => ?_)
             · simp only [setI]; rw [if_neg (by omega), f81.1 _ _ rfl]; simp only [setI]; rw [if_neg (by omega), f56.1 _ _ rfl]; simp only [setI]; rw [if_pos ⟨trivial, trivial⟩]; exact v39 q s hq
             · simp only [setI]; rw [if_neg (by omega), f81.1 _ _ rfl]; simp only [setI]; rw [if_pos ⟨trivial, trivial⟩]; have := wx q s hq; first | (rw [pI_t h59] at this; exact this) | (rw [pI_f h59] at this; exact this)
             · simp only [setI]; rw [if_pos ⟨trivial, trivial⟩]; exact (yr_n h84).2 q s hq)
    · refine R_iconst 63 rfl dX5_takeParish_62 ?_
      refine R_goto 67 rfl dX5_takeParish_63 ?_
      refine R_iast ((sL st).1 0).toNat 68 rfl dX5_takeParish_67 rfl (by first | rfl | omega) (by omega) (by decide) ?_
      refine R_aload_n 69 rfl dX5_takeParish_68 rfl ?_
      refine R_getP 1 72 rfl dX5_takeParish_69 rfl rfl fl_X5_15 hD ?_
      refine R_getP 8 75 rfl dX5_takeParish_72 rfl rfl fl_X5_102 (hP _ _ _ rfl) ?_
      refine R_iconst 76 rfl dX5_takeParish_75 ?_
      refine R_aald 2 77 rfl dX5_takeParish_76 rfl rfl (by first | rfl | omega) (by decide) (by decide) (hP _ _ _ rfl) ?_
      refine R_iload_n 78 rfl dX5_takeParish_77 rfl ?_
      refine R_aload_n 79 rfl dX5_takeParish_78 rfl ?_
      refine R_ldcS 8 81 rfl dX5_takeParish_79 rfl (by decide) ?_
      refine R_callV_I (M' := mX5_takeWord) 84 rfl dX5_takeParish_81 ml_X5_107 kmX5_takeWord im_X5_takeWord se_X5_takeWord rfl ⟨by decide, rfl⟩ (c_X5_takeWord 8 (sx (pY3 T st)) hΓ (by decide) (b67 _) (p67 _)) rfl rfl ⟨Nat.le_of_ble_eq_true rfl, Nat.le_of_ble_eq_true rfl⟩ (Nat.le_of_ble_eq_true rfl) ⟨Nat.le_of_ble_eq_true rfl, Nat.le_of_ble_eq_true rfl⟩ ?_
      rintro z81 m81 h81
      obtain ⟨rfl, f81, p81⟩ := h81
      have b81 := (b67 _).fr f81 rfl rfl
      clear hP hD
      have hP := b81.1.2
      have hD := b81.2.2.2.2
      refine R_ifp_eq 87 97 rfl rfl dX5_takeParish_84 (fun h84 => ?_) (fun h84 => ?_)
      · refine R_bipush 99 rfl dX5_takeParish_97 (by decide) ?_
        refine R_iast ((sL st).1 0).toNat 100 rfl dX5_takeParish_99 rfl (by first | rfl | omega) (by omega) (by decide) ?_
        have wx := (wd_x (T := T) (x := sx (pY2 T st)) (i := 7)).2
        have k91 : kp T st (sx (pY4 T st)) := kp_yr k56
        first
          | (refine L100 hn _ (((((((f21.wk w3).tr (f39.wk w3)).set rfl).tr (f56.wk w3)).set rfl).tr ((f81.tr f91).wk w3)).set rfl) (b91.fr (P := fun a => decide (a = 9)) (Fr.rf.set rfl) rfl rfl) (PCx.ld p91 (fun k => by simp [setI]) (fun s hs hl => LdC.wp (r := 2) hl (Or.inl rfl) (by decide) (nl s (k91 s hs).1))) k91 (fun q s hq => ?_) (fun q s hq => ?_) (fun q s hq => ?_)
             · simp only [setI]; rw [if_neg (by omega), f91.1 _ _ rfl, f81.1 _ _ rfl]; simp only [setI]; rw [if_neg (by omega), f56.1 _ _ rfl]; simp only [setI]; rw [if_pos ⟨trivial, trivial⟩]; exact v39 q s hq
             · simp only [setI]; rw [if_neg (by omega), f91.1 _ _ rfl, f81.1 _ _ rfl]; simp only [setI]; rw [if_pos ⟨trivial, trivial⟩]; have := wx q s hq; first | (rw [pI_t h59] at this; exact this) | (rw [pI_f h59] at this; exact this)
             · simp only [setI]; rw [if_pos ⟨trivial, trivial⟩]; exact v91 q s hq)
          | (have p9 : PCx T 4 m81 (sx (pY4 T st)) := by show PCx T 4 m81 (sx (pb (sx (pY3 T st)) (yr T 8))); rw [(yr_n h84).1]; rw [if_neg h84] at p81; exact p81
             refine L100 hn _ (((((((f21.wk w3).tr (f39.wk w3)).set rfl).tr (f56.wk w3)).set rfl).tr (f81.wk w3)).set rfl) (b81.fr (P := fun a => decide (a = 9)) (Fr.rf.set rfl) rfl rfl) (PCx.ld p9 (fun k => by simp [setI]) (fun s hs hl => LdC.wp (r := 2) hl (Or.inl rfl) (by decide) (nl s (k91 s hs).1))) k91 (fun q s hq => ?_) (fun q s hq => ?_) (fun q s hq => ?_)
             · simp only [setI]; rw [if_neg (by omega), f81.1 _ _ rfl]; simp only [setI]; rw [if_neg (by omega), f56.1 _ _ rfl]; simp only [setI]; rw [if_pos ⟨trivial, trivial⟩]; exact v39 q s hq
             · simp only [setI]; rw [if_neg (by omega), f81.1 _ _ rfl]; simp only [setI]; rw [if_pos ⟨trivial, trivial⟩]; have := wx q s hq; first | (rw [pI_t h59] at this; exact this) | (rw [pI_f h59] at this; exact this)
             · simp only [setI]; rw [if_pos ⟨trivial, trivial⟩]; exact (yr_n h84).2 q s hq)
      · refine R_aload_n 88 rfl dX5_takeParish_87 rfl ?_
        refine R_iconst 89 rfl dX5_takeParish_88 ?_
        refine R_bipush 91 rfl dX5_takeParish_89 (by decide) ?_
        refine R_callV_I (M' := mX5_takeNumber) 94 rfl dX5_takeParish_91 ml_X5_71 kmX5_takeNumber im_X5_takeNumber se_X5_takeNumber rfl ⟨by decide, rfl⟩ (c_X5_takeNumber 0 89 (pb (sx (pY3 T st)) (adv T)) b81 (by rw [if_pos h84] at p81; exact p81) (fun _ _ => ⟨⟨by omega, by omega⟩, ⟨by omega, by omega⟩⟩)) rfl rfl ⟨Nat.le_of_ble_eq_true rfl, Nat.le_of_ble_eq_true rfl⟩ (Nat.le_of_ble_eq_true rfl) ⟨Nat.le_of_ble_eq_true rfl, Nat.le_of_ble_eq_true rfl⟩ ?_
        rintro z91 m91 h91
        obtain ⟨f91, p91, v91⟩ := h91
        have b91 := b81.fr f91 rfl rfl
        clear hP hD
        have hP := b91.1.2
        have hD := b91.2.2.2.2
        rw [← yr_y h84] at p91 v91
        refine R_goto 99 rfl dX5_takeParish_94 ?_
        refine R_iast ((sL st).1 0).toNat 100 rfl dX5_takeParish_99 rfl (by first | rfl | omega) (by omega) (by decide) ?_
        have wx := (wd_x (T := T) (x := sx (pY2 T st)) (i := 7)).2
        have k91 : kp T st (sx (pY4 T st)) := kp_yr k56
        first
          | (refine L100 hn _ (((((((f21.wk w3).tr (f39.wk w3)).set rfl).tr (f56.wk w3)).set rfl).tr ((f81.tr f91).wk w3)).set rfl) (b91.fr (P := fun a => decide (a = 9)) (Fr.rf.set rfl) rfl rfl) (PCx.ld p91 (fun k => by simp [setI]) (fun s hs hl => LdC.wp (r := 2) hl (Or.inl rfl) (by decide) (nl s (k91 s hs).1))) k91 (fun q s hq => ?_) (fun q s hq => ?_) (fun q s hq => ?_)
             · simp only [setI]; rw [if_neg (by omega), f91.1 _ _ rfl, f81.1 _ _ rfl]; simp only [setI]; rw [if_neg (by omega), f56.1 _ _ rfl]; simp only [setI]; rw [if_pos ⟨trivial, trivial⟩]; exact v39 q s hq
             · simp only [setI]; rw [if_neg (by omega), f91.1 _ _ rfl, f81.1 _ _ rfl]; simp only [setI]; rw [if_pos ⟨trivial, trivial⟩]; have := wx q s hq; first | (rw [pI_t h59] at this; exact this) | (rw [pI_f h59] at this; exact this)
             · simp only [setI]; rw [if_pos ⟨trivial, trivial⟩]; exact v91 q s hq)
          | (have p9 : PCx T 4 m81 (sx (pY4 T st)) := by show PCx T 4 m81 (sx (pb (sx (pY3 T st)) (yr T 8))); rw [(yr_n h84).1]; rw [if_neg h84] at p81; exact p81
             refine L100 hn _ (((((((f21.wk w3).tr (f39.wk w3)).set rfl).tr (f56.wk w3)).set rfl).tr (f81.wk w3)).set rfl) (b81.fr (P := fun a => decide (a = 9)) (Fr.rf.set rfl) rfl rfl) (PCx.ld p9 (fun k => by simp [setI]) (fun s hs hl => LdC.wp (r := 2) hl (Or.inl rfl) (by decide) (nl s (k91 s hs).1))) k91 (fun q s hq => ?_) (fun q s hq => ?_) (fun q s hq => ?_)
             · simp only [setI]; rw [if_neg (by omega), f81.1 _ _ rfl]; simp only [setI]; rw [if_neg (by omega), f56.1 _ _ rfl]; simp only [setI]; rw [if_pos ⟨trivial, trivial⟩]; exact v39 q s hq
             · simp only [setI]; rw [if_neg (by omega), f81.1 _ _ rfl]; simp only [setI]; rw [if_pos ⟨trivial, trivial⟩]; have := wx q s hq; first | (rw [pI_t h59] at this; exact this) | (rw [pI_f h59] at this; exact this)
             · simp only [setI]; rw [if_pos ⟨trivial, trivial⟩]; exact (yr_n h84).2 q s hq)
  · refine R_aload_n 15 rfl dX5_takeParish_14 rfl ?_
    refine R_iconst 16 rfl dX5_takeParish_15 ?_
    refine R_callV_V (M' := mX5_refuse) 19 rfl dX5_takeParish_16 ml_X5_93 kmX5_refuse im_X5_refuse se_X5_refuse rfl ⟨by decide, rfl⟩ (c_X5_refuse 5 _ hx0 (by omega)) rfl rfl ⟨Nat.le_of_ble_eq_true rfl, Nat.le_of_ble_eq_true rfl⟩ (Nat.le_of_ble_eq_true rfl) ⟨Nat.le_of_ble_eq_true rfl, Nat.le_of_ble_eq_true rfl⟩ ?_
    rintro m16 h16
    obtain ⟨f16, p16⟩ := h16
    refine R_return dX5_takeParish_19 rfl ?_
    have e : parishT T st = .inl (5, st.2.1) := if_pos (by omega)
    rw [e]
    exact QV_mk ⟨f16.wk w3, p16⟩
set_option maxHeartbeats 1000000 in
theorem c_X5_takeParish17 (st : St) (hΓ : GOk Γ) (hb : PCb o 17 T m) (hx : PCa T 17 m st) : C Γ mX5_takeParish 6 240 0 0 [vr 3] SH m (QV SH (fun m' => Fr (isRD 17) m m' ∧ PCx T 17 m' (parishT T st))) := by
  refine C_of_R rfl (Nat.le_of_ble_eq_true rfl) ?_
  have hx0 : PCx T 17 m (.inr st) := hx
  obtain ⟨g2, g3, g4, g5, g6, g7, v, hL, hB⟩ := hx
  have l0 : m.1 17 0 = (sL st).1 0 := hL.u.1 0 (by omega)
  have b0 := hB.1
  have b1 := hB.2.1
  have hP := hb.1.2
  have hD := hb.2.2.2.2
  have w3 : ∀ a, isRD 17 a = false → is3 a = false := fun a h => by simp [isRD] at h; simp [is3]; omega
  have nl : ∀ s : St, s.2.2.2 = st.2.2.2 → ¬ ((((sL st).1 0).toNat : Nat) : Int) < (sL s).1 0 := fun s h => by unfold sL at *; rw [h]; omega
  have L100 : ¬ 12 ≤ (sL st).1 0 → ∀ mm, Fr (isRD 17) m mm → PCb o 17 T mm → PCx T 17 mm (sx (pY4 T st)) → kp T st (sx (pY4 T st)) → (∀ q s, pY2 T st = .inr (q, s) → mm.1 20 ((sL st).1 0).toNat = q) → (∀ q s, pY3 T st = .inr (q, s) → mm.1 21 ((sL st).1 0).toNat = q) → (∀ q s, pY4 T st = .inr (q, s) → mm.1 22 ((sL st).1 0).toNat = q) → R Γ mX5_takeParish { frames := 6, cells := 0, slots := 0, locals := 240 } 0 0 (QV SH (fun m' => Fr (isRD 17) m m' ∧ PCx T 17 m' (parishT T st))) 0 0 100 [some (vr 3), some (vi ((sL st).1 0))] [] SH mm := by
    intro hn mm fm bm pm km c7 c8 c9
    clear hP hD
    have hP := bm.1.2
    have hD := bm.2.2.2.2
    have fin : ∀ m2 z, Fr is3 mm m2 → PCx T 17 m2 (sx (pY5 T st)) → (∀ q s, pY5 T st = .inr (q, s) → z = q) → Fr (isRD 17) m (setI (setI m2 23 ((sL st).1 0).toNat z) 17 0 ((sL st).1 0 + 1)) ∧ PCx T 17 (setI (setI m2 23 ((sL st).1 0).toNat z) 17 0 ((sL st).1 0 + 1)) (parishT T st) := by
      intro m2 z f2 p2 hz
      refine ⟨((fm.tr (f2.wk w3)).set rfl).set rfl, ?_⟩
      cases h5 : sx (pY5 T st) with
      | inl e =>
        rw [par_l hn h5]
        rw [h5] at p2
        exact p2.ld (fun k => by simp [setI]) (fun s q => by cases q)
      | inr s =>
        obtain ⟨q1, q2, q3, q4, s2, s3, s4, y2, y3, y4, y5, yp⟩ := par_r hn h5
        rw [yp]
        rw [h5] at p2
        have kk := kp_yr (i := 9) km s h5
        have es : sL s = sL st := by unfold sL; rw [kk.1]
        obtain ⟨a1, a2, a3, a4, a5, a6, a7, a8, a9⟩ := p2
        refine ⟨by simp [setI]; exact a1, by simp [setI]; exact a2, by simp [setI]; exact a3, fun w => by simp [setI]; exact a4 w, by simp [setI]; exact a5, by simp [setI]; exact a6, a7, ?_, ?_⟩
        · refine LdC.addP a8 (Or.inr rfl) (by rw [es]; exact b0) (by rw [es]; simp [setI]) (fun k k1 k2 => by simp only [setI]; rw [if_neg (by omega), if_neg (by omega)]) (fun k => by simp [setI]) (fun r p hr hp => by rw [es] at hp; simp only [setI]; rw [if_neg (by omega), if_neg (by omega)]) (fun r k hr => by simp only [setI]; rw [if_neg (by omega), if_neg (by omega)]) ?_ ?_ ?_ ?_
          · rw [es]; simp only [setI]; rw [if_neg (by omega), if_neg (by omega), f2.1 _ _ rfl]; exact c7 _ _ y2
          · rw [es]; simp only [setI]; rw [if_neg (by omega), if_neg (by omega), f2.1 _ _ rfl]; exact c8 _ _ y3
          · rw [es]; simp only [setI]; rw [if_neg (by omega), if_neg (by omega), f2.1 _ _ rfl]; exact c9 _ _ y4
          · rw [es]; simp only [setI]; rw [if_neg (by omega), if_pos ⟨trivial, trivial⟩]; exact hz _ _ y5
        · show LdB (addP (sL s) q1 q2 q3 q4)
          have b9 := hB.2.2
          rw [es]
          exact ⟨by show 0 ≤ (sL st).1 0 + 1; omega, by show (sL st).1 0 + 1 ≤ 12; omega, b9.1, b9.2⟩
    refine R_aload_n 101 rfl dX5_takeParish_100 rfl ?_
    refine R_getP 1 104 rfl dX5_takeParish_101 rfl rfl fl_X5_15 hD ?_
    refine R_getP 8 107 rfl dX5_takeParish_104 rfl rfl fl_X5_102 (hP _ _ _ rfl) ?_
    refine R_iconst 108 rfl dX5_takeParish_107 ?_
    refine R_aald 3 109 rfl dX5_takeParish_108 rfl rfl (by first | rfl | omega) (by decide) (by decide) (hP _ _ _ rfl) ?_
    refine R_iload_n 110 rfl dX5_takeParish_109 rfl ?_
    refine R_aload_n 111 rfl dX5_takeParish_110 rfl ?_
    refine R_ldcS 9 113 rfl dX5_takeParish_111 rfl (by decide) ?_
    refine R_callV_I (M' := mX5_takeWord) 116 rfl dX5_takeParish_113 ml_X5_107 kmX5_takeWord im_X5_takeWord se_X5_takeWord rfl ⟨by decide, rfl⟩ (c_X5_takeWord 9 (sx (pY4 T st)) hΓ (by decide) bm pm) rfl rfl ⟨Nat.le_of_ble_eq_true rfl, Nat.le_of_ble_eq_true rfl⟩ (Nat.le_of_ble_eq_true rfl) ⟨Nat.le_of_ble_eq_true rfl, Nat.le_of_ble_eq_true rfl⟩ ?_
    rintro z113 m113 h113
    obtain ⟨rfl, f113, p113⟩ := h113
    have b113 := bm.fr f113 rfl rfl
    clear hP hD
    have hP := b113.1.2
    have hD := b113.2.2.2.2
    refine R_ifp_eq 119 129 rfl rfl dX5_takeParish_116 (fun h116 => ?_) (fun h116 => ?_)
    · refine R_bipush 131 rfl dX5_takeParish_129 (by decide) ?_
      refine R_iast ((sL st).1 0).toNat 132 rfl dX5_takeParish_131 rfl (by first | rfl | omega) (by omega) (by decide) ?_
      refine R_aload_n 133 rfl dX5_takeParish_132 rfl ?_
      refine R_getP 1 136 rfl dX5_takeParish_133 rfl rfl fl_X5_15 hD ?_
      refine R_iload_n 137 rfl dX5_takeParish_136 rfl ?_
      refine R_iconst 138 rfl dX5_takeParish_137 ?_
      refine R_iadd 139 rfl dX5_takeParish_138 ?_
      refine R_putI 0 142 rfl dX5_takeParish_139 rfl rfl fl_X5_99 ?_
      refine R_return dX5_takeParish_142 rfl ?_
      first
        | exact QV_mk (fin _ _ (f113.tr f123) p123 v123)
        | exact QV_mk (fin _ _ f113 (by show PCx T 17 m113 (sx (pb (sx (pY4 T st)) (yr T 9))); rw [(yr_n h116).1]; rw [if_neg h116] at p113; exact p113) (yr_n h116).2)
    · refine R_aload_n 120 rfl dX5_takeParish_119 rfl ?_
      refine R_iconst 121 rfl dX5_takeParish_120 ?_
      refine R_bipush 123 rfl dX5_takeParish_121 (by decide) ?_
      refine R_callV_I (M' := mX5_takeNumber) 126 rfl dX5_takeParish_123 ml_X5_71 kmX5_takeNumber im_X5_takeNumber se_X5_takeNumber rfl ⟨by decide, rfl⟩ (c_X5_takeNumber 0 89 (pb (sx (pY4 T st)) (adv T)) b113 (by rw [if_pos h116] at p113; exact p113) (fun _ _ => ⟨⟨by omega, by omega⟩, ⟨by omega, by omega⟩⟩)) rfl rfl ⟨Nat.le_of_ble_eq_true rfl, Nat.le_of_ble_eq_true rfl⟩ (Nat.le_of_ble_eq_true rfl) ⟨Nat.le_of_ble_eq_true rfl, Nat.le_of_ble_eq_true rfl⟩ ?_
      rintro z123 m123 h123
      obtain ⟨f123, p123, v123⟩ := h123
      have b123 := b113.fr f123 rfl rfl
      clear hP hD
      have hP := b123.1.2
      have hD := b123.2.2.2.2
      rw [← yr_y h116] at p123 v123
      refine R_goto 131 rfl dX5_takeParish_126 ?_
      refine R_iast ((sL st).1 0).toNat 132 rfl dX5_takeParish_131 rfl (by first | rfl | omega) (by omega) (by decide) ?_
      refine R_aload_n 133 rfl dX5_takeParish_132 rfl ?_
      refine R_getP 1 136 rfl dX5_takeParish_133 rfl rfl fl_X5_15 hD ?_
      refine R_iload_n 137 rfl dX5_takeParish_136 rfl ?_
      refine R_iconst 138 rfl dX5_takeParish_137 ?_
      refine R_iadd 139 rfl dX5_takeParish_138 ?_
      refine R_putI 0 142 rfl dX5_takeParish_139 rfl rfl fl_X5_99 ?_
      refine R_return dX5_takeParish_142 rfl ?_
      first
        | exact QV_mk (fin _ _ (f113.tr f123) p123 v123)
        | exact QV_mk (fin _ _ f113 (by show PCx T 17 m113 (sx (pb (sx (pY4 T st)) (yr T 9))); rw [(yr_n h116).1]; rw [if_neg h116] at p113; exact p113) (yr_n h116).2)
  refine R_aload_n 1 rfl dX5_takeParish_0 rfl ?_
  refine R_getP 1 4 rfl dX5_takeParish_1 rfl rfl fl_X5_15 hD ?_
  refine R_getI 0 7 rfl dX5_takeParish_4 rfl rfl fl_X5_99 ?_
  rw [l0]
  refine R_istore_n [_, _] 8 rfl dX5_takeParish_7 rfl (by decide) ?_
  refine R_iload_n 9 rfl dX5_takeParish_8 rfl ?_
  refine R_bipush 11 rfl dX5_takeParish_9 (by decide) ?_
  refine R_icmp_lt 14 20 rfl rfl dX5_takeParish_11 (by first | assumption | exact ⟨by omega, by omega⟩) (by first | assumption | exact ⟨by omega, by omega⟩) (fun h11 => ?_) (fun h11 => ?_)
  · refine R_aload_n 21 rfl dX5_takeParish_20 rfl ?_
    have hn : ¬ 12 ≤ (sL st).1 0 := by omega
    refine R_callV_V (M' := mX5_advance) 24 rfl dX5_takeParish_21 ml_X5_37 kmX5_advance im_X5_advance se_X5_advance rfl ⟨by decide, rfl⟩ (c_X5_advance st hb g2 g6 g7 v.2.1 v.2.2.2.2.1 hL hB) rfl rfl ⟨Nat.le_of_ble_eq_true rfl, Nat.le_of_ble_eq_true rfl⟩ (Nat.le_of_ble_eq_true rfl) ⟨Nat.le_of_ble_eq_true rfl, Nat.le_of_ble_eq_true rfl⟩ ?_
    rintro m21 h21
    obtain ⟨f21, p21⟩ := h21
    have b21 := hb.fr f21 rfl rfl
    have k21 := adv_kp (T := T) (st := st) (s := st) v rfl (Nat.le_refl _)
    clear hP hD
    have hP := b21.1.2
    have hD := b21.2.2.2.2
    refine R_aload_n 25 rfl dX5_takeParish_24 rfl ?_
    refine R_getP 1 28 rfl dX5_takeParish_25 rfl rfl fl_X5_15 hD ?_
    refine R_getP 8 31 rfl dX5_takeParish_28 rfl rfl fl_X5_102 (hP _ _ _ rfl) ?_
    refine R_iconst 32 rfl dX5_takeParish_31 ?_
    refine R_aald 0 33 rfl dX5_takeParish_32 rfl rfl (by first | rfl | omega) (by decide) (by decide) (hP _ _ _ rfl) ?_
    refine R_iload_n 34 rfl dX5_takeParish_33 rfl ?_
    refine R_aload_n 35 rfl dX5_takeParish_34 rfl ?_
    refine R_iconst 36 rfl dX5_takeParish_35 ?_
    refine R_sipush 39 rfl dX5_takeParish_36 (by decide) ?_
    refine R_callV_I (M' := mX5_takeNumber) 42 rfl dX5_takeParish_39 ml_X5_71 kmX5_takeNumber im_X5_takeNumber se_X5_takeNumber rfl ⟨by decide, rfl⟩ (c_X5_takeNumber 1 999 (adv T st) b21 p21 (fun _ _ => ⟨⟨by omega, by omega⟩, ⟨by omega, by omega⟩⟩)) rfl rfl ⟨Nat.le_of_ble_eq_true rfl, Nat.le_of_ble_eq_true rfl⟩ (Nat.le_of_ble_eq_true rfl) ⟨Nat.le_of_ble_eq_true rfl, Nat.le_of_ble_eq_true rfl⟩ ?_
    rintro z39 m39 h39
    obtain ⟨f39, p39, v39⟩ := h39
    have b39 := b21.fr f39 rfl rfl
    have k39 : kp T st (sx (pY2 T st)) := kp_num k21
    have b42 : PCb o 17 T (setI m39 20 ((sL st).1 0).toNat z39) := b39.fr (P := fun a => decide (a = 20)) (Fr.rf.set rfl) rfl rfl
    have p42 : PCx T 17 (setI m39 20 ((sL st).1 0).toNat z39) (sx (pY2 T st)) := PCx.ld p39 (fun k => by simp [setI]) (fun s hs hl => LdC.wp (r := 0) hl (Or.inr rfl) (by decide) (nl s (k39 s hs).1))
    clear hP hD
    have hP := b39.1.2
    have hD := b39.2.2.2.2
    refine R_iast ((sL st).1 0).toNat 43 rfl dX5_takeParish_42 rfl (by first | rfl | omega) (by omega) (by decide) ?_
    refine R_aload_n 44 rfl dX5_takeParish_43 rfl ?_
    refine R_getP 1 47 rfl dX5_takeParish_44 rfl rfl fl_X5_15 hD ?_
    refine R_getP 8 50 rfl dX5_takeParish_47 rfl rfl fl_X5_102 (hP _ _ _ rfl) ?_
    refine R_iconst 51 rfl dX5_takeParish_50 ?_
    refine R_aald 1 52 rfl dX5_takeParish_51 rfl rfl (by first | rfl | omega) (by decide) (by decide) (hP _ _ _ rfl) ?_
    refine R_iload_n 53 rfl dX5_takeParish_52 rfl ?_
    refine R_aload_n 54 rfl dX5_takeParish_53 rfl ?_
    refine R_ldcS 7 56 rfl dX5_takeParish_54 rfl (by decide) ?_
    refine R_callV_I (M' := mX5_takeWord) 59 rfl dX5_takeParish_56 ml_X5_107 kmX5_takeWord im_X5_takeWord se_X5_takeWord rfl ⟨by decide, rfl⟩ (c_X5_takeWord 7 (sx (pY2 T st)) hΓ (by decide) b42 p42) rfl rfl ⟨Nat.le_of_ble_eq_true rfl, Nat.le_of_ble_eq_true rfl⟩ (Nat.le_of_ble_eq_true rfl) ⟨Nat.le_of_ble_eq_true rfl, Nat.le_of_ble_eq_true rfl⟩ ?_
    rintro z56 m56 h56
    obtain ⟨rfl, f56, p56⟩ := h56
    rw [wd_x.1] at p56
    have b56 := b42.fr f56 rfl rfl
    have k56 : kp T st (sx (pY3 T st)) := kp_wd k39
    have b67 : ∀ z, PCb o 17 T (setI m56 21 ((sL st).1 0).toNat z) := fun z => b56.fr (P := fun a => decide (a = 21)) (Fr.rf.set rfl) rfl rfl
    have p67 : ∀ z, PCx T 17 (setI m56 21 ((sL st).1 0).toNat z) (sx (pY3 T st)) := fun z => PCx.ld p56 (fun k => by simp [setI]) (fun s hs hl => LdC.wp (r := 1) hl (Or.inr rfl) (by decide) (nl s (k56 s hs).1))
    clear hP hD
    have hP := b56.1.2
    have hD := b56.2.2.2.2
    refine R_ifp_eq 62 66 rfl rfl dX5_takeParish_59 (fun h59 => ?_) (fun h59 => ?_)
    · refine R_iconst 67 rfl dX5_takeParish_66 ?_
      refine R_iast ((sL st).1 0).toNat 68 rfl dX5_takeParish_67 rfl (by first | rfl | omega) (by omega) (by decide) ?_
      refine R_aload_n 69 rfl dX5_takeParish_68 rfl ?_
      refine R_getP 1 72 rfl dX5_takeParish_69 rfl rfl fl_X5_15 hD ?_
      refine R_getP 8 75 rfl dX5_takeParish_72 rfl rfl fl_X5_102 (hP _ _ _ rfl) ?_
      refine R_iconst 76 rfl dX5_takeParish_75 ?_
      refine R_aald 2 77 rfl dX5_takeParish_76 rfl rfl (by first | rfl | omega) (by decide) (by decide) (hP _ _ _ rfl) ?_
      refine R_iload_n 78 rfl dX5_takeParish_77 rfl ?_
      refine R_aload_n 79 rfl dX5_takeParish_78 rfl ?_
      refine R_ldcS 8 81 rfl dX5_takeParish_79 rfl (by decide) ?_
      refine R_callV_I (M' := mX5_takeWord) 84 rfl dX5_takeParish_81 ml_X5_107 kmX5_takeWord im_X5_takeWord se_X5_takeWord rfl ⟨by decide, rfl⟩ (c_X5_takeWord 8 (sx (pY3 T st)) hΓ (by decide) (b67 _) (p67 _)) rfl rfl ⟨Nat.le_of_ble_eq_true rfl, Nat.le_of_ble_eq_true rfl⟩ (Nat.le_of_ble_eq_true rfl) ⟨Nat.le_of_ble_eq_true rfl, Nat.le_of_ble_eq_true rfl⟩ ?_
      rintro z81 m81 h81
      obtain ⟨rfl, f81, p81⟩ := h81
      have b81 := (b67 _).fr f81 rfl rfl
      clear hP hD
      have hP := b81.1.2
      have hD := b81.2.2.2.2
      refine R_ifp_eq 87 97 rfl rfl dX5_takeParish_84 (fun h84 => ?_) (fun h84 => ?_)
      · refine R_bipush 99 rfl dX5_takeParish_97 (by decide) ?_
        refine R_iast ((sL st).1 0).toNat 100 rfl dX5_takeParish_99 rfl (by first | rfl | omega) (by omega) (by decide) ?_
        have wx := (wd_x (T := T) (x := sx (pY2 T st)) (i := 7)).2
        have k91 : kp T st (sx (pY4 T st)) := kp_yr k56
        first
          | (refine L100 hn _ (((((((f21.wk w3).tr (f39.wk w3)).set rfl).tr (f56.wk w3)).set rfl).tr ((f81.tr f91).wk w3)).set rfl) (b91.fr (P := fun a => decide (a = 22)) (Fr.rf.set rfl) rfl rfl) (PCx.ld p91 (fun k => by simp [setI]) (fun s hs hl => LdC.wp (r := 2) hl (Or.inr rfl) (by decide) (nl s (k91 s hs).1))) k91 (fun q s hq => ?_) (fun q s hq => ?_) (fun q s hq => ?_)
             · simp only [setI]; rw [if_neg (by omega), f91.1 _ _ rfl, f81.1 _ _ rfl]; simp only [setI]; rw [if_neg (by omega), f56.1 _ _ rfl]; simp only [setI]; rw [if_pos ⟨trivial, trivial⟩]; exact v39 q s hq
             · simp only [setI]; rw [if_neg (by omega), f91.1 _ _ rfl, f81.1 _ _ rfl]; simp only [setI]; rw [if_pos ⟨trivial, trivial⟩]; have := wx q s hq; first | (rw [pI_t h59] at this; exact this) | (rw [pI_f h59] at this; exact this)
             · simp only [setI]; rw [if_pos ⟨trivial, trivial⟩]; exact v91 q s hq)
          | (have p9 : PCx T 17 m81 (sx (pY4 T st)) := by show PCx T 17 m81 (sx (pb (sx (pY3 T st)) (yr T 8))); rw [(yr_n h84).1]; rw [if_neg h84] at p81; exact p81
             refine L100 hn _ (((((((f21.wk w3).tr (f39.wk w3)).set rfl).tr (f56.wk w3)).set rfl).tr (f81.wk w3)).set rfl) (b81.fr (P := fun a => decide (a = 22)) (Fr.rf.set rfl) rfl rfl) (PCx.ld p9 (fun k => by simp [setI]) (fun s hs hl => LdC.wp (r := 2) hl (Or.inr rfl) (by decide) (nl s (k91 s hs).1))) k91 (fun q s hq => ?_) (fun q s hq => ?_) (fun q s hq => ?_)
             · simp only [setI]; rw [if_neg (by omega), f81.1 _ _ rfl]; simp only [setI]; rw [if_neg (by omega), f56.1 _ _ rfl]; simp only [setI]; rw [if_pos ⟨trivial, trivial⟩]; exact v39 q s hq
             · simp only [setI]; rw [if_neg (by omega), f81.1 _ _ rfl]; simp only [setI]; rw [if_pos ⟨trivial, trivial⟩]; have := wx q s hq; first | (rw [pI_t h59] at this; exact this) | (rw [pI_f h59] at this; exact this)
             · simp only [setI]; rw [if_pos ⟨trivial, trivial⟩]; exact (yr_n h84).2 q s hq)
      · refine R_aload_n 88 rfl dX5_takeParish_87 rfl ?_
        refine R_iconst 89 rfl dX5_takeParish_88 ?_
        refine R_bipush 91 rfl dX5_takeParish_89 (by decide) ?_
        refine R_callV_I (M' := mX5_takeNumber) 94 rfl dX5_takeParish_91 ml_X5_71 kmX5_takeNumber im_X5_takeNumber se_X5_takeNumber rfl ⟨by decide, rfl⟩ (c_X5_takeNumber 0 89 (pb (sx (pY3 T st)) (adv T)) b81 (by rw [if_pos h84] at p81; exact p81) (fun _ _ => ⟨⟨by omega, by omega⟩, ⟨by omega, by omega⟩⟩)) rfl rfl ⟨Nat.le_of_ble_eq_true rfl, Nat.le_of_ble_eq_true rfl⟩ (Nat.le_of_ble_eq_true rfl) ⟨Nat.le_of_ble_eq_true rfl, Nat.le_of_ble_eq_true rfl⟩ ?_
        rintro z91 m91 h91
        obtain ⟨f91, p91, v91⟩ := h91
        have b91 := b81.fr f91 rfl rfl
        clear hP hD
        have hP := b91.1.2
        have hD := b91.2.2.2.2
        rw [← yr_y h84] at p91 v91
        refine R_goto 99 rfl dX5_takeParish_94 ?_
        refine R_iast ((sL st).1 0).toNat 100 rfl dX5_takeParish_99 rfl (by first | rfl | omega) (by omega) (by decide) ?_
        have wx := (wd_x (T := T) (x := sx (pY2 T st)) (i := 7)).2
        have k91 : kp T st (sx (pY4 T st)) := kp_yr k56
        first
          | (refine L100 hn _ (((((((f21.wk w3).tr (f39.wk w3)).set rfl).tr (f56.wk w3)).set rfl).tr ((f81.tr f91).wk w3)).set rfl) (b91.fr (P := fun a => decide (a = 22)) (Fr.rf.set rfl) rfl rfl) (PCx.ld p91 (fun k => by simp [setI]) (fun s hs hl => LdC.wp (r := 2) hl (Or.inr rfl) (by decide) (nl s (k91 s hs).1))) k91 (fun q s hq => ?_) (fun q s hq => ?_) (fun q s hq => ?_)
             · simp only [setI]; rw [if_neg (by omega), f91.1 _ _ rfl, f81.1 _ _ rfl]; simp only [setI]; rw [if_neg (by omega), f56.1 _ _ rfl]; simp only [setI]; rw [if_pos ⟨trivial, trivial⟩]; exact v39 q s hq
             · simp only [setI]; rw [if_neg (by omega), f91.1 _ _ rfl, f81.1 _ _ rfl]; simp only [setI]; rw [if_pos ⟨trivial, trivial⟩]; have := wx q s hq; first | (rw [pI_t h59] at this; exact this) | (rw [pI_f h59] at this; exact this)
             · simp only [setI]; rw [if_pos ⟨trivial, trivial⟩]; exact v91 q s hq)
          | (have p9 : PCx T 17 m81 (sx (pY4 T st)) := by show PCx T 17 m81 (sx (pb (sx (pY3 T st)) (yr T 8))); rw [(yr_n h84).1]; rw [if_neg h84] at p81; exact p81
             refine L100 hn _ (((((((f21.wk w3).tr (f39.wk w3)).set rfl).tr (f56.wk w3)).set rfl).tr (f81.wk w3)).set rfl) (b81.fr (P := fun a => decide (a = 22)) (Fr.rf.set rfl) rfl rfl) (PCx.ld p9 (fun k => by simp [setI]) (fun s hs hl => LdC.wp (r := 2) hl (Or.inr rfl) (by decide) (nl s (k91 s hs).1))) k91 (fun q s hq => ?_) (fun q s hq => ?_) (fun q s hq => ?_)
             · simp only [setI]; rw [if_neg (by omega), f81.1 _ _ rfl]; simp only [setI]; rw [if_neg (by omega), f56.1 _ _ rfl]; simp only [setI]; rw [if_pos ⟨trivial, trivial⟩]; exact v39 q s hq
             · simp only [setI]; rw [if_neg (by omega), f81.1 _ _ rfl]; simp only [setI]; rw [if_pos ⟨trivial, trivial⟩]; have := wx q s hq; first | (rw [pI_t h59] at this; exact this) | (rw [pI_f h59] at this; exact this)
             · simp only [setI]; rw [if_pos ⟨trivial, trivial⟩]; exact (yr_n h84).2 q s hq)
    · refine R_iconst 63 rfl dX5_takeParish_62 ?_
      refine R_goto 67 rfl dX5_takeParish_63 ?_
      refine R_iast ((sL st).1 0).toNat 68 rfl dX5_takeParish_67 rfl (by first | rfl | omega) (by omega) (by decide) ?_
      refine R_aload_n 69 rfl dX5_takeParish_68 rfl ?_
      refine R_getP 1 72 rfl dX5_takeParish_69 rfl rfl fl_X5_15 hD ?_
      refine R_getP 8 75 rfl dX5_takeParish_72 rfl rfl fl_X5_102 (hP _ _ _ rfl) ?_
      refine R_iconst 76 rfl dX5_takeParish_75 ?_
      refine R_aald 2 77 rfl dX5_takeParish_76 rfl rfl (by first | rfl | omega) (by decide) (by decide) (hP _ _ _ rfl) ?_
      refine R_iload_n 78 rfl dX5_takeParish_77 rfl ?_
      refine R_aload_n 79 rfl dX5_takeParish_78 rfl ?_
      refine R_ldcS 8 81 rfl dX5_takeParish_79 rfl (by decide) ?_
      refine R_callV_I (M' := mX5_takeWord) 84 rfl dX5_takeParish_81 ml_X5_107 kmX5_takeWord im_X5_takeWord se_X5_takeWord rfl ⟨by decide, rfl⟩ (c_X5_takeWord 8 (sx (pY3 T st)) hΓ (by decide) (b67 _) (p67 _)) rfl rfl ⟨Nat.le_of_ble_eq_true rfl, Nat.le_of_ble_eq_true rfl⟩ (Nat.le_of_ble_eq_true rfl) ⟨Nat.le_of_ble_eq_true rfl, Nat.le_of_ble_eq_true rfl⟩ ?_
      rintro z81 m81 h81
      obtain ⟨rfl, f81, p81⟩ := h81
      have b81 := (b67 _).fr f81 rfl rfl
      clear hP hD
      have hP := b81.1.2
      have hD := b81.2.2.2.2
      refine R_ifp_eq 87 97 rfl rfl dX5_takeParish_84 (fun h84 => ?_) (fun h84 => ?_)
      · refine R_bipush 99 rfl dX5_takeParish_97 (by decide) ?_
        refine R_iast ((sL st).1 0).toNat 100 rfl dX5_takeParish_99 rfl (by first | rfl | omega) (by omega) (by decide) ?_
        have wx := (wd_x (T := T) (x := sx (pY2 T st)) (i := 7)).2
        have k91 : kp T st (sx (pY4 T st)) := kp_yr k56
        first
          | (refine L100 hn _ (((((((f21.wk w3).tr (f39.wk w3)).set rfl).tr (f56.wk w3)).set rfl).tr ((f81.tr f91).wk w3)).set rfl) (b91.fr (P := fun a => decide (a = 22)) (Fr.rf.set rfl) rfl rfl) (PCx.ld p91 (fun k => by simp [setI]) (fun s hs hl => LdC.wp (r := 2) hl (Or.inr rfl) (by decide) (nl s (k91 s hs).1))) k91 (fun q s hq => ?_) (fun q s hq => ?_) (fun q s hq => ?_)
             · simp only [setI]; rw [if_neg (by omega), f91.1 _ _ rfl, f81.1 _ _ rfl]; simp only [setI]; rw [if_neg (by omega), f56.1 _ _ rfl]; simp only [setI]; rw [if_pos ⟨trivial, trivial⟩]; exact v39 q s hq
             · simp only [setI]; rw [if_neg (by omega), f91.1 _ _ rfl, f81.1 _ _ rfl]; simp only [setI]; rw [if_pos ⟨trivial, trivial⟩]; have := wx q s hq; first | (rw [pI_t h59] at this; exact this) | (rw [pI_f h59] at this; exact this)
             · simp only [setI]; rw [if_pos ⟨trivial, trivial⟩]; exact v91 q s hq)
          | (have p9 : PCx T 17 m81 (sx (pY4 T st)) := by show PCx T 17 m81 (sx (pb (sx (pY3 T st)) (yr T 8))); rw [(yr_n h84).1]; rw [if_neg h84] at p81; exact p81
             refine L100 hn _ (((((((f21.wk w3).tr (f39.wk w3)).set rfl).tr (f56.wk w3)).set rfl).tr (f81.wk w3)).set rfl) (b81.fr (P := fun a => decide (a = 22)) (Fr.rf.set rfl) rfl rfl) (PCx.ld p9 (fun k => by simp [setI]) (fun s hs hl => LdC.wp (r := 2) hl (Or.inr rfl) (by decide) (nl s (k91 s hs).1))) k91 (fun q s hq => ?_) (fun q s hq => ?_) (fun q s hq => ?_)
             · simp only [setI]; rw [if_neg (by omega), f81.1 _ _ rfl]; simp only [setI]; rw [if_neg (by omega), f56.1 _ _ rfl]; simp only [setI]; rw [if_pos ⟨trivial, trivial⟩]; exact v39 q s hq
             · simp only [setI]; rw [if_neg (by omega), f81.1 _ _ rfl]; simp only [setI]; rw [if_pos ⟨trivial, trivial⟩]; have := wx q s hq; first | (rw [pI_t h59] at this; exact this) | (rw [pI_f h59] at this; exact this)
             · simp only [setI]; rw [if_pos ⟨trivial, trivial⟩]; exact (yr_n h84).2 q s hq)
      · refine R_aload_n 88 rfl dX5_takeParish_87 rfl ?_
        refine R_iconst 89 rfl dX5_takeParish_88 ?_
        refine R_bipush 91 rfl dX5_takeParish_89 (by decide) ?_
        refine R_callV_I (M' := mX5_takeNumber) 94 rfl dX5_takeParish_91 ml_X5_71 kmX5_takeNumber im_X5_takeNumber se_X5_takeNumber rfl ⟨by decide, rfl⟩ (c_X5_takeNumber 0 89 (pb (sx (pY3 T st)) (adv T)) b81 (by rw [if_pos h84] at p81; exact p81) (fun _ _ => ⟨⟨by omega, by omega⟩, ⟨by omega, by omega⟩⟩)) rfl rfl ⟨Nat.le_of_ble_eq_true rfl, Nat.le_of_ble_eq_true rfl⟩ (Nat.le_of_ble_eq_true rfl) ⟨Nat.le_of_ble_eq_true rfl, Nat.le_of_ble_eq_true rfl⟩ ?_
        rintro z91 m91 h91
        obtain ⟨f91, p91, v91⟩ := h91
        have b91 := b81.fr f91 rfl rfl
        clear hP hD
        have hP := b91.1.2
        have hD := b91.2.2.2.2
        rw [← yr_y h84] at p91 v91
        refine R_goto 99 rfl dX5_takeParish_94 ?_
        refine R_iast ((sL st).1 0).toNat 100 rfl dX5_takeParish_99 rfl (by first | rfl | omega) (by omega) (by decide) ?_
        have wx := (wd_x (T := T) (x := sx (pY2 T st)) (i := 7)).2
        have k91 : kp T st (sx (pY4 T st)) := kp_yr k56
        first
          | (refine L100 hn _ (((((((f21.wk w3).tr (f39.wk w3)).set rfl).tr (f56.wk w3)).set rfl).tr ((f81.tr f91).wk w3)).set rfl) (b91.fr (P := fun a => decide (a = 22)) (Fr.rf.set rfl) rfl rfl) (PCx.ld p91 (fun k => by simp [setI]) (fun s hs hl => LdC.wp (r := 2) hl (Or.inr rfl) (by decide) (nl s (k91 s hs).1))) k91 (fun q s hq => ?_) (fun q s hq => ?_) (fun q s hq => ?_)
             · simp only [setI]; rw [if_neg (by omega), f91.1 _ _ rfl, f81.1 _ _ rfl]; simp only [setI]; rw [if_neg (by omega), f56.1 _ _ rfl]; simp only [setI]; rw [if_pos ⟨trivial, trivial⟩]; exact v39 q s hq
             · simp only [setI]; rw [if_neg (by omega), f91.1 _ _ rfl, f81.1 _ _ rfl]; simp only [setI]; rw [if_pos ⟨trivial, trivial⟩]; have := wx q s hq; first | (rw [pI_t h59] at this; exact this) | (rw [pI_f h59] at this; exact this)
             · simp only [setI]; rw [if_pos ⟨trivial, trivial⟩]; exact v91 q s hq)
          | (have p9 : PCx T 17 m81 (sx (pY4 T st)) := by show PCx T 17 m81 (sx (pb (sx (pY3 T st)) (yr T 8))); rw [(yr_n h84).1]; rw [if_neg h84] at p81; exact p81
             refine L100 hn _ (((((((f21.wk w3).tr (f39.wk w3)).set rfl).tr (f56.wk w3)).set rfl).tr (f81.wk w3)).set rfl) (b81.fr (P := fun a => decide (a = 22)) (Fr.rf.set rfl) rfl rfl) (PCx.ld p9 (fun k => by simp [setI]) (fun s hs hl => LdC.wp (r := 2) hl (Or.inr rfl) (by decide) (nl s (k91 s hs).1))) k91 (fun q s hq => ?_) (fun q s hq => ?_) (fun q s hq => ?_)
             · simp only [setI]; rw [if_neg (by omega), f81.1 _ _ rfl]; simp only [setI]; rw [if_neg (by omega), f56.1 _ _ rfl]; simp only [setI]; rw [if_pos ⟨trivial, trivial⟩]; exact v39 q s hq
             · simp only [setI]; rw [if_neg (by omega), f81.1 _ _ rfl]; simp only [setI]; rw [if_pos ⟨trivial, trivial⟩]; have := wx q s hq; first | (rw [pI_t h59] at this; exact this) | (rw [pI_f h59] at this; exact this)
             · simp only [setI]; rw [if_pos ⟨trivial, trivial⟩]; exact (yr_n h84).2 q s hq)
  · refine R_aload_n 15 rfl dX5_takeParish_14 rfl ?_
    refine R_iconst 16 rfl dX5_takeParish_15 ?_
    refine R_callV_V (M' := mX5_refuse) 19 rfl dX5_takeParish_16 ml_X5_93 kmX5_refuse im_X5_refuse se_X5_refuse rfl ⟨by decide, rfl⟩ (c_X5_refuse 5 _ hx0 (by omega)) rfl rfl ⟨Nat.le_of_ble_eq_true rfl, Nat.le_of_ble_eq_true rfl⟩ (Nat.le_of_ble_eq_true rfl) ⟨Nat.le_of_ble_eq_true rfl, Nat.le_of_ble_eq_true rfl⟩ ?_
    rintro m16 h16
    obtain ⟨f16, p16⟩ := h16
    refine R_return dX5_takeParish_19 rfl ?_
    have e : parishT T st = .inl (5, st.2.1) := if_pos (by omega)
    rw [e]
    exact QV_mk ⟨f16.wk w3, p16⟩
end
