section
variable {Γ : GX} {m m' m'' : Mem} {T : Tp} {L : Ld} {x : PX St}
theorem MLd.addK {p f t hh a : Int} (h : MLd m L) (h0 : 0 ≤ L.1 1) (e0 : m'.1 104 1 = L.1 1 + 1) (e1 : ∀ j, j ≠ 1 → m'.1 104 j = m.1 104 j) (e3 : ∀ k, m'.1 105 k = m.1 105 k) (e4 : ∀ k, k < 5 * (L.1 1).toNat → m'.1 106 k = m.1 106 k) (v0 : m'.1 106 (5 * (L.1 1).toNat) = p) (v1 : m'.1 106 (5 * (L.1 1).toNat + 1) = f) (v2 : m'.1 106 (5 * (L.1 1).toNat + 2) = t) (v3 : m'.1 106 (5 * (L.1 1).toNat + 3) = hh) (v4 : m'.1 106 (5 * (L.1 1).toNat + 4) = a) : MLd m' (addK L p f t hh a) := by
  refine ⟨fun j hj => ?_, fun p hp w hw => ?_, fun k hk w hw => ?_⟩
  · show m'.1 104 j = (if j = 1 then L.1 1 + 1 else L.1 j)
    by_cases q : j = 1
    · rw [if_pos q, q]; exact e0
    · rw [if_neg q, e1 j q]; exact h.1 j hj
  · show m'.1 105 (4 * p + w) = L.2.1 w p
    rw [e3]; exact h.2.1 p hp w hw
  · have hp2 : (k : Int) < L.1 1 + 1 := hk
    show m'.1 106 (5 * k + w) = (if k = (L.1 1).toNat then (if w = 0 then p else if w = 1 then f else if w = 2 then t else if w = 3 then hh else a) else L.2.2 w k)
    by_cases q : k = (L.1 1).toNat
    · rw [if_pos q, q]
      rcases (show w = 0 ∨ w = 1 ∨ w = 2 ∨ w = 3 ∨ w = 4 by omega) with rfl | rfl | rfl | rfl | rfl
      · exact v0
      · exact v1
      · exact v2
      · exact v3
      · exact v4
    · rw [if_neg q, e4 _ (by omega)]; exact h.2.2 k (by omega) w hw
theorem c_X11_readClerk (st : St) (hb : MB T m) (hx : MCa T m st) : C Γ mX11_readClerk 3 120 0 0 [vr 96] SH m (QV SH (fun m' => Fy m m' ∧ MCx T m' (clerkT T st))) := by
  refine C_of_R rfl (Nat.le_of_ble_eq_true rfl) ?_
  have hx0 : MCx T m (.inr st) := hx
  obtain ⟨g3, g5, g6, g7, g8, g18, v, hL, hB⟩ := hx
  have hP := hb.1
  have l0 : m.1 104 0 = (sL st).1 0 := hL.1 0 (by omega)
  have l1 : m.1 104 1 = (sL st).1 1 := hL.1 1 (by omega)
  have b0 := hB.1
  have b1 := hB.2.1
  have b2 := hB.2.2.1
  have b3 := hB.2.2.2
  have L79 : ¬ 8 ≤ (sL st).1 1 → ∀ za p f t h a mm, za = 5 * (sL st).1 1 → Fn m mm → MCx T mm (sx (kY6 T st)) → kp T st (sx (kY6 T st)) → (∀ q s, kY2 T st = .inr (q, s) → p = q) → (∀ q s, kY3 T st = .inr (q, s) → f = q) → (∀ q s, kY4 T st = .inr (q, s) → t = q) → (∀ q s, kY5 T st = .inr (q, s) → h = q) → (∀ q s, kY6 T st = .inr (q, s) → a = q) → R Γ mX11_readClerk { frames := 3, cells := 0, slots := 0, locals := 120 } 0 0 (QV SH (fun m' => Fy m m' ∧ MCx T m' (clerkT T st))) 0 0 79 [some (vr 96), some (vi za), some (vi p), some (vi f), some (vi t), some (vi h), some (vi a)] [] SH mm := by
    intro hn za p f t h a mm hza fm pm km c2 c3 c4 c5 c6
    have bm := hb.fn fm
    clear hP
    have hP := bm.1
    cases h5 : sx (kY6 T st) with
    | inl e =>
      rw [h5] at pm
      have q3 := pm.1
      have q1 := pm.2.2
      refine R_aload_n 80 rfl dX11_readClerk_79 rfl ?_
      refine R_getI 3 83 rfl dX11_readClerk_80 rfl rfl fl_X11_67 ?_
      refine R_if_ne 86 142 rfl rfl dX11_readClerk_83 (by first | assumption | exact ⟨by omega, by omega⟩) (fun h83 => ?_) (fun h83 => ?_)
      · refine R_return dX11_readClerk_142 rfl ?_
        rw [clk_l hn h5]
        exact QV_mk ⟨fm.y, pm⟩
      · exfalso; omega
    | inr s =>
      have kk := km s h5
      rw [h5] at pm
      obtain ⟨w1, w2, w3, w4, w5, s2, s3, s4, s5, y2, y3, y4, y5, y6, yp⟩ := clk_r hn h5
      obtain rfl := c2 _ _ y2
      obtain rfl := c3 _ _ y3
      obtain rfl := c4 _ _ y4
      obtain rfl := c5 _ _ y5
      obtain rfl := c6 _ _ y6
      have es : sL s = sL st := by unfold sL; rw [kk.1]
      obtain ⟨a3, a5, a6, a7, a8, a18, av, aL, aB⟩ := pm
      have l2 : mm.1 104 1 = (sL st).1 1 := by rw [← es]; exact aL.1 1 (by omega)
      refine R_aload_n 80 rfl dX11_readClerk_79 rfl ?_
      refine R_getI 3 83 rfl dX11_readClerk_80 rfl rfl fl_X11_67 ?_
      refine R_if_ne 86 142 rfl rfl dX11_readClerk_83 (by first | assumption | exact ⟨by omega, by omega⟩) (fun h83 => ?_) (fun h83 => ?_)
      · refine R_return dX11_readClerk_142 rfl ?_
        first
        | (exfalso; omega)
        | (rw [yp]
           refine QV_mk ⟨(((((fm.y.set (by omega)).set (by omega)).set (by omega)).set (by omega)).set (by omega)).set (by omega), ?_⟩
           refine ⟨by simp [setI]; exact a3, by simp [setI]; exact a5, by simp [setI]; exact a6, by simp [setI]; exact a7, fun w => by simp [setI]; exact a8 w, by simp [setI]; exact a18, av, ?_, ?_⟩
           · show MLd _ (addK (sL s) _ _ _ _ _)
             rw [es] at aL ⊢
             refine MLd.addK aL b2 ?_ ?_ ?_ ?_ ?_ ?_ ?_ ?_ ?_
             · simp [setI]; exact l2
             · intro j hj; simp only [setI]; rw [if_neg (by omega), if_neg (by omega), if_neg (by omega), if_neg (by omega), if_neg (by omega), if_neg (by omega)]
             · intro k; simp only [setI]; rw [if_neg (by omega), if_neg (by omega), if_neg (by omega), if_neg (by omega), if_neg (by omega), if_neg (by omega)]
             · intro k hk; simp only [setI]; rw [if_neg (by omega), if_neg (by omega), if_neg (by omega), if_neg (by omega), if_neg (by omega), if_neg (by omega)]
             · simp only [setI]; rw [if_neg (by omega), if_neg (by omega), if_neg (by omega), if_neg (by omega), if_neg (by omega), if_pos (by first | omega | simp)]
             · simp only [setI]; rw [if_neg (by omega), if_neg (by omega), if_neg (by omega), if_neg (by omega), if_pos (by first | omega | simp)]
             · simp only [setI]; rw [if_neg (by omega), if_neg (by omega), if_neg (by omega), if_pos (by first | omega | simp)]
             · simp only [setI]; rw [if_neg (by omega), if_neg (by omega), if_pos (by first | omega | simp)]
             · simp only [setI]; rw [if_neg (by omega), if_pos (by first | omega | simp)]
           · show LdB (addK (sL s) _ _ _ _ _)
             rw [es]
             exact ⟨b0, b1, by show 0 ≤ (sL st).1 1 + 1; omega, by show (sL st).1 1 + 1 ≤ 8; omega⟩)
      · refine R_aload_n 87 rfl dX11_readClerk_86 rfl ?_
        refine R_getP 17 90 rfl dX11_readClerk_87 rfl rfl fl_X11_37 (hP _ _ _ rfl) ?_
        refine R_iload_n 91 rfl dX11_readClerk_90 rfl ?_
        refine R_iload_n 92 rfl dX11_readClerk_91 rfl ?_
        refine R_iast (5 * ((sL st).1 1).toNat) 93 rfl dX11_readClerk_92 rfl (by first | rfl | omega) (by omega) (by decide) ?_
        refine R_aload_n 94 rfl dX11_readClerk_93 rfl ?_
        refine R_getP 17 97 rfl dX11_readClerk_94 rfl rfl fl_X11_37 (hP _ _ _ rfl) ?_
        refine R_iload_n 98 rfl dX11_readClerk_97 rfl ?_
        refine R_iconst 99 rfl dX11_readClerk_98 ?_
        refine R_iadd 100 rfl dX11_readClerk_99 ?_
        refine R_iload_n 101 rfl dX11_readClerk_100 rfl ?_
        refine R_iast (5 * ((sL st).1 1).toNat + 1) 102 rfl dX11_readClerk_101 rfl (by first | rfl | omega) (by omega) (by decide) ?_
        refine R_aload_n 103 rfl dX11_readClerk_102 rfl ?_
        refine R_getP 17 106 rfl dX11_readClerk_103 rfl rfl fl_X11_37 (hP _ _ _ rfl) ?_
        refine R_iload_n 107 rfl dX11_readClerk_106 rfl ?_
        refine R_iconst 108 rfl dX11_readClerk_107 ?_
        refine R_iadd 109 rfl dX11_readClerk_108 ?_
        refine R_iload 111 rfl dX11_readClerk_109 rfl ?_
        refine R_iast (5 * ((sL st).1 1).toNat + 2) 112 rfl dX11_readClerk_111 rfl (by first | rfl | omega) (by omega) (by decide) ?_
        refine R_aload_n 113 rfl dX11_readClerk_112 rfl ?_
        refine R_getP 17 116 rfl dX11_readClerk_113 rfl rfl fl_X11_37 (hP _ _ _ rfl) ?_
        refine R_iload_n 117 rfl dX11_readClerk_116 rfl ?_
        refine R_iconst 118 rfl dX11_readClerk_117 ?_
        refine R_iadd 119 rfl dX11_readClerk_118 ?_
        refine R_iload 121 rfl dX11_readClerk_119 rfl ?_
        refine R_iast (5 * ((sL st).1 1).toNat + 3) 122 rfl dX11_readClerk_121 rfl (by first | rfl | omega) (by omega) (by decide) ?_
        refine R_aload_n 123 rfl dX11_readClerk_122 rfl ?_
        refine R_getP 17 126 rfl dX11_readClerk_123 rfl rfl fl_X11_37 (hP _ _ _ rfl) ?_
        refine R_iload_n 127 rfl dX11_readClerk_126 rfl ?_
        refine R_iconst 128 rfl dX11_readClerk_127 ?_
        refine R_iadd 129 rfl dX11_readClerk_128 ?_
        refine R_iload 131 rfl dX11_readClerk_129 rfl ?_
        refine R_iast (5 * ((sL st).1 1).toNat + 4) 132 rfl dX11_readClerk_131 rfl (by first | rfl | omega) (by omega) (by decide) ?_
        refine R_aload_n 133 rfl dX11_readClerk_132 rfl ?_
        refine R_getP 15 136 rfl dX11_readClerk_133 rfl rfl fl_X11_31 (hP _ _ _ rfl) ?_
        refine R_iconst 137 rfl dX11_readClerk_136 ?_
        refine R_dup2 138 rfl dX11_readClerk_137 rfl rfl ?_
        refine R_iald 1 139 rfl dX11_readClerk_138 rfl (by first | rfl | omega) (by decide) (by decide) ?_
        refine R_iconst 140 rfl dX11_readClerk_139 ?_
        refine R_iadd 141 rfl dX11_readClerk_140 ?_
        refine R_iast 1 142 rfl dX11_readClerk_141 rfl (by first | rfl | omega) (by decide) (by decide) ?_
        refine R_return dX11_readClerk_142 rfl ?_
        first
        | (exfalso; omega)
        | (rw [yp]
           refine QV_mk ⟨(((((fm.y.set (by omega)).set (by omega)).set (by omega)).set (by omega)).set (by omega)).set (by omega), ?_⟩
           refine ⟨by simp [setI]; exact a3, by simp [setI]; exact a5, by simp [setI]; exact a6, by simp [setI]; exact a7, fun w => by simp [setI]; exact a8 w, by simp [setI]; exact a18, av, ?_, ?_⟩
           · show MLd _ (addK (sL s) _ _ _ _ _)
             rw [es] at aL ⊢
             refine MLd.addK aL b2 ?_ ?_ ?_ ?_ ?_ ?_ ?_ ?_ ?_
             · simp [setI]; exact l2
             · intro j hj; simp only [setI]; rw [if_neg (by omega), if_neg (by omega), if_neg (by omega), if_neg (by omega), if_neg (by omega), if_neg (by omega)]
             · intro k; simp only [setI]; rw [if_neg (by omega), if_neg (by omega), if_neg (by omega), if_neg (by omega), if_neg (by omega), if_neg (by omega)]
             · intro k hk; simp only [setI]; rw [if_neg (by omega), if_neg (by omega), if_neg (by omega), if_neg (by omega), if_neg (by omega), if_neg (by omega)]
             · simp only [setI]; rw [if_neg (by omega), if_neg (by omega), if_neg (by omega), if_neg (by omega), if_neg (by omega), if_pos (by first | omega | simp)]
             · simp only [setI]; rw [if_neg (by omega), if_neg (by omega), if_neg (by omega), if_neg (by omega), if_pos (by first | omega | simp)]
             · simp only [setI]; rw [if_neg (by omega), if_neg (by omega), if_neg (by omega), if_pos (by first | omega | simp)]
             · simp only [setI]; rw [if_neg (by omega), if_neg (by omega), if_pos (by first | omega | simp)]
             · simp only [setI]; rw [if_neg (by omega), if_pos (by first | omega | simp)]
           · show LdB (addK (sL s) _ _ _ _ _)
             rw [es]
             exact ⟨b0, b1, by show 0 ≤ (sL st).1 1 + 1; omega, by show (sL st).1 1 + 1 ≤ 8; omega⟩)
  refine R_aload_n 1 rfl dX11_readClerk_0 rfl ?_
  refine R_getP 15 4 rfl dX11_readClerk_1 rfl rfl fl_X11_31 (hP _ _ _ rfl) ?_
  refine R_iconst 5 rfl dX11_readClerk_4 ?_
  refine R_iald 1 6 rfl dX11_readClerk_5 rfl (by first | rfl | omega) (by decide) (by decide) ?_
  refine R_bipush 8 rfl dX11_readClerk_6 (by decide) ?_
  refine R_icmp_ne 11 17 rfl rfl dX11_readClerk_8 (by first | assumption | exact ⟨by omega, by omega⟩) (by first | assumption | exact ⟨by omega, by omega⟩) (fun h8 => ?_) (fun h8 => ?_)
  · refine R_aload_n 18 rfl dX11_readClerk_17 rfl ?_
    refine R_callV_V (M' := mX11_next2) 21 rfl dX11_readClerk_18 ml_X11_101 kmX11_next2 im_X11_next2 se_X11_next2 rfl ⟨by decide, rfl⟩ (c_X11_next2 _ hb hx0) rfl rfl ⟨Nat.le_of_ble_eq_true rfl, Nat.le_of_ble_eq_true rfl⟩ (Nat.le_of_ble_eq_true rfl) ⟨Nat.le_of_ble_eq_true rfl, Nat.le_of_ble_eq_true rfl⟩ ?_
    rintro m18 h18
    obtain ⟨f18, p18⟩ := h18
    have hn : ¬ 8 ≤ (sL st).1 1 := by omega
    have p18 : MCx T m18 (adv T st) := p18
    have b18 := hb.fn f18
    have k18 := adv_kp (T := T) (st := st) (s := st) v rfl (Nat.le_refl _)
    have l18 : m18.1 104 0 = (sL st).1 0 := (f18.1 _ _ (by omega)).trans l0
    have l19 : m18.1 104 1 = (sL st).1 1 := (f18.1 _ _ (by omega)).trans l1
    clear hP
    have hP := b18.1
    refine R_iconst 22 rfl dX11_readClerk_21 ?_
    refine R_aload_n 23 rfl dX11_readClerk_22 rfl ?_
    refine R_getP 15 26 rfl dX11_readClerk_23 rfl rfl fl_X11_31 (hP _ _ _ rfl) ?_
    refine R_iconst 27 rfl dX11_readClerk_26 ?_
    refine R_iald 1 28 rfl dX11_readClerk_27 rfl (by first | rfl | omega) (by decide) (by decide) ?_
    refine R_imul 29 rfl dX11_readClerk_28 ?_
    refine R_istore_n [_, _, _, _, _, _, _] 30 rfl dX11_readClerk_29 rfl (by decide) ?_
    refine R_aload_n 31 rfl dX11_readClerk_30 rfl ?_
    refine R_iconst 32 rfl dX11_readClerk_31 ?_
    refine R_aload_n 33 rfl dX11_readClerk_32 rfl ?_
    refine R_getP 15 36 rfl dX11_readClerk_33 rfl rfl fl_X11_31 (hP _ _ _ rfl) ?_
    refine R_iconst 37 rfl dX11_readClerk_36 ?_
    refine R_iald 0 38 rfl dX11_readClerk_37 rfl (by first | rfl | omega) (by decide) (by decide) ?_
    refine R_iconst 39 rfl dX11_readClerk_38 ?_
    refine R_isub 40 rfl dX11_readClerk_39 ?_
    rw [l18]
    refine R_callV_I (M' := mX11_number) 43 rfl dX11_readClerk_40 ml_X11_108 kmX11_number im_X11_number se_X11_number rfl ⟨by decide, rfl⟩ (c_X11_number 0 ((sL st).1 0 - 1) (adv T st) b18 p18 (fun _ _ => ⟨⟨by omega, by omega⟩, ⟨by omega, by omega⟩⟩)) rfl rfl ⟨Nat.le_of_ble_eq_true rfl, Nat.le_of_ble_eq_true rfl⟩ (Nat.le_of_ble_eq_true rfl) ⟨Nat.le_of_ble_eq_true rfl, Nat.le_of_ble_eq_true rfl⟩ ?_
    rintro z40 m40 h40
    obtain ⟨f40, p40, v40, -⟩ := h40
    have b40 := b18.fn f40
    have k40 : kp T st (sx (kY2 T st)) := kp_num k18
    have p40 : MCx T m40 (sx (kY2 T st)) := p40
    clear hP
    have hP := b40.1
    refine R_istore_n [_, _, _, _, _, _, _] 44 rfl dX11_readClerk_43 rfl (by decide) ?_
    refine R_aload_n 45 rfl dX11_readClerk_44 rfl ?_
    refine R_iconst 46 rfl dX11_readClerk_45 ?_
    refine R_bipush 48 rfl dX11_readClerk_46 (by decide) ?_
    refine R_callV_I (M' := mX11_number) 51 rfl dX11_readClerk_48 ml_X11_108 kmX11_number im_X11_number se_X11_number rfl ⟨by decide, rfl⟩ (c_X11_number 0 89 (sx (kY2 T st)) b40 p40 (fun _ _ => ⟨⟨by omega, by omega⟩, ⟨by omega, by omega⟩⟩)) rfl rfl ⟨Nat.le_of_ble_eq_true rfl, Nat.le_of_ble_eq_true rfl⟩ (Nat.le_of_ble_eq_true rfl) ⟨Nat.le_of_ble_eq_true rfl, Nat.le_of_ble_eq_true rfl⟩ ?_
    rintro z48 m48 h48
    obtain ⟨f48, p48, v48, r48⟩ := h48
    have b48 := b40.fn f48
    have k48 : kp T st (sx (kY3 T st)) := kp_num k40
    have p48 : MCx T m48 (sx (kY3 T st)) := p48
    have v48 : ∀ v s, kY3 T st = .inr (v, s) → z48 = v := v48
    clear hP
    have hP := b48.1
    refine R_istore_n [_, _, _, _, _, _, _] 52 rfl dX11_readClerk_51 rfl (by decide) ?_
    refine R_aload_n 53 rfl dX11_readClerk_52 rfl ?_
    refine R_iload_n 54 rfl dX11_readClerk_53 rfl ?_
    refine R_bipush 56 rfl dX11_readClerk_54 (by decide) ?_
    refine R_callV_I (M' := mX11_number) 59 rfl dX11_readClerk_56 ml_X11_108 kmX11_number im_X11_number se_X11_number rfl ⟨by decide, rfl⟩ (c_X11_number z48 89 (sx (kY3 T st)) b48 p48 (fun _ _ => ⟨⟨by omega, by omega⟩, ⟨by omega, by omega⟩⟩)) rfl rfl ⟨Nat.le_of_ble_eq_true rfl, Nat.le_of_ble_eq_true rfl⟩ (Nat.le_of_ble_eq_true rfl) ⟨Nat.le_of_ble_eq_true rfl, Nat.le_of_ble_eq_true rfl⟩ ?_
    rintro z56 m56 h56
    obtain ⟨f56, p56, v56, -⟩ := h56
    have b56 := b48.fn f56
    have k56 := kp_num (lo := z48) (hi := 89) k48
    rw [numz v48] at p56 v56 k56
    have k56 : kp T st (sx (kY4 T st)) := k56
    have p56 : MCx T m56 (sx (kY4 T st)) := p56
    clear hP
    have hP := b56.1
    refine R_istore [_, _, _, _, _, _, _] 61 rfl dX11_readClerk_59 rfl (by decide) ?_
    refine R_aload_n 62 rfl dX11_readClerk_61 rfl ?_
    refine R_iconst 63 rfl dX11_readClerk_62 ?_
    refine R_sipush 66 rfl dX11_readClerk_63 (by decide) ?_
    refine R_callV_I (M' := mX11_number) 69 rfl dX11_readClerk_66 ml_X11_108 kmX11_number im_X11_number se_X11_number rfl ⟨by decide, rfl⟩ (c_X11_number 0 255 (sx (kY4 T st)) b56 p56 (fun _ _ => ⟨⟨by omega, by omega⟩, ⟨by omega, by omega⟩⟩)) rfl rfl ⟨Nat.le_of_ble_eq_true rfl, Nat.le_of_ble_eq_true rfl⟩ (Nat.le_of_ble_eq_true rfl) ⟨Nat.le_of_ble_eq_true rfl, Nat.le_of_ble_eq_true rfl⟩ ?_
    rintro z66 m66 h66
    obtain ⟨f66, p66, v66, -⟩ := h66
    have b66 := b56.fn f66
    have k66 : kp T st (sx (kY5 T st)) := kp_num k56
    have p66 : MCx T m66 (sx (kY5 T st)) := p66
    clear hP
    have hP := b66.1
    refine R_istore [_, _, _, _, _, _, _] 71 rfl dX11_readClerk_69 rfl (by decide) ?_
    refine R_aload_n 72 rfl dX11_readClerk_71 rfl ?_
    refine R_iconst 73 rfl dX11_readClerk_72 ?_
    refine R_iconst 74 rfl dX11_readClerk_73 ?_
    refine R_callV_I (M' := mX11_number) 77 rfl dX11_readClerk_74 ml_X11_108 kmX11_number im_X11_number se_X11_number rfl ⟨by decide, rfl⟩ (c_X11_number 0 4 (sx (kY5 T st)) b66 p66 (fun _ _ => ⟨⟨by omega, by omega⟩, ⟨by omega, by omega⟩⟩)) rfl rfl ⟨Nat.le_of_ble_eq_true rfl, Nat.le_of_ble_eq_true rfl⟩ (Nat.le_of_ble_eq_true rfl) ⟨Nat.le_of_ble_eq_true rfl, Nat.le_of_ble_eq_true rfl⟩ ?_
    rintro z74 m74 h74
    obtain ⟨f74, p74, v74, -⟩ := h74
    refine R_istore [_, _, _, _, _, _, _] 79 rfl dX11_readClerk_77 rfl (by decide) ?_
    exact L79 hn _ _ _ _ _ _ _ (by rw [l19]) (((((f18.tr f40).tr f48).tr f56).tr f66).tr f74) p74 (kp_num k66) v40 v48 v56 v66 v74
  · refine R_aload_n 12 rfl dX11_readClerk_11 rfl ?_
    refine R_iconst 13 rfl dX11_readClerk_12 ?_
    refine R_callV_V (M' := mX11_fails) 16 rfl dX11_readClerk_13 ml_X11_97 kmX11_fails im_X11_fails se_X11_fails rfl ⟨by decide, rfl⟩ (c_X11_fails 5 _ hx0 (by omega)) rfl rfl ⟨Nat.le_of_ble_eq_true rfl, Nat.le_of_ble_eq_true rfl⟩ (Nat.le_of_ble_eq_true rfl) ⟨Nat.le_of_ble_eq_true rfl, Nat.le_of_ble_eq_true rfl⟩ ?_
    rintro m13 h13
    obtain ⟨f13, p13⟩ := h13
    refine R_return dX11_readClerk_16 rfl ?_
    have e : clerkT T st = .inl (5, st.2.1) := if_pos (by omega)
    rw [e]
    exact QV_mk ⟨f13.y, p13⟩
end
