/-- what a line of the reference's reader changes -/
def Fy (m m' : Mem) : Prop := (∀ a k, ¬ (a = 96 ∧ (3 ≤ k ∧ k ≤ 8 ∨ k = 18)) → ¬ (104 ≤ a ∧ a ≤ 106) → m'.1 a k = m.1 a k) ∧ m'.2 = m.2
section
variable {Γ : GX} {m m' m'' : Mem} {T : Tp} {L : Ld} {x : PX St}
theorem Fy.rf : Fy m m := ⟨fun _ _ _ _ => rfl, rfl⟩
theorem Fy.tr (h : Fy m m') (h' : Fy m' m'') : Fy m m'' := ⟨fun a k q1 q2 => (h'.1 a k q1 q2).trans (h.1 a k q1 q2), h'.2.trans h.2⟩
theorem Fn.y (h : Fn m m') : Fy m m' := ⟨fun a k q1 q2 => h.1 a k (by omega), h.2⟩
theorem Fy.set {a k : Nat} {z : Int} (h : Fy m m') (ha : (104 ≤ a ∧ a ≤ 106) ∨ (a = 96 ∧ k = 18)) : Fy m (setI m' a k z) := ⟨fun b j q1 q2 => by
  simp only [setI]
  rw [if_neg (by omega)]
  exact h.1 b j q1 q2, h.2⟩
theorem MB.fy (h : MB T m) (hf : Fy m m') : MB T m' := h.eq (fun a k q => hf.1 a k (by omega) (by omega)) hf.2
theorem MLd.addP {a t mi sc : Int} (h : MLd m L) (h0 : 0 ≤ L.1 0) (e0 : m'.1 104 0 = L.1 0 + 1) (e1 : ∀ j, 1 ≤ j → m'.1 104 j = m.1 104 j) (e3 : ∀ k, k < 4 * (L.1 0).toNat → m'.1 105 k = m.1 105 k) (e4 : ∀ k, m'.1 106 k = m.1 106 k) (v0 : m'.1 105 (4 * (L.1 0).toNat) = a) (v1 : m'.1 105 (4 * (L.1 0).toNat + 1) = t) (v2 : m'.1 105 (4 * (L.1 0).toNat + 2) = mi) (v3 : m'.1 105 (4 * (L.1 0).toNat + 3) = sc) : MLd m' (addP L a t mi sc) := by
  refine ⟨fun j hj => ?_, fun p hp w hw => ?_, fun k hk w hw => ?_⟩
  · show m'.1 104 j = (if j = 0 then L.1 0 + 1 else L.1 j)
    by_cases q : j = 0
    · rw [if_pos q, q]; exact e0
    · rw [if_neg q, e1 j (by omega)]; exact h.1 j hj
  · have hp2 : (p : Int) < L.1 0 + 1 := hp
    show m'.1 105 (4 * p + w) = (if p = (L.1 0).toNat then (if w = 0 then a else if w = 1 then t else if w = 2 then mi else sc) else L.2.1 w p)
    by_cases q : p = (L.1 0).toNat
    · rw [if_pos q, q]
      rcases (show w = 0 ∨ w = 1 ∨ w = 2 ∨ w = 3 by omega) with rfl | rfl | rfl | rfl
      · exact v0
      · exact v1
      · exact v2
      · exact v3
    · rw [if_neg q, e3 _ (by omega)]; exact h.2.1 p (by omega) w hw
  · show m'.1 106 (5 * k + w) = L.2.2 w k
    rw [e4]; exact h.2.2 k hk w hw
theorem c_X11_readParish (st : St) (hb : MB T m) (hx : MCa T m st) : C Γ mX11_readParish 4 160 0 0 [vr 96] SH m (QV SH (fun m' => Fy m m' ∧ MCx T m' (parishT T st))) := by
  refine C_of_R rfl (Nat.le_of_ble_eq_true rfl) ?_
  have hx0 : MCx T m (.inr st) := hx
  obtain ⟨g3, g5, g6, g7, g8, g18, v, hL, hB⟩ := hx
  have hP := hb.1
  have l0 : m.1 104 0 = (sL st).1 0 := hL.1 0 (by omega)
  have b0 := hB.1
  have b1 := hB.2.1
  have b9 := hB.2.2
  have L69 : ¬ 12 ≤ (sL st).1 0 → ∀ a t mi sc y mm, Fn m mm → MCx T mm (sx (pY5 T st)) → kp T st (sx (pY5 T st)) → (∀ q s, pY2 T st = .inr (q, s) → a = q) → (∀ q s, pY3 T st = .inr (q, s) → t = q) → (∀ q s, pY4 T st = .inr (q, s) → mi = q) → (∀ q s, pY5 T st = .inr (q, s) → sc = q) → R Γ mX11_readParish { frames := 4, cells := 0, slots := 0, locals := 160 } 0 0 (QV SH (fun m' => Fy m m' ∧ MCx T m' (parishT T st))) 0 0 69 [some (vr 96), some (vi a), some (vi t), some (vi mi), some (vi sc), y] [] SH mm := by
    intro hn a t mi sc y mm fm pm km c2 c3 c4 c5
    have bm := hb.fn fm
    clear hP
    have hP := bm.1
    cases h5 : sx (pY5 T st) with
    | inl e =>
      rw [h5] at pm
      have q3 := pm.1
      have q1 := pm.2.2
      refine R_aload_n 70 rfl dX11_readParish_69 rfl ?_
      refine R_getI 3 73 rfl dX11_readParish_70 rfl rfl fl_X11_67 ?_
      refine R_if_ne 76 135 rfl rfl dX11_readParish_73 (by first | assumption | exact ⟨by omega, by omega⟩) (fun h73 => ?_) (fun h73 => ?_)
      · refine R_return dX11_readParish_135 rfl ?_
        rw [par_l hn h5]
        exact QV_mk ⟨fm.y, pm⟩
      · exfalso; omega
    | inr s =>
      have kk := km s h5
      rw [h5] at pm
      obtain ⟨w1, w2, w3, w4, s2, s3, s4, y2, y3, y4, y5, yp⟩ := par_r hn h5
      obtain rfl := c2 _ _ y2
      obtain rfl := c3 _ _ y3
      obtain rfl := c4 _ _ y4
      obtain rfl := c5 _ _ y5
      have es : sL s = sL st := by unfold sL; rw [kk.1]
      obtain ⟨a3, a5, a6, a7, a8, a18, av, aL, aB⟩ := pm
      have l1 : mm.1 104 0 = (sL st).1 0 := by rw [← es]; exact aL.1 0 (by omega)
      refine R_aload_n 70 rfl dX11_readParish_69 rfl ?_
      refine R_getI 3 73 rfl dX11_readParish_70 rfl rfl fl_X11_67 ?_
      refine R_if_ne 76 135 rfl rfl dX11_readParish_73 (by first | assumption | exact ⟨by omega, by omega⟩) (fun h73 => ?_) (fun h73 => ?_)
      · refine R_return dX11_readParish_135 rfl ?_
        first
        | (exfalso; omega)
        | (rw [yp]
           refine QV_mk ⟨((((fm.y.set (by omega)).set (by omega)).set (by omega)).set (by omega)).set (by omega), ?_⟩
           refine ⟨by simp [setI]; exact a3, by simp [setI]; exact a5, by simp [setI]; exact a6, by simp [setI]; exact a7, fun w => by simp [setI]; exact a8 w, by simp [setI]; exact a18, av, ?_, ?_⟩
           · show MLd _ (addP (sL s) _ _ _ _)
             rw [es] at aL ⊢
             refine MLd.addP aL b0 ?_ ?_ ?_ ?_ ?_ ?_ ?_ ?_
             · simp [setI]; exact l1
             · intro j hj; simp only [setI]; rw [if_neg (by omega), if_neg (by omega), if_neg (by omega), if_neg (by omega), if_neg (by omega)]
             · intro k hk; simp only [setI]; rw [if_neg (by omega), if_neg (by omega), if_neg (by omega), if_neg (by omega), if_neg (by omega)]
             · intro k; simp only [setI]; rw [if_neg (by omega), if_neg (by omega), if_neg (by omega), if_neg (by omega), if_neg (by omega)]
             · simp only [setI]; rw [if_neg (by omega), if_neg (by omega), if_neg (by omega), if_neg (by omega), if_pos (by first | omega | simp)]
             · simp only [setI]; rw [if_neg (by omega), if_neg (by omega), if_neg (by omega), if_pos (by first | omega | simp)]
             · simp only [setI]; rw [if_neg (by omega), if_neg (by omega), if_pos (by first | omega | simp)]
             · simp only [setI]; rw [if_neg (by omega), if_pos (by first | omega | simp)]
           · show LdB (addP (sL s) _ _ _ _)
             rw [es]
             exact ⟨by show 0 ≤ (sL st).1 0 + 1; omega, by show (sL st).1 0 + 1 ≤ 12; omega, b9.1, b9.2⟩)
      · refine R_iconst 77 rfl dX11_readParish_76 ?_
        refine R_aload_n 78 rfl dX11_readParish_77 rfl ?_
        refine R_getP 15 81 rfl dX11_readParish_78 rfl rfl fl_X11_31 (hP _ _ _ rfl) ?_
        refine R_iconst 82 rfl dX11_readParish_81 ?_
        refine R_iald 0 83 rfl dX11_readParish_82 rfl (by first | rfl | omega) (by decide) (by decide) ?_
        refine R_imul 84 rfl dX11_readParish_83 ?_
        refine R_istore [_, _, _, _, _, _] 86 rfl dX11_readParish_84 rfl (by decide) ?_
        refine R_aload_n 87 rfl dX11_readParish_86 rfl ?_
        refine R_getP 16 90 rfl dX11_readParish_87 rfl rfl fl_X11_34 (hP _ _ _ rfl) ?_
        refine R_iload 92 rfl dX11_readParish_90 rfl ?_
        refine R_iload_n 93 rfl dX11_readParish_92 rfl ?_
        refine R_iast (4 * ((sL st).1 0).toNat) 94 rfl dX11_readParish_93 rfl (by first | rfl | omega) (by omega) (by decide) ?_
        refine R_aload_n 95 rfl dX11_readParish_94 rfl ?_
        refine R_getP 16 98 rfl dX11_readParish_95 rfl rfl fl_X11_34 (hP _ _ _ rfl) ?_
        refine R_iload 100 rfl dX11_readParish_98 rfl ?_
        refine R_iconst 101 rfl dX11_readParish_100 ?_
        refine R_iadd 102 rfl dX11_readParish_101 ?_
        refine R_iload_n 103 rfl dX11_readParish_102 rfl ?_
        refine R_iast (4 * ((sL st).1 0).toNat + 1) 104 rfl dX11_readParish_103 rfl (by first | rfl | omega) (by omega) (by decide) ?_
        refine R_aload_n 105 rfl dX11_readParish_104 rfl ?_
        refine R_getP 16 108 rfl dX11_readParish_105 rfl rfl fl_X11_34 (hP _ _ _ rfl) ?_
        refine R_iload 110 rfl dX11_readParish_108 rfl ?_
        refine R_iconst 111 rfl dX11_readParish_110 ?_
        refine R_iadd 112 rfl dX11_readParish_111 ?_
        refine R_iload_n 113 rfl dX11_readParish_112 rfl ?_
        refine R_iast (4 * ((sL st).1 0).toNat + 2) 114 rfl dX11_readParish_113 rfl (by first | rfl | omega) (by omega) (by decide) ?_
        refine R_aload_n 115 rfl dX11_readParish_114 rfl ?_
        refine R_getP 16 118 rfl dX11_readParish_115 rfl rfl fl_X11_34 (hP _ _ _ rfl) ?_
        refine R_iload 120 rfl dX11_readParish_118 rfl ?_
        refine R_iconst 121 rfl dX11_readParish_120 ?_
        refine R_iadd 122 rfl dX11_readParish_121 ?_
        refine R_iload 124 rfl dX11_readParish_122 rfl ?_
        refine R_iast (4 * ((sL st).1 0).toNat + 3) 125 rfl dX11_readParish_124 rfl (by first | rfl | omega) (by omega) (by decide) ?_
        refine R_aload_n 126 rfl dX11_readParish_125 rfl ?_
        refine R_getP 15 129 rfl dX11_readParish_126 rfl rfl fl_X11_31 (hP _ _ _ rfl) ?_
        refine R_iconst 130 rfl dX11_readParish_129 ?_
        refine R_dup2 131 rfl dX11_readParish_130 rfl rfl ?_
        refine R_iald 0 132 rfl dX11_readParish_131 rfl (by first | rfl | omega) (by decide) (by decide) ?_
        refine R_iconst 133 rfl dX11_readParish_132 ?_
        refine R_iadd 134 rfl dX11_readParish_133 ?_
        refine R_iast 0 135 rfl dX11_readParish_134 rfl (by first | rfl | omega) (by decide) (by decide) ?_
        refine R_return dX11_readParish_135 rfl ?_
        first
        | (exfalso; omega)
        | (rw [yp]
           refine QV_mk ⟨((((fm.y.set (by omega)).set (by omega)).set (by omega)).set (by omega)).set (by omega), ?_⟩
           refine ⟨by simp [setI]; exact a3, by simp [setI]; exact a5, by simp [setI]; exact a6, by simp [setI]; exact a7, fun w => by simp [setI]; exact a8 w, by simp [setI]; exact a18, av, ?_, ?_⟩
           · show MLd _ (addP (sL s) _ _ _ _)
             rw [es] at aL ⊢
             refine MLd.addP aL b0 ?_ ?_ ?_ ?_ ?_ ?_ ?_ ?_
             · simp [setI]; exact l1
             · intro j hj; simp only [setI]; rw [if_neg (by omega), if_neg (by omega), if_neg (by omega), if_neg (by omega), if_neg (by omega)]
             · intro k hk; simp only [setI]; rw [if_neg (by omega), if_neg (by omega), if_neg (by omega), if_neg (by omega), if_neg (by omega)]
             · intro k; simp only [setI]; rw [if_neg (by omega), if_neg (by omega), if_neg (by omega), if_neg (by omega), if_neg (by omega)]
             · simp only [setI]; rw [if_neg (by omega), if_neg (by omega), if_neg (by omega), if_neg (by omega), if_pos (by first | omega | simp)]
             · simp only [setI]; rw [if_neg (by omega), if_neg (by omega), if_neg (by omega), if_pos (by first | omega | simp)]
             · simp only [setI]; rw [if_neg (by omega), if_neg (by omega), if_pos (by first | omega | simp)]
             · simp only [setI]; rw [if_neg (by omega), if_pos (by first | omega | simp)]
           · show LdB (addP (sL s) _ _ _ _)
             rw [es]
             exact ⟨by show 0 ≤ (sL st).1 0 + 1; omega, by show (sL st).1 0 + 1 ≤ 12; omega, b9.1, b9.2⟩)
  have L54 : ¬ 12 ≤ (sL st).1 0 → ∀ a t y3 y4 y5 mm, Fn m mm → MCx T mm (sx (pY3 T st)) → kp T st (sx (pY3 T st)) → (∀ q s, pY2 T st = .inr (q, s) → a = q) → (∀ q s, pY3 T st = .inr (q, s) → t = q) → R Γ mX11_readParish { frames := 4, cells := 0, slots := 0, locals := 160 } 0 0 (QV SH (fun m' => Fy m m' ∧ MCx T m' (parishT T st))) 0 0 54 [some (vr 96), some (vi a), some (vi t), y3, y4, y5] [] SH mm := by
    intro hn a t y3 y4 y5 mm fm pm km c2 c3
    have bm := hb.fn fm
    clear hP
    have hP := bm.1
    refine R_aload_n 55 rfl dX11_readParish_54 rfl ?_
    refine R_bipush 57 rfl dX11_readParish_55 (by decide) ?_
    refine R_callV_I (M' := mX11_yearBehind) 60 rfl dX11_readParish_57 ml_X11_112 kmX11_yearBehind im_X11_yearBehind se_X11_yearBehind rfl ⟨by decide, rfl⟩ (c_X11_yearBehind 8 (sx (pY3 T st)) (by decide) bm pm) rfl rfl ⟨Nat.le_of_ble_eq_true rfl, Nat.le_of_ble_eq_true rfl⟩ (Nat.le_of_ble_eq_true rfl) ⟨Nat.le_of_ble_eq_true rfl, Nat.le_of_ble_eq_true rfl⟩ ?_
    rintro z57 m57 h57
    obtain ⟨f57, p57, v57⟩ := h57
    have b57 := bm.fn f57
    have p57 : MCx T m57 (sx (pY4 T st)) := p57
    refine R_istore_n [_, _, _, _, _, _] 61 rfl dX11_readParish_60 rfl (by decide) ?_
    refine R_aload_n 62 rfl dX11_readParish_61 rfl ?_
    refine R_bipush 64 rfl dX11_readParish_62 (by decide) ?_
    refine R_callV_I (M' := mX11_yearBehind) 67 rfl dX11_readParish_64 ml_X11_112 kmX11_yearBehind im_X11_yearBehind se_X11_yearBehind rfl ⟨by decide, rfl⟩ (c_X11_yearBehind 9 (sx (pY4 T st)) (by decide) b57 p57) rfl rfl ⟨Nat.le_of_ble_eq_true rfl, Nat.le_of_ble_eq_true rfl⟩ (Nat.le_of_ble_eq_true rfl) ⟨Nat.le_of_ble_eq_true rfl, Nat.le_of_ble_eq_true rfl⟩ ?_
    rintro z64 m64 h64
    obtain ⟨f64, p64, v64⟩ := h64
    refine R_istore [_, _, _, _, _, _] 69 rfl dX11_readParish_67 rfl (by decide) ?_
    exact L69 hn _ _ _ _ _ _ ((fm.tr f57).tr f64) p64 (kp_yr (kp_yr km)) c2 c3 v57 v64
  have L32 : ¬ 12 ≤ (sL st).1 0 → ∀ a y3 y4 y5 mm, Fn m mm → MCx T mm (sx (pY2 T st)) → kp T st (sx (pY2 T st)) → (∀ q s, pY2 T st = .inr (q, s) → a = q) → R Γ mX11_readParish { frames := 4, cells := 0, slots := 0, locals := 160 } 0 0 (QV SH (fun m' => Fy m m' ∧ MCx T m' (parishT T st))) 0 0 32 [some (vr 96), some (vi a), some (vi 0), y3, y4, y5] [] SH mm := by
    intro hn a y3 y4 y5 mm fm pm km c2
    have bm := hb.fn fm
    clear hP
    have hP := bm.1
    have wx := wd_x (T := T) (x := sx (pY2 T st)) (i := 7)
    have wx1 : (if isWx T 7 (sx (pY2 T st)) = true then pb (sx (pY2 T st)) (adv T) else sx (pY2 T st)) = sx (pY3 T st) := wx.1
    have wx2 : ∀ v s, pY3 T st = .inr (v, s) → pI (isWx T 7 (sx (pY2 T st)) = true) = v := wx.2
    have k3 : kp T st (sx (pY3 T st)) := kp_wd km
    clear wx
    generalize hY : sx (pY2 T st) = Y at pm wx1 wx2
    cases Y with
    | inl e =>
      have q3 := pm.1
      have q1 := pm.2.2
      have nw : ¬ isWx T 7 (.inl e) = true := by simp [isWx]
      rw [if_neg nw] at wx1
      refine R_aload_n 33 rfl dX11_readParish_32 rfl ?_
      refine R_getI 3 36 rfl dX11_readParish_33 rfl rfl fl_X11_67 ?_
      refine R_if_ne 39 54 rfl rfl dX11_readParish_36 (by first | assumption | exact ⟨by omega, by omega⟩) (fun h36 => ?_) (fun h36 => ?_)
      · exact L54 hn _ _ _ _ _ _ fm (by rw [← wx1]; exact pm) k3 c2 (fun q s hq => by rw [← wx2 q s hq]; exact (pI_f nw).symm)
      · exfalso; omega
    | inr s =>
      have q3 := pm.1
      have ni := nm_iff (T := T) (st := s) (j := 7) (by decide)
      have nr := nm_rg (T := T) (st := s)
      refine R_aload_n 33 rfl dX11_readParish_32 rfl ?_
      refine R_getI 3 36 rfl dX11_readParish_33 rfl rfl fl_X11_67 ?_
      refine R_if_ne 39 54 rfl rfl dX11_readParish_36 (by first | assumption | exact ⟨by omega, by omega⟩) (fun h36 => ?_) (fun h36 => ?_)
      · first
        | (exfalso; omega)
        | (have hw : isWx T 7 (.inr s) = true := ni.mp (by omega)
           rw [if_pos hw] at wx1
           exact L54 hn _ _ _ _ _ _ (fm.tr f51) (by rw [← wx1]; exact p51) k3 c2 (fun q s hq => by rw [← wx2 q s hq]; exact (pI_t hw).symm))
        | (have hw : ¬ isWx T 7 (.inr s) = true := fun w => by
             have := ni.mpr w
             omega
           rw [if_neg hw] at wx1
           exact L54 hn _ _ _ _ _ _ fm (by rw [← wx1]; exact pm) k3 c2 (fun q s hq => by rw [← wx2 q s hq]; exact (pI_f hw).symm))
      · refine R_aload_n 40 rfl dX11_readParish_39 rfl ?_
        refine R_callV_i (M' := mX11_nameHere) 43 rfl dX11_readParish_40 ml_X11_104 kmX11_nameHere im_X11_nameHere se_X11_nameHere rfl ⟨by decide, rfl⟩ (c_X11_nameHere s bm pm) rfl rfl ⟨Nat.le_of_ble_eq_true rfl, Nat.le_of_ble_eq_true rfl⟩ (Nat.le_of_ble_eq_true rfl) ⟨Nat.le_of_ble_eq_true rfl, Nat.le_of_ble_eq_true rfl⟩ ?_
        refine R_bipush 45 rfl dX11_readParish_43 (by decide) ?_
        refine R_icmp_ne 48 54 rfl rfl dX11_readParish_45 (by first | assumption | exact ⟨by omega, by omega⟩) (by first | assumption | exact ⟨by omega, by omega⟩) (fun h45 => ?_) (fun h45 => ?_)
        · first
          | (exfalso; omega)
          | (have hw : isWx T 7 (.inr s) = true := ni.mp (by omega)
             rw [if_pos hw] at wx1
             exact L54 hn _ _ _ _ _ _ (fm.tr f51) (by rw [← wx1]; exact p51) k3 c2 (fun q s hq => by rw [← wx2 q s hq]; exact (pI_t hw).symm))
          | (have hw : ¬ isWx T 7 (.inr s) = true := fun w => by
               have := ni.mpr w
               omega
             rw [if_neg hw] at wx1
             exact L54 hn _ _ _ _ _ _ fm (by rw [← wx1]; exact pm) k3 c2 (fun q s hq => by rw [← wx2 q s hq]; exact (pI_f hw).symm))
        · refine R_iconst 49 rfl dX11_readParish_48 ?_
          refine R_istore_n [_, _, _, _, _, _] 50 rfl dX11_readParish_49 rfl (by decide) ?_
          refine R_aload_n 51 rfl dX11_readParish_50 rfl ?_
          refine R_callV_V (M' := mX11_next2) 54 rfl dX11_readParish_51 ml_X11_101 kmX11_next2 im_X11_next2 se_X11_next2 rfl ⟨by decide, rfl⟩ (c_X11_next2 (.inr s) bm pm) rfl rfl ⟨Nat.le_of_ble_eq_true rfl, Nat.le_of_ble_eq_true rfl⟩ (Nat.le_of_ble_eq_true rfl) ⟨Nat.le_of_ble_eq_true rfl, Nat.le_of_ble_eq_true rfl⟩ ?_
          rintro m51 h51
          obtain ⟨f51, p51⟩ := h51
          first
          | (exfalso; omega)
          | (have hw : isWx T 7 (.inr s) = true := ni.mp (by omega)
             rw [if_pos hw] at wx1
             exact L54 hn _ _ _ _ _ _ (fm.tr f51) (by rw [← wx1]; exact p51) k3 c2 (fun q s hq => by rw [← wx2 q s hq]; exact (pI_t hw).symm))
          | (have hw : ¬ isWx T 7 (.inr s) = true := fun w => by
               have := ni.mpr w
               omega
             rw [if_neg hw] at wx1
             exact L54 hn _ _ _ _ _ _ fm (by rw [← wx1]; exact pm) k3 c2 (fun q s hq => by rw [← wx2 q s hq]; exact (pI_f hw).symm))
  refine R_aload_n 1 rfl dX11_readParish_0 rfl ?_
  refine R_getP 15 4 rfl dX11_readParish_1 rfl rfl fl_X11_31 (hP _ _ _ rfl) ?_
  refine R_iconst 5 rfl dX11_readParish_4 ?_
  refine R_iald 0 6 rfl dX11_readParish_5 rfl (by first | rfl | omega) (by decide) (by decide) ?_
  refine R_bipush 8 rfl dX11_readParish_6 (by decide) ?_
  refine R_icmp_ne 11 17 rfl rfl dX11_readParish_8 (by first | assumption | exact ⟨by omega, by omega⟩) (by first | assumption | exact ⟨by omega, by omega⟩) (fun h8 => ?_) (fun h8 => ?_)
  · refine R_aload_n 18 rfl dX11_readParish_17 rfl ?_
    refine R_callV_V (M' := mX11_next2) 21 rfl dX11_readParish_18 ml_X11_101 kmX11_next2 im_X11_next2 se_X11_next2 rfl ⟨by decide, rfl⟩ (c_X11_next2 _ hb hx0) rfl rfl ⟨Nat.le_of_ble_eq_true rfl, Nat.le_of_ble_eq_true rfl⟩ (Nat.le_of_ble_eq_true rfl) ⟨Nat.le_of_ble_eq_true rfl, Nat.le_of_ble_eq_true rfl⟩ ?_
    rintro m18 h18
    obtain ⟨f18, p18⟩ := h18
    have hn : ¬ 12 ≤ (sL st).1 0 := by omega
    have p18 : MCx T m18 (adv T st) := p18
    have b18 := hb.fn f18
    have k18 := adv_kp (T := T) (st := st) (s := st) v rfl (Nat.le_refl _)
    refine R_aload_n 22 rfl dX11_readParish_21 rfl ?_
    refine R_iconst 23 rfl dX11_readParish_22 ?_
    refine R_sipush 26 rfl dX11_readParish_23 (by decide) ?_
    refine R_callV_I (M' := mX11_number) 29 rfl dX11_readParish_26 ml_X11_108 kmX11_number im_X11_number se_X11_number rfl ⟨by decide, rfl⟩ (c_X11_number 1 999 (adv T st) b18 p18 (fun _ _ => ⟨⟨by omega, by omega⟩, ⟨by omega, by omega⟩⟩)) rfl rfl ⟨Nat.le_of_ble_eq_true rfl, Nat.le_of_ble_eq_true rfl⟩ (Nat.le_of_ble_eq_true rfl) ⟨Nat.le_of_ble_eq_true rfl, Nat.le_of_ble_eq_true rfl⟩ ?_
    rintro z26 m26 h26
    obtain ⟨f26, p26, v26, -⟩ := h26
    refine R_istore_n [_, _, _, _, _, _] 30 rfl dX11_readParish_29 rfl (by decide) ?_
    refine R_iconst 31 rfl dX11_readParish_30 ?_
    refine R_istore_n [_, _, _, _, _, _] 32 rfl dX11_readParish_31 rfl (by decide) ?_
    exact L32 hn _ _ _ _ _ (f18.tr f26) p26 (kp_num k18) v26
  · refine R_aload_n 12 rfl dX11_readParish_11 rfl ?_
    refine R_iconst 13 rfl dX11_readParish_12 ?_
    refine R_callV_V (M' := mX11_fails) 16 rfl dX11_readParish_13 ml_X11_97 kmX11_fails im_X11_fails se_X11_fails rfl ⟨by decide, rfl⟩ (c_X11_fails 5 _ hx0 (by omega)) rfl rfl ⟨Nat.le_of_ble_eq_true rfl, Nat.le_of_ble_eq_true rfl⟩ (Nat.le_of_ble_eq_true rfl) ⟨Nat.le_of_ble_eq_true rfl, Nat.le_of_ble_eq_true rfl⟩ ?_
    rintro m13 h13
    obtain ⟨f13, p13⟩ := h13
    refine R_return dX11_readParish_16 rfl ?_
    have e : parishT T st = .inl (5, st.2.1) := if_pos (by omega)
    rw [e]
    exact QV_mk ⟨f13.y, p13⟩
end
