section
variable {Γ : GX} {m m' m'' : Mem} {B B' : Bk} {L : Ld} {ch ch' : Cs} {T : Tp} {F N : Int} {I : Nat → Im} {S : Nat → Sht}
theorem c_X11_isMarry (p y t g b : Int) (hR : RS L B ch m) (hp : rg p) (hy : rg y) (ht : rg t) (hg : rg g) (hb : rg b) : C Γ mX11_isMarry 2 80 0 0 [vr 96, vi p, vi y, vi t, vi g, vi b] SH m (Qi SH m (pI (isMrB L p y t g b = true))) := by
  refine C_of_R rfl (Nat.le_of_ble_eq_true rfl) ?_
  have e := isMrB_iff (L := L) (p := p) (y := y) (t := t) (g := g) (b := b)
  have hl := hR.2.2.1.1
  refine R_aload_n 1 rfl dX11_isMarry_0 rfl ?_
  refine R_iload_n 2 rfl dX11_isMarry_1 rfl ?_
  refine R_callV_i (M' := mX11_isParish) 5 rfl dX11_isMarry_2 ml_X11_144 kmX11_isParish im_X11_isParish se_X11_isParish rfl ⟨by decide, rfl⟩ (c_X11_isParish _ hR (by first | assumption | exact ⟨by omega, by omega⟩)) rfl rfl ⟨Nat.le_of_ble_eq_true rfl, Nat.le_of_ble_eq_true rfl⟩ (Nat.le_of_ble_eq_true rfl) ⟨Nat.le_of_ble_eq_true rfl, Nat.le_of_ble_eq_true rfl⟩ ?_
  refine R_ifp_eq 8 58 rfl rfl dX11_isMarry_5 (fun h5 => ?_) (fun h5 => ?_)
  · refine R_iconst 59 rfl dX11_isMarry_58 ?_
    refine R_zreturn dX11_isMarry_59 rfl (by first | decide | exact pI_01 _) ?_
    first | exact Qi_mk (pI_1 (e.mpr (by omega))) | exact Qi_mk (pI_0 (fun q => by have := e.mp q; omega))
  · refine R_iload_n 9 rfl dX11_isMarry_8 rfl ?_
    refine R_i2l 10 rfl dX11_isMarry_9 (by first | assumption | exact ⟨by omega, by omega⟩) ?_
    refine R_lconst 11 rfl dX11_isMarry_10 ?_
    refine R_topL (b := 0) rfl ?_
    refine R_ldc2 (89) 14 rfl dX11_isMarry_11 kl_X11_171 (by decide) ?_
    refine R_callS_i (M' := mX11_in) 17 rfl dX11_isMarry_14 ml_X11_63 kmX11_in st_X11_in (c_X11_in _ _ _ (by first | assumption | exact ⟨by omega, by omega⟩ | exact rg_L (by assumption)) (by first | assumption | exact ⟨by omega, by omega⟩ | exact rg_L (by assumption)) (by first | assumption | exact ⟨by omega, by omega⟩ | exact rg_L (by assumption))) rfl rfl ⟨Nat.le_of_ble_eq_true rfl, Nat.le_of_ble_eq_true rfl⟩ (Nat.le_of_ble_eq_true rfl) ⟨Nat.le_of_ble_eq_true rfl, Nat.le_of_ble_eq_true rfl⟩ ?_
    refine R_ifp_eq 20 58 rfl rfl dX11_isMarry_17 (fun h17 => ?_) (fun h17 => ?_)
    · refine R_iconst 59 rfl dX11_isMarry_58 ?_
      refine R_zreturn dX11_isMarry_59 rfl (by first | decide | exact pI_01 _) ?_
      first | exact Qi_mk (pI_1 (e.mpr (by omega))) | exact Qi_mk (pI_0 (fun q => by have := e.mp q; omega))
    · refine R_iload_n 21 rfl dX11_isMarry_20 rfl ?_
      refine R_i2l 22 rfl dX11_isMarry_21 (by first | assumption | exact ⟨by omega, by omega⟩) ?_
      refine R_lconst 23 rfl dX11_isMarry_22 ?_
      refine R_topL (b := 0) rfl ?_
      refine R_ldc2 (7) 26 rfl dX11_isMarry_23 kl_X11_173 (by decide) ?_
      refine R_callS_i (M' := mX11_in) 29 rfl dX11_isMarry_26 ml_X11_63 kmX11_in st_X11_in (c_X11_in _ _ _ (by first | assumption | exact ⟨by omega, by omega⟩ | exact rg_L (by assumption)) (by first | assumption | exact ⟨by omega, by omega⟩ | exact rg_L (by assumption)) (by first | assumption | exact ⟨by omega, by omega⟩ | exact rg_L (by assumption))) rfl rfl ⟨Nat.le_of_ble_eq_true rfl, Nat.le_of_ble_eq_true rfl⟩ (Nat.le_of_ble_eq_true rfl) ⟨Nat.le_of_ble_eq_true rfl, Nat.le_of_ble_eq_true rfl⟩ ?_
      refine R_ifp_eq 32 58 rfl rfl dX11_isMarry_29 (fun h29 => ?_) (fun h29 => ?_)
      · refine R_iconst 59 rfl dX11_isMarry_58 ?_
        refine R_zreturn dX11_isMarry_59 rfl (by first | decide | exact pI_01 _) ?_
        first | exact Qi_mk (pI_1 (e.mpr (by omega))) | exact Qi_mk (pI_0 (fun q => by have := e.mp q; omega))
      · refine R_iload 34 rfl dX11_isMarry_32 rfl ?_
        refine R_i2l 35 rfl dX11_isMarry_34 (by first | assumption | exact ⟨by omega, by omega⟩) ?_
        refine R_lconst 36 rfl dX11_isMarry_35 ?_
        refine R_topL (b := 0) rfl ?_
        refine R_lconst 37 rfl dX11_isMarry_36 ?_
        refine R_topL (b := 1) rfl ?_
        refine R_callS_i (M' := mX11_in) 40 rfl dX11_isMarry_37 ml_X11_63 kmX11_in st_X11_in (c_X11_in _ _ _ (by first | assumption | exact ⟨by omega, by omega⟩ | exact rg_L (by assumption)) (by first | assumption | exact ⟨by omega, by omega⟩ | exact rg_L (by assumption)) (by first | assumption | exact ⟨by omega, by omega⟩ | exact rg_L (by assumption))) rfl rfl ⟨Nat.le_of_ble_eq_true rfl, Nat.le_of_ble_eq_true rfl⟩ (Nat.le_of_ble_eq_true rfl) ⟨Nat.le_of_ble_eq_true rfl, Nat.le_of_ble_eq_true rfl⟩ ?_
        refine R_ifp_eq 43 58 rfl rfl dX11_isMarry_40 (fun h40 => ?_) (fun h40 => ?_)
        · refine R_iconst 59 rfl dX11_isMarry_58 ?_
          refine R_zreturn dX11_isMarry_59 rfl (by first | decide | exact pI_01 _) ?_
          first | exact Qi_mk (pI_1 (e.mpr (by omega))) | exact Qi_mk (pI_0 (fun q => by have := e.mp q; omega))
        · refine R_iload 45 rfl dX11_isMarry_43 rfl ?_
          refine R_i2l 46 rfl dX11_isMarry_45 (by first | assumption | exact ⟨by omega, by omega⟩) ?_
          refine R_lconst 47 rfl dX11_isMarry_46 ?_
          refine R_topL (b := 0) rfl ?_
          refine R_lconst 48 rfl dX11_isMarry_47 ?_
          refine R_topL (b := 1) rfl ?_
          refine R_callS_i (M' := mX11_in) 51 rfl dX11_isMarry_48 ml_X11_63 kmX11_in st_X11_in (c_X11_in _ _ _ (by first | assumption | exact ⟨by omega, by omega⟩ | exact rg_L (by assumption)) (by first | assumption | exact ⟨by omega, by omega⟩ | exact rg_L (by assumption)) (by first | assumption | exact ⟨by omega, by omega⟩ | exact rg_L (by assumption))) rfl rfl ⟨Nat.le_of_ble_eq_true rfl, Nat.le_of_ble_eq_true rfl⟩ (Nat.le_of_ble_eq_true rfl) ⟨Nat.le_of_ble_eq_true rfl, Nat.le_of_ble_eq_true rfl⟩ ?_
          refine R_ifp_eq 54 58 rfl rfl dX11_isMarry_51 (fun h51 => ?_) (fun h51 => ?_)
          · refine R_iconst 59 rfl dX11_isMarry_58 ?_
            refine R_zreturn dX11_isMarry_59 rfl (by first | decide | exact pI_01 _) ?_
            first | exact Qi_mk (pI_1 (e.mpr (by omega))) | exact Qi_mk (pI_0 (fun q => by have := e.mp q; omega))
          · refine R_iconst 55 rfl dX11_isMarry_54 ?_
            refine R_goto 59 rfl dX11_isMarry_55 ?_
            refine R_zreturn dX11_isMarry_59 rfl (by first | decide | exact pI_01 _) ?_
            first | exact Qi_mk (pI_1 (e.mpr (by omega))) | exact Qi_mk (pI_0 (fun q => by have := e.mp q; omega))
theorem adds_RB {n : Nat} (hB : RB 0 m B) (hn : B.1 = n) (p y t g b : Int) (m1 : Mem) (h0 : ∀ k, (k < 16 * n ∨ 16 * n + 16 ≤ k) → m1.1 107 k = m.1 107 k) (hz : ∀ j, j < 16 → m1.1 107 (16 * n + j) = 0) (hn2 : n < 40) :
    RB 0 (setI (setI (setI (setI (setI (setI (setI (setI m1 107 (16 * n) p) 107 (16 * n + 1) y) 107 (16 * n + 2) t) 107 (16 * n + 3) g) 107 (16 * n + 8) b) 107 (16 * n + 3 + 4) 1) 107 (16 * n + 8 + 4) 1) 107 650 ((n : Int) + 1)) (bkAdd B p y t g b) := by
  subst hn
  refine ⟨by simp [setI, bkAdd], fun k hk w hw => ?_, fun k hk w hw => ?_⟩
  · have hk2 : k < B.1 + 1 := hk
    by_cases e : k = B.1
    · subst e
      simp only [bkAdd, if_true]
      rcases (show w = 0 ∨ w = 1 ∨ w = 2 by omega) with rfl | rfl | rfl
      · simp only [setI]; rw [if_neg (by omega), if_neg (by omega), if_neg (by omega), if_neg (by omega), if_neg (by omega), if_neg (by omega), if_neg (by omega), if_pos ⟨trivial, by omega⟩]; rfl
      · simp only [setI]; rw [if_neg (by omega), if_neg (by omega), if_neg (by omega), if_neg (by omega), if_neg (by omega), if_neg (by omega), if_pos ⟨trivial, by omega⟩]; rfl
      · simp only [setI]; rw [if_neg (by omega), if_neg (by omega), if_neg (by omega), if_neg (by omega), if_neg (by omega), if_pos ⟨trivial, by omega⟩]; rfl
    · simp only [bkAdd, if_neg e, setI]
      rw [if_neg (by omega), if_neg (by omega), if_neg (by omega), if_neg (by omega), if_neg (by omega), if_neg (by omega), if_neg (by omega), if_neg (by omega), h0 _ (by omega)]
      exact hB.2.1 k (by omega) w hw
  · have hk2 : k < 2 * (B.1 + 1) := hk
    by_cases e : k = 2 * B.1
    · subst e
      have d1 : 2 * B.1 / 2 = B.1 := by omega
      have d2 : 2 * B.1 % 2 = 0 := by omega
      simp only [bkAdd, if_true, d1, d2, sideI]
      have z := hz (3 + w) (by omega)
      rcases (show w = 0 ∨ w = 4 ∨ (w = 1 ∨ w = 2 ∨ w = 3) by omega) with rfl | rfl | hw2
      · simp only [setI]; rw [if_neg (by omega), if_neg (by omega), if_neg (by omega), if_neg (by omega), if_pos ⟨trivial, by omega⟩]; rfl
      · simp only [setI]; rw [if_neg (by omega), if_neg (by omega), if_pos ⟨trivial, by omega⟩]; rfl
      · rw [if_neg (by omega), if_neg (by omega)]
        simp only [setI]
        rw [if_neg (by omega), if_neg (by omega), if_neg (by omega), if_neg (by omega), if_neg (by omega), if_neg (by omega), if_neg (by omega), if_neg (by omega)]
        exact (congrArg (m1.1 107) (by omega)).trans z
    · by_cases e2 : k = 2 * B.1 + 1
      · subst e2
        have d1 : (2 * B.1 + 1) / 2 = B.1 := by omega
        have d2 : (2 * B.1 + 1) % 2 = 1 := by omega
        simp only [bkAdd, if_neg e, if_true, d1, d2, sideI]
        have z := hz (8 + w) (by omega)
        rcases (show w = 0 ∨ w = 4 ∨ (w = 1 ∨ w = 2 ∨ w = 3) by omega) with rfl | rfl | hw2
        · simp only [setI]; rw [if_neg (by omega), if_neg (by omega), if_neg (by omega), if_pos ⟨trivial, by omega⟩]; rfl
        · simp only [setI]; rw [if_neg (by omega), if_pos ⟨trivial, by omega⟩]; rfl
        · rw [if_neg (by omega), if_neg (by omega)]
          simp only [setI]
          rw [if_neg (by omega), if_neg (by omega), if_neg (by omega), if_neg (by omega), if_neg (by omega), if_neg (by omega), if_neg (by omega), if_neg (by omega)]
          exact (congrArg (m1.1 107) (by omega)).trans z
      · simp only [bkAdd, if_neg e, if_neg e2, setI]
        rw [if_neg (by omega), if_neg (by omega), if_neg (by omega), if_neg (by omega), if_neg (by omega), if_neg (by omega), if_neg (by omega), if_neg (by omega), h0 _ (by omega)]
        exact hB.2.2 k (by omega) w hw
theorem c_X11_adds (p y t g b : Int) (hR : RS L B ch m) (hn : B.1 < 40) : C Γ mX11_adds 1 40 0 0 [vr 96, vi p, vi y, vi t, vi g, vi b] SH m (QV SH (fun m' => Fb m m' ∧ RB 0 m' (bkAdd B p y t g b))) := by
  refine C_of_R rfl (Nat.le_of_ble_eq_true rfl) ?_
  have Lp : ∀ i : Nat, i ≤ 16 → ∀ at' z m1, at' = 16 * (B.1 : Int) → z = (i : Int) → Fb m m1 → (∀ k, (k < 16 * B.1 ∨ 16 * B.1 + 16 ≤ k) → m1.1 107 k = m.1 107 k) → (∀ j, j < i → m1.1 107 (16 * B.1 + j) = 0) → R Γ mX11_adds { frames := 1, cells := 0, slots := 0, locals := 40 } 0 0 (QV SH (fun m' => Fb m m' ∧ RB 0 m' (bkAdd B p y t g b))) 0 0 12 [some (vr 96), some (vi p), some (vi y), some (vi t), some (vi g), some (vi b), some (vi at'), some (vi z)] [] SH m1 := by
    refine up_ind 16 (fun i hi ih at' z m1 ha hz hf h0 h1 => ?_)
    have hP : RP m1 := fun a k r q => by rw [hf.2]; exact hR.1 a k r q
    refine R_iload 14 rfl dX11_adds_12 rfl ?_
    refine R_bipush 16 rfl dX11_adds_14 (by decide) ?_
    refine R_icmp_ge 19 36 rfl rfl dX11_adds_16 (by first | assumption | exact ⟨by omega, by omega⟩) (by first | assumption | exact ⟨by omega, by omega⟩) (fun h16 => ?_) (fun h16 => ?_)
    · have ei : i = 16 := by omega
      subst ei
      have e650 : m1.1 107 650 = (B.1 : Int) := (h0 650 (by omega)).trans hR.2.2.2.1.1
      refine R_aload_n 37 rfl dX11_adds_36 rfl ?_
      refine R_getP 19 40 rfl dX11_adds_37 rfl rfl fl_X11_40 (hP _ _ _ rfl) ?_
      refine R_iload 42 rfl dX11_adds_40 rfl ?_
      refine R_iload_n 43 rfl dX11_adds_42 rfl ?_
      refine R_iast (16 * B.1) 44 rfl dX11_adds_43 rfl (by first | rfl | omega) (by omega) (by decide) ?_
      refine R_aload_n 45 rfl dX11_adds_44 rfl ?_
      refine R_getP 19 48 rfl dX11_adds_45 rfl rfl fl_X11_40 (hP _ _ _ rfl) ?_
      refine R_iload 50 rfl dX11_adds_48 rfl ?_
      refine R_iconst 51 rfl dX11_adds_50 ?_
      refine R_iadd 52 rfl dX11_adds_51 ?_
      refine R_iload_n 53 rfl dX11_adds_52 rfl ?_
      refine R_iast (16 * B.1 + 1) 54 rfl dX11_adds_53 rfl (by first | rfl | omega) (by omega) (by decide) ?_
      refine R_aload_n 55 rfl dX11_adds_54 rfl ?_
      refine R_getP 19 58 rfl dX11_adds_55 rfl rfl fl_X11_40 (hP _ _ _ rfl) ?_
      refine R_iload 60 rfl dX11_adds_58 rfl ?_
      refine R_iconst 61 rfl dX11_adds_60 ?_
      refine R_iadd 62 rfl dX11_adds_61 ?_
      refine R_iload_n 63 rfl dX11_adds_62 rfl ?_
      refine R_iast (16 * B.1 + 2) 64 rfl dX11_adds_63 rfl (by first | rfl | omega) (by omega) (by decide) ?_
      refine R_aload_n 65 rfl dX11_adds_64 rfl ?_
      refine R_getP 19 68 rfl dX11_adds_65 rfl rfl fl_X11_40 (hP _ _ _ rfl) ?_
      refine R_iload 70 rfl dX11_adds_68 rfl ?_
      refine R_iconst 71 rfl dX11_adds_70 ?_
      refine R_iadd 72 rfl dX11_adds_71 ?_
      refine R_iload 74 rfl dX11_adds_72 rfl ?_
      refine R_iast (16 * B.1 + 3) 75 rfl dX11_adds_74 rfl (by first | rfl | omega) (by omega) (by decide) ?_
      refine R_aload_n 76 rfl dX11_adds_75 rfl ?_
      refine R_getP 19 79 rfl dX11_adds_76 rfl rfl fl_X11_40 (hP _ _ _ rfl) ?_
      refine R_iload 81 rfl dX11_adds_79 rfl ?_
      refine R_bipush 83 rfl dX11_adds_81 (by decide) ?_
      refine R_iadd 84 rfl dX11_adds_83 ?_
      refine R_iload 86 rfl dX11_adds_84 rfl ?_
      refine R_iast (16 * B.1 + 8) 87 rfl dX11_adds_86 rfl (by first | rfl | omega) (by omega) (by decide) ?_
      refine R_aload_n 88 rfl dX11_adds_87 rfl ?_
      refine R_getP 19 91 rfl dX11_adds_88 rfl rfl fl_X11_40 (hP _ _ _ rfl) ?_
      refine R_iload 93 rfl dX11_adds_91 rfl ?_
      refine R_iconst 94 rfl dX11_adds_93 ?_
      refine R_iadd 95 rfl dX11_adds_94 ?_
      refine R_iconst 96 rfl dX11_adds_95 ?_
      refine R_iadd 97 rfl dX11_adds_96 ?_
      refine R_iconst 98 rfl dX11_adds_97 ?_
      refine R_iast (16 * B.1 + 3 + 4) 99 rfl dX11_adds_98 rfl (by first | rfl | omega) (by omega) (by decide) ?_
      refine R_aload_n 100 rfl dX11_adds_99 rfl ?_
      refine R_getP 19 103 rfl dX11_adds_100 rfl rfl fl_X11_40 (hP _ _ _ rfl) ?_
      refine R_iload 105 rfl dX11_adds_103 rfl ?_
      refine R_bipush 107 rfl dX11_adds_105 (by decide) ?_
      refine R_iadd 108 rfl dX11_adds_107 ?_
      refine R_iconst 109 rfl dX11_adds_108 ?_
      refine R_iadd 110 rfl dX11_adds_109 ?_
      refine R_iconst 111 rfl dX11_adds_110 ?_
      refine R_iast (16 * B.1 + 8 + 4) 112 rfl dX11_adds_111 rfl (by first | rfl | omega) (by omega) (by decide) ?_
      refine R_aload_n 113 rfl dX11_adds_112 rfl ?_
      refine R_getP 19 116 rfl dX11_adds_113 rfl rfl fl_X11_40 (hP _ _ _ rfl) ?_
      refine R_sipush 119 rfl dX11_adds_116 (by decide) ?_
      refine R_dup2 120 rfl dX11_adds_119 rfl rfl ?_
      refine R_iald 650 121 rfl dX11_adds_120 rfl (by first | rfl | omega) (by decide) (by decide) ?_
      refine R_top (b := (B.1 : Int)) (by simp only [setI]; rw [if_neg (by omega), if_neg (by omega), if_neg (by omega), if_neg (by omega), if_neg (by omega), if_neg (by omega), if_neg (by omega)]; exact e650) ?_
      refine R_iconst 122 rfl dX11_adds_121 ?_
      refine R_iadd 123 rfl dX11_adds_122 ?_
      refine R_iast 650 124 rfl dX11_adds_123 rfl (by first | rfl | omega) (by decide) (by decide) ?_
      refine R_return dX11_adds_124 rfl ?_
      exact QV_mk ⟨(((((((hf.set (by omega)).set (by omega)).set (by omega)).set (by omega)).set (by omega)).set (by omega)).set (by omega)).set (by omega), adds_RB hR.2.2.2.1 rfl p y t g b m1 h0 h1 hn⟩
    · refine R_aload_n 20 rfl dX11_adds_19 rfl ?_
      refine R_getP 19 23 rfl dX11_adds_20 rfl rfl fl_X11_40 (hP _ _ _ rfl) ?_
      refine R_iload 25 rfl dX11_adds_23 rfl ?_
      refine R_iload 27 rfl dX11_adds_25 rfl ?_
      refine R_iadd 28 rfl dX11_adds_27 ?_
      refine R_iconst 29 rfl dX11_adds_28 ?_
      refine R_iast (16 * B.1 + i) 30 rfl dX11_adds_29 rfl (by first | rfl | omega) (by omega) (by decide) ?_
      refine R_iinc [_, _, _, _, _, _, _, _] 33 rfl dX11_adds_30 rfl rfl (by decide) ?_
      refine R_goto 12 rfl dX11_adds_33 ?_
      refine ih (by omega) _ _ _ ha (by omega) (hf.set (by omega)) (fun k hk => ?_) (fun j hj => ?_)
      · simp only [setI]; rw [if_neg (by omega)]; exact h0 k hk
      · simp only [setI]
        by_cases e : j = i
        · subst e; rw [if_pos ⟨trivial, rfl⟩]
        · rw [if_neg (by omega)]; exact h1 j (by omega)
  refine R_bipush 2 rfl dX11_adds_0 (by decide) ?_
  refine R_aload_n 3 rfl dX11_adds_2 rfl ?_
  refine R_callV_i (M' := mX11_size) 6 rfl dX11_adds_3 ml_X11_150 kmX11_size im_X11_size se_X11_size rfl ⟨by decide, rfl⟩ (c_X11_size hR) rfl rfl ⟨Nat.le_of_ble_eq_true rfl, Nat.le_of_ble_eq_true rfl⟩ (Nat.le_of_ble_eq_true rfl) ⟨Nat.le_of_ble_eq_true rfl, Nat.le_of_ble_eq_true rfl⟩ ?_
  refine R_imul 7 rfl dX11_adds_6 ?_
  refine R_istore [_, _, _, _, _, _, _, _] 9 rfl dX11_adds_7 rfl (by decide) ?_
  refine R_iconst 10 rfl dX11_adds_9 ?_
  refine R_istore [_, _, _, _, _, _, _, _] 12 rfl dX11_adds_10 rfl (by decide) ?_
  exact Lp 0 (by omega) _ _ _ rfl rfl Fb.rf (fun k _ => rfl) (fun j hj => by omega)
theorem c_X11_marry (p y t g b : Int) (hR : RS L B ch m) (hX : RX T F I S N m) (hp : rg p) (hy : rg y) (ht : rg t) (hg : rg g) (hb : rg b) : C Γ mX11_marry 3 120 0 0 [vr 96, vi p, vi y, vi t, vi g, vi b] SH m (QR L (if isMrB L p y t g b = true ∧ B.1 < 40 then bkAdd B p y t g b else B) ch T F I S N m (if isMrB L p y t g b = true then (if 40 ≤ B.1 then -3 else (B.1 : Int)) else -1)) := by
  refine C_of_R rfl (Nat.le_of_ble_eq_true rfl) ?_
  have h3 := hR.2.2.2.2.1.1
  refine R_aload_n 1 rfl dX11_marry_0 rfl ?_
  refine R_iload_n 2 rfl dX11_marry_1 rfl ?_
  refine R_iload_n 3 rfl dX11_marry_2 rfl ?_
  refine R_iload_n 4 rfl dX11_marry_3 rfl ?_
  refine R_iload 6 rfl dX11_marry_4 rfl ?_
  refine R_iload 8 rfl dX11_marry_6 rfl ?_
  refine R_callV_i (M' := mX11_isMarry) 11 rfl dX11_marry_8 ml_X11_175 kmX11_isMarry im_X11_isMarry se_X11_isMarry rfl ⟨by decide, rfl⟩ (c_X11_isMarry _ _ _ _ _ hR (by first | assumption | exact ⟨by omega, by omega⟩) (by first | assumption | exact ⟨by omega, by omega⟩) (by first | assumption | exact ⟨by omega, by omega⟩) (by first | assumption | exact ⟨by omega, by omega⟩) (by first | assumption | exact ⟨by omega, by omega⟩)) rfl rfl ⟨Nat.le_of_ble_eq_true rfl, Nat.le_of_ble_eq_true rfl⟩ (Nat.le_of_ble_eq_true rfl) ⟨Nat.le_of_ble_eq_true rfl, Nat.le_of_ble_eq_true rfl⟩ ?_
  refine R_ifp_ne 14 16 rfl rfl dX11_marry_11 (fun h11 => ?_) (fun h11 => ?_)
  · refine R_aload_n 17 rfl dX11_marry_16 rfl ?_
    refine R_callV_i (M' := mX11_size) 20 rfl dX11_marry_17 ml_X11_150 kmX11_size im_X11_size se_X11_size rfl ⟨by decide, rfl⟩ (c_X11_size hR) rfl rfl ⟨Nat.le_of_ble_eq_true rfl, Nat.le_of_ble_eq_true rfl⟩ (Nat.le_of_ble_eq_true rfl) ⟨Nat.le_of_ble_eq_true rfl, Nat.le_of_ble_eq_true rfl⟩ ?_
    refine R_bipush 22 rfl dX11_marry_20 (by decide) ?_
    refine R_icmp_ne 25 28 rfl rfl dX11_marry_22 (by first | assumption | exact ⟨by omega, by omega⟩) (by first | assumption | exact ⟨by omega, by omega⟩) (fun h22 => ?_) (fun h22 => ?_)
    · refine R_aload_n 29 rfl dX11_marry_28 rfl ?_
      refine R_iload_n 30 rfl dX11_marry_29 rfl ?_
      refine R_iload_n 31 rfl dX11_marry_30 rfl ?_
      refine R_iload_n 32 rfl dX11_marry_31 rfl ?_
      refine R_iload 34 rfl dX11_marry_32 rfl ?_
      refine R_iload 36 rfl dX11_marry_34 rfl ?_
      refine R_callV_V (M' := mX11_adds) 39 rfl dX11_marry_36 ml_X11_179 kmX11_adds im_X11_adds se_X11_adds rfl ⟨by decide, rfl⟩ (c_X11_adds _ _ _ _ _ hR (by omega)) rfl rfl ⟨Nat.le_of_ble_eq_true rfl, Nat.le_of_ble_eq_true rfl⟩ (Nat.le_of_ble_eq_true rfl) ⟨Nat.le_of_ble_eq_true rfl, Nat.le_of_ble_eq_true rfl⟩ ?_
      rintro m36 h36
      obtain ⟨f36, b36⟩ := h36
      have i11 := isMrB_iff.mp h11
      have hR2 := hR.bk f36 b36 (bkAdd_k hR.2.2.2.2.1 (by omega) i11.1 i11.2.1 i11.2.2.1 i11.2.2.2.1 i11.2.2.2.2)
      refine R_aload_n 40 rfl dX11_marry_39 rfl ?_
      refine R_callV_i (M' := mX11_size) 43 rfl dX11_marry_40 ml_X11_150 kmX11_size im_X11_size se_X11_size rfl ⟨by decide, rfl⟩ (c_X11_size hR2) rfl rfl ⟨Nat.le_of_ble_eq_true rfl, Nat.le_of_ble_eq_true rfl⟩ (Nat.le_of_ble_eq_true rfl) ⟨Nat.le_of_ble_eq_true rfl, Nat.le_of_ble_eq_true rfl⟩ ?_
      refine R_iconst 44 rfl dX11_marry_43 ?_
      refine R_isub 45 rfl dX11_marry_44 ?_
      refine R_ireturn dX11_marry_45 rfl ?_
      rw [if_pos ⟨h11, by omega⟩, if_pos h11, if_neg (by omega)]
      exact QI_mk ⟨by show ((B.1 + 1 : Nat) : Int) - 1 = _; omega, f36.l, hR2, hX.fb f36⟩
    · refine R_bipush 27 rfl dX11_marry_25 (by decide) ?_
      refine R_ireturn dX11_marry_27 rfl ?_
      rw [if_neg (fun q => by omega), if_pos h11, if_pos (by omega)]
      exact QI_mk ⟨rfl, Fl.rf, hR, hX⟩
  · refine R_iconst 15 rfl dX11_marry_14 ?_
    refine R_ireturn dX11_marry_15 rfl ?_
    rw [if_neg (fun q => h11 q.1), if_neg h11]
    exact QI_mk ⟨rfl, Fl.rf, hR, hX⟩
theorem c_X11_isValue {S : Shp} (w v : Int) (hw : rg w) (hv : rg v) : C Γ mX11_isValue 1 40 0 0 [vi w, vi v] S m (Qi S m (pI (mayB w v = true))) := by
  refine C_of_R rfl (Nat.le_of_ble_eq_true rfl) ?_
  have hw1 := hw.1
  have hw2 := hw.2
  refine R_iload_n 1 rfl dX11_isValue_0 rfl ?_
  rcases (show w < 0 ∨ 4 < w ∨ w = 0 ∨ w = 1 ∨ w = 2 ∨ w = 3 ∨ w = 4 by omega) with h1 | h1 | rfl | rfl | rfl | rfl | rfl
  · refine R_tsOut 88 dX11_isValue_1 (by first | assumption | exact ⟨by omega, by omega⟩) (by omega) rfl ?_
    refine R_iconst 89 rfl dX11_isValue_88 ?_
    refine R_zreturn dX11_isValue_89 rfl (by first | decide | exact pI_01 _) ?_
    first | exact Qi_mk (pI_1 (by simp [mayB]; omega)) | exact Qi_mk (pI_0 (by simp [mayB]; omega)) | exact Qi_mk (pI_congr (by simp [mayB])) | exact Qi_mk (pI_0 (by unfold mayB; rw [if_neg (by omega), if_neg (by omega), if_neg (by omega), if_neg (by omega)]; simp))
  · refine R_tsOut 88 dX11_isValue_1 (by first | assumption | exact ⟨by omega, by omega⟩) (by omega) rfl ?_
    refine R_iconst 89 rfl dX11_isValue_88 ?_
    refine R_zreturn dX11_isValue_89 rfl (by first | decide | exact pI_01 _) ?_
    first | exact Qi_mk (pI_1 (by simp [mayB]; omega)) | exact Qi_mk (pI_0 (by simp [mayB]; omega)) | exact Qi_mk (pI_congr (by simp [mayB])) | exact Qi_mk (pI_0 (by unfold mayB; rw [if_neg (by omega), if_neg (by omega), if_neg (by omega), if_neg (by omega)]; simp))
  · refine R_tsIn 36 dX11_isValue_1 ⟨by omega, by omega⟩ (by omega) (by omega) rfl rfl ?_
    refine R_iload_n 37 rfl dX11_isValue_36 rfl ?_
    refine R_i2l 38 rfl dX11_isValue_37 (by first | assumption | exact ⟨by omega, by omega⟩) ?_
    refine R_lconst 39 rfl dX11_isValue_38 ?_
    refine R_topL (b := 0) rfl ?_
    refine R_lconst 40 rfl dX11_isValue_39 ?_
    refine R_topL (b := 1) rfl ?_
    refine R_callS_i (M' := mX11_in) 43 rfl dX11_isValue_40 ml_X11_63 kmX11_in st_X11_in (c_X11_in _ _ _ (by first | assumption | exact ⟨by omega, by omega⟩ | exact rg_L (by assumption)) (by first | assumption | exact ⟨by omega, by omega⟩ | exact rg_L (by assumption)) (by first | assumption | exact ⟨by omega, by omega⟩ | exact rg_L (by assumption))) rfl rfl ⟨Nat.le_of_ble_eq_true rfl, Nat.le_of_ble_eq_true rfl⟩ (Nat.le_of_ble_eq_true rfl) ⟨Nat.le_of_ble_eq_true rfl, Nat.le_of_ble_eq_true rfl⟩ ?_
    refine R_zreturn dX11_isValue_43 rfl (by first | decide | exact pI_01 _) ?_
    first | exact Qi_mk (pI_1 (by simp [mayB]; omega)) | exact Qi_mk (pI_0 (by simp [mayB]; omega)) | exact Qi_mk (pI_congr (by simp [mayB])) | exact Qi_mk (pI_0 (by unfold mayB; rw [if_neg (by omega), if_neg (by omega), if_neg (by omega), if_neg (by omega)]; simp))
  · refine R_tsIn 44 dX11_isValue_1 ⟨by omega, by omega⟩ (by omega) (by omega) rfl rfl ?_
    refine R_iload_n 45 rfl dX11_isValue_44 rfl ?_
    refine R_if_eq 48 62 rfl rfl dX11_isValue_45 (by first | assumption | exact ⟨by omega, by omega⟩) (fun h45 => ?_) (fun h45 => ?_)
    · refine R_iconst 63 rfl dX11_isValue_62 ?_
      refine R_goto 67 rfl dX11_isValue_63 ?_
      refine R_zreturn dX11_isValue_67 rfl (by first | decide | exact pI_01 _) ?_
      first | exact Qi_mk (pI_1 (by simp [mayB]; omega)) | exact Qi_mk (pI_0 (by simp [mayB]; omega)) | exact Qi_mk (pI_congr (by simp [mayB])) | exact Qi_mk (pI_0 (by unfold mayB; rw [if_neg (by omega), if_neg (by omega), if_neg (by omega), if_neg (by omega)]; simp))
    · refine R_iload_n 49 rfl dX11_isValue_48 rfl ?_
      refine R_i2l 50 rfl dX11_isValue_49 (by first | assumption | exact ⟨by omega, by omega⟩) ?_
      refine R_ldc2 (16) 53 rfl dX11_isValue_50 kl_X11_183 (by decide) ?_
      refine R_ldc2 (60) 56 rfl dX11_isValue_53 kl_X11_185 (by decide) ?_
      refine R_callS_i (M' := mX11_in) 59 rfl dX11_isValue_56 ml_X11_63 kmX11_in st_X11_in (c_X11_in _ _ _ (by first | assumption | exact ⟨by omega, by omega⟩ | exact rg_L (by assumption)) (by first | assumption | exact ⟨by omega, by omega⟩ | exact rg_L (by assumption)) (by first | assumption | exact ⟨by omega, by omega⟩ | exact rg_L (by assumption))) rfl rfl ⟨Nat.le_of_ble_eq_true rfl, Nat.le_of_ble_eq_true rfl⟩ (Nat.le_of_ble_eq_true rfl) ⟨Nat.le_of_ble_eq_true rfl, Nat.le_of_ble_eq_true rfl⟩ ?_
      refine R_ifp_eq 62 66 rfl rfl dX11_isValue_59 (fun h59 => ?_) (fun h59 => ?_)
      · refine R_iconst 67 rfl dX11_isValue_66 ?_
        refine R_zreturn dX11_isValue_67 rfl (by first | decide | exact pI_01 _) ?_
        first | exact Qi_mk (pI_1 (by simp [mayB]; omega)) | exact Qi_mk (pI_0 (by simp [mayB]; omega)) | exact Qi_mk (pI_congr (by simp [mayB])) | exact Qi_mk (pI_0 (by unfold mayB; rw [if_neg (by omega), if_neg (by omega), if_neg (by omega), if_neg (by omega)]; simp))
      · refine R_iconst 63 rfl dX11_isValue_62 ?_
        refine R_goto 67 rfl dX11_isValue_63 ?_
        refine R_zreturn dX11_isValue_67 rfl (by first | decide | exact pI_01 _) ?_
        first | exact Qi_mk (pI_1 (by simp [mayB]; omega)) | exact Qi_mk (pI_0 (by simp [mayB]; omega)) | exact Qi_mk (pI_congr (by simp [mayB])) | exact Qi_mk (pI_0 (by unfold mayB; rw [if_neg (by omega), if_neg (by omega), if_neg (by omega), if_neg (by omega)]; simp))
  · refine R_tsIn 68 dX11_isValue_1 ⟨by omega, by omega⟩ (by omega) (by omega) rfl rfl ?_
    refine R_iload_n 69 rfl dX11_isValue_68 rfl ?_
    refine R_i2l 70 rfl dX11_isValue_69 (by first | assumption | exact ⟨by omega, by omega⟩) ?_
    refine R_lconst 71 rfl dX11_isValue_70 ?_
    refine R_topL (b := 0) rfl ?_
    refine R_ldc2 (255) 74 rfl dX11_isValue_71 kl_X11_187 (by decide) ?_
    refine R_callS_i (M' := mX11_in) 77 rfl dX11_isValue_74 ml_X11_63 kmX11_in st_X11_in (c_X11_in _ _ _ (by first | assumption | exact ⟨by omega, by omega⟩ | exact rg_L (by assumption)) (by first | assumption | exact ⟨by omega, by omega⟩ | exact rg_L (by assumption)) (by first | assumption | exact ⟨by omega, by omega⟩ | exact rg_L (by assumption))) rfl rfl ⟨Nat.le_of_ble_eq_true rfl, Nat.le_of_ble_eq_true rfl⟩ (Nat.le_of_ble_eq_true rfl) ⟨Nat.le_of_ble_eq_true rfl, Nat.le_of_ble_eq_true rfl⟩ ?_
    refine R_zreturn dX11_isValue_77 rfl (by first | decide | exact pI_01 _) ?_
    first | exact Qi_mk (pI_1 (by simp [mayB]; omega)) | exact Qi_mk (pI_0 (by simp [mayB]; omega)) | exact Qi_mk (pI_congr (by simp [mayB])) | exact Qi_mk (pI_0 (by unfold mayB; rw [if_neg (by omega), if_neg (by omega), if_neg (by omega), if_neg (by omega)]; simp))
  · refine R_tsIn 78 dX11_isValue_1 ⟨by omega, by omega⟩ (by omega) (by omega) rfl rfl ?_
    refine R_iload_n 79 rfl dX11_isValue_78 rfl ?_
    refine R_i2l 80 rfl dX11_isValue_79 (by first | assumption | exact ⟨by omega, by omega⟩) ?_
    refine R_lconst 81 rfl dX11_isValue_80 ?_
    refine R_topL (b := 0) rfl ?_
    refine R_ldc2 (99) 84 rfl dX11_isValue_81 kl_X11_189 (by decide) ?_
    refine R_callS_i (M' := mX11_in) 87 rfl dX11_isValue_84 ml_X11_63 kmX11_in st_X11_in (c_X11_in _ _ _ (by first | assumption | exact ⟨by omega, by omega⟩ | exact rg_L (by assumption)) (by first | assumption | exact ⟨by omega, by omega⟩ | exact rg_L (by assumption)) (by first | assumption | exact ⟨by omega, by omega⟩ | exact rg_L (by assumption))) rfl rfl ⟨Nat.le_of_ble_eq_true rfl, Nat.le_of_ble_eq_true rfl⟩ (Nat.le_of_ble_eq_true rfl) ⟨Nat.le_of_ble_eq_true rfl, Nat.le_of_ble_eq_true rfl⟩ ?_
    refine R_zreturn dX11_isValue_87 rfl (by first | decide | exact pI_01 _) ?_
    first | exact Qi_mk (pI_1 (by simp [mayB]; omega)) | exact Qi_mk (pI_0 (by simp [mayB]; omega)) | exact Qi_mk (pI_congr (by simp [mayB])) | exact Qi_mk (pI_0 (by unfold mayB; rw [if_neg (by omega), if_neg (by omega), if_neg (by omega), if_neg (by omega)]; simp))
  · refine R_tsIn 36 dX11_isValue_1 ⟨by omega, by omega⟩ (by omega) (by omega) rfl rfl ?_
    refine R_iload_n 37 rfl dX11_isValue_36 rfl ?_
    refine R_i2l 38 rfl dX11_isValue_37 (by first | assumption | exact ⟨by omega, by omega⟩) ?_
    refine R_lconst 39 rfl dX11_isValue_38 ?_
    refine R_topL (b := 0) rfl ?_
    refine R_lconst 40 rfl dX11_isValue_39 ?_
    refine R_topL (b := 1) rfl ?_
    refine R_callS_i (M' := mX11_in) 43 rfl dX11_isValue_40 ml_X11_63 kmX11_in st_X11_in (c_X11_in _ _ _ (by first | assumption | exact ⟨by omega, by omega⟩ | exact rg_L (by assumption)) (by first | assumption | exact ⟨by omega, by omega⟩ | exact rg_L (by assumption)) (by first | assumption | exact ⟨by omega, by omega⟩ | exact rg_L (by assumption))) rfl rfl ⟨Nat.le_of_ble_eq_true rfl, Nat.le_of_ble_eq_true rfl⟩ (Nat.le_of_ble_eq_true rfl) ⟨Nat.le_of_ble_eq_true rfl, Nat.le_of_ble_eq_true rfl⟩ ?_
    refine R_zreturn dX11_isValue_43 rfl (by first | decide | exact pI_01 _) ?_
    first | exact Qi_mk (pI_1 (by simp [mayB]; omega)) | exact Qi_mk (pI_0 (by simp [mayB]; omega)) | exact Qi_mk (pI_congr (by simp [mayB])) | exact Qi_mk (pI_0 (by unfold mayB; rw [if_neg (by omega), if_neg (by omega), if_neg (by omega), if_neg (by omega)]; simp))
end
