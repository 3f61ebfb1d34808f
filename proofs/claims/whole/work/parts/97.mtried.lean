section
variable {Γ : GX} {m m' m'' : Mem} {T : Tp} {L : Ld} {x : PX St}
theorem r_tried10 {m0 : Mem} (s : St) (y : Option AV) (hf : Fy m0 m) (hb : MB T m) (hx : MCa T m s) : R Γ mX11_readTried { frames := 3, cells := 0, slots := 0, locals := 120 } 0 0 (QV SH (fun m' => Fy m0 m' ∧ MCx T m' (trb T 0 s))) 0 0 39 [some (vr 96), some (vi 10), y] [] SH m := by
  have hx0 : MCx T m (.inr s) := hx
  have hP := hb.1
  have L72 : ∀ mm, Fy m0 mm → MB T mm → MCx T mm (once T 16 s) → R Γ mX11_readTried { frames := 3, cells := 0, slots := 0, locals := 120 } 0 0 (QV SH (fun m' => Fy m0 m' ∧ MCx T m' (trb T 0 s))) 0 0 72 [some (vr 96), some (vi 10), y] [] SH mm := by
    intro mm fm bm pm
    clear hP
    have hP := bm.1
    refine R_bipush 74 rfl dX11_readTried_72 (by decide) ?_
    refine R_iconst 75 rfl dX11_readTried_74 ?_
    refine R_iload_n 76 rfl dX11_readTried_75 rfl ?_
    refine R_bipush 78 rfl dX11_readTried_76 (by decide) ?_
    refine R_isub 79 rfl dX11_readTried_78 ?_
    refine R_imul 80 rfl dX11_readTried_79 ?_
    refine R_iadd 81 rfl dX11_readTried_80 ?_
    refine R_istore_n [_, _, _] 82 rfl dX11_readTried_81 rfl (by decide) ?_
    refine R_aload_n 83 rfl dX11_readTried_82 rfl ?_
    refine R_getP 15 86 rfl dX11_readTried_83 rfl rfl fl_X11_31 (hP _ _ _ rfl) ?_
    refine R_iload_n 87 rfl dX11_readTried_86 rfl ?_
    refine R_aload_n 88 rfl dX11_readTried_87 rfl ?_
    refine R_iconst 89 rfl dX11_readTried_88 ?_
    refine R_sipush 92 rfl dX11_readTried_89 (by decide) ?_
    refine R_callV_I (M' := mX11_number) 95 rfl dX11_readTried_92 ml_X11_108 kmX11_number im_X11_number se_X11_number rfl ⟨by decide, rfl⟩ (c_X11_number 0 999 _ bm pm (fun _ _ => ⟨⟨by omega, by omega⟩, ⟨by omega, by omega⟩⟩)) rfl rfl ⟨Nat.le_of_ble_eq_true rfl, Nat.le_of_ble_eq_true rfl⟩ (Nat.le_of_ble_eq_true rfl) ⟨Nat.le_of_ble_eq_true rfl, Nat.le_of_ble_eq_true rfl⟩ ?_
    rintro z92 m92 h92
    obtain ⟨f92, p92, v92, r92⟩ := h92
    have b92 := bm.fn f92
    have bs : MB T (setI m92 104 7 z92) := b92.fy (Fy.rf.set (by omega))
    have ps : MCx T (setI m92 104 7 z92) (stR 7 (pb (once T 16 s) (num T 0 999))) := MCx.stR p92 v92 (by decide)
    clear hP
    have hP := b92.1
    refine R_iast 7 96 rfl dX11_readTried_95 rfl (by first | rfl | omega) (by decide) (by decide) ?_
    refine R_aload_n 97 rfl dX11_readTried_96 rfl ?_
    refine R_getP 15 100 rfl dX11_readTried_97 rfl rfl fl_X11_31 (hP _ _ _ rfl) ?_
    refine R_iload_n 101 rfl dX11_readTried_100 rfl ?_
    refine R_iconst 102 rfl dX11_readTried_101 ?_
    refine R_iadd 103 rfl dX11_readTried_102 ?_
    refine R_aload_n 104 rfl dX11_readTried_103 rfl ?_
    refine R_aload_n 105 rfl dX11_readTried_104 rfl ?_
    refine R_getP 15 108 rfl dX11_readTried_105 rfl rfl fl_X11_31 (hP _ _ _ rfl) ?_
    refine R_iload_n 109 rfl dX11_readTried_108 rfl ?_
    refine R_iald 7 110 rfl dX11_readTried_109 rfl (by first | rfl | omega) (by decide) (by decide) ?_
    refine R_top (b := z92) (by simp [setI]) ?_
    refine R_iconst 111 rfl dX11_readTried_110 ?_
    refine R_icmp_le 114 123 rfl rfl dX11_readTried_111 (by first | assumption | exact ⟨by omega, by omega⟩) (by first | assumption | exact ⟨by omega, by omega⟩) (fun h111 => ?_) (fun h111 => ?_)
    · refine R_iconst 124 rfl dX11_readTried_123 ?_
      refine R_top (b := max 1 z92) (by omega) ?_
      refine R_sipush 127 rfl dX11_readTried_124 (by decide) ?_
      refine R_callV_I (M' := mX11_number) 130 rfl dX11_readTried_127 ml_X11_108 kmX11_number im_X11_number se_X11_number rfl ⟨by decide, rfl⟩ (c_X11_number (max 1 z92) 999 _ bs ps (fun _ _ => ⟨⟨by omega, by omega⟩, ⟨by omega, by omega⟩⟩)) rfl rfl ⟨Nat.le_of_ble_eq_true rfl, Nat.le_of_ble_eq_true rfl⟩ (Nat.le_of_ble_eq_true rfl) ⟨Nat.le_of_ble_eq_true rfl, Nat.le_of_ble_eq_true rfl⟩ ?_
      rintro z127 m127 h127
      obtain ⟨f127, p127, v127, -⟩ := h127
      rw [num_st (max 1) v92] at p127 v127
      clear hP
      have hP := (bs.fn f127).1
      refine R_iast 8 131 rfl dX11_readTried_130 rfl (by first | rfl | omega) (by decide) (by decide) ?_
      refine R_return dX11_readTried_131 rfl ?_
      rw [trb_x]
      exact QV_mk ⟨(((fm.tr f92.y).set (by omega)).tr f127.y).set (by omega), MCx.stR p127 v127 (by decide)⟩
    · refine R_aload_n 115 rfl dX11_readTried_114 rfl ?_
      refine R_getP 15 118 rfl dX11_readTried_115 rfl rfl fl_X11_31 (hP _ _ _ rfl) ?_
      refine R_iload_n 119 rfl dX11_readTried_118 rfl ?_
      refine R_iald 7 120 rfl dX11_readTried_119 rfl (by first | rfl | omega) (by decide) (by decide) ?_
      refine R_top (b := z92) (by simp [setI]) ?_
      refine R_goto 124 rfl dX11_readTried_120 ?_
      refine R_top (b := max 1 z92) (by omega) ?_
      refine R_sipush 127 rfl dX11_readTried_124 (by decide) ?_
      refine R_callV_I (M' := mX11_number) 130 rfl dX11_readTried_127 ml_X11_108 kmX11_number im_X11_number se_X11_number rfl ⟨by decide, rfl⟩ (c_X11_number (max 1 z92) 999 _ bs ps (fun _ _ => ⟨⟨by omega, by omega⟩, ⟨by omega, by omega⟩⟩)) rfl rfl ⟨Nat.le_of_ble_eq_true rfl, Nat.le_of_ble_eq_true rfl⟩ (Nat.le_of_ble_eq_true rfl) ⟨Nat.le_of_ble_eq_true rfl, Nat.le_of_ble_eq_true rfl⟩ ?_
      rintro z127 m127 h127
      obtain ⟨f127, p127, v127, -⟩ := h127
      rw [num_st (max 1) v92] at p127 v127
      clear hP
      have hP := (bs.fn f127).1
      refine R_iast 8 131 rfl dX11_readTried_130 rfl (by first | rfl | omega) (by decide) (by decide) ?_
      refine R_return dX11_readTried_131 rfl ?_
      rw [trb_x]
      exact QV_mk ⟨(((fm.tr f92.y).set (by omega)).tr f127.y).set (by omega), MCx.stR p127 v127 (by decide)⟩
  have L68d : ∀ z m1, Fy m0 m1 → MB T m1 → MCx T m1 (.inl (4, s.2.1)) → ¬ s.2.2.2.1 &&& 16 = 0 → R Γ mX11_readTried { frames := 3, cells := 0, slots := 0, locals := 120 } 0 0 (QV SH (fun m' => Fy m0 m' ∧ MCx T m' (trb T 0 s))) 0 0 68 [some (vr 96), some (vi 10), y] [] SH (setI m1 96 18 z) := by
    intro z m1 f1 b1 p1 h0
    have eo : once T 16 s = .inl (4, s.2.1) := if_neg h0
    have b2 : MB T (setI m1 96 18 z) := b1.fy (Fy.rf.set (by omega))
    refine R_aload_n 69 rfl dX11_readTried_68 rfl ?_
    refine R_callV_V (M' := mX11_next2) 72 rfl dX11_readTried_69 ml_X11_101 kmX11_next2 im_X11_next2 se_X11_next2 rfl ⟨by decide, rfl⟩ (c_X11_next2 (.inl (4, s.2.1)) b2 p1.told) rfl rfl ⟨Nat.le_of_ble_eq_true rfl, Nat.le_of_ble_eq_true rfl⟩ (Nat.le_of_ble_eq_true rfl) ⟨Nat.le_of_ble_eq_true rfl, Nat.le_of_ble_eq_true rfl⟩ ?_
    rintro m69 h69
    obtain ⟨f69, p69⟩ := h69
    exact L72 _ ((f1.set (by omega)).tr f69.y) (b2.fn f69) (by rw [eo]; exact p69)
  have L68a : ∀ z, s.2.2.2.1 &&& 16 = 0 → z = (spd (s.2.2.2.1 ||| 16) : Int) → R Γ mX11_readTried { frames := 3, cells := 0, slots := 0, locals := 120 } 0 0 (QV SH (fun m' => Fy m0 m' ∧ MCx T m' (trb T 0 s))) 0 0 68 [some (vr 96), some (vi 10), y] [] SH (setI m 96 18 z) := by
    intro z h0 hz
    have b2 : MB T (setI m 96 18 z) := hb.fy (Fy.rf.set (by omega))
    refine R_aload_n 69 rfl dX11_readTried_68 rfl ?_
    refine R_callV_V (M' := mX11_next2) 72 rfl dX11_readTried_69 ml_X11_101 kmX11_next2 im_X11_next2 se_X11_next2 rfl ⟨by decide, rfl⟩ (c_X11_nextO 16 s _ hb hx h0 (by decide) hz) rfl rfl ⟨Nat.le_of_ble_eq_true rfl, Nat.le_of_ble_eq_true rfl⟩ (Nat.le_of_ble_eq_true rfl) ⟨Nat.le_of_ble_eq_true rfl, Nat.le_of_ble_eq_true rfl⟩ ?_
    rintro m69 h69
    obtain ⟨f69, p69⟩ := h69
    exact L72 _ ((hf.set (by omega)).tr f69.y) (b2.fn f69) p69
  have hs := hx.2.2.2.2.2.2.1.2.2.2.2.1
  have g18 := hx.2.2.2.2.2.1
  have sl := spd_lt _ hs
  have st1 := spd_t10 _ hs
  have so := spd_o10 _ hs
  refine R_aload_n 40 rfl dX11_readTried_39 rfl ?_
  refine R_getI 18 43 rfl dX11_readTried_40 rfl rfl fl_X11_115 ?_
  refine R_iload_n 44 rfl dX11_readTried_43 rfl ?_
  refine R_ishr 45 rfl dX11_readTried_44 (by first | assumption | exact ⟨by omega, by omega⟩) (by omega) (by omega) ?_
  refine R_top (b := ((spd s.2.2.2.1 / 1024 : Nat) : Int)) (by rw [g18]; show ((spd s.2.2.2.1 : Nat) : Int) / 1024 = _; omega) ?_
  refine R_iconst 46 rfl dX11_readTried_45 ?_
  refine R_iand1 47 rfl dX11_readTried_46 ?_
  refine R_iconst 48 rfl dX11_readTried_47 ?_
  refine R_icmp_ne 51 56 rfl rfl dX11_readTried_48 (by first | assumption | exact ⟨by omega, by omega⟩) (by first | assumption | exact ⟨by omega, by omega⟩) (fun h48 => ?_) (fun h48 => ?_)
  · refine R_aload_n 57 rfl dX11_readTried_56 rfl ?_
    refine R_dup 58 rfl dX11_readTried_57 rfl ?_
    refine R_getI 18 61 rfl dX11_readTried_58 rfl rfl fl_X11_115 ?_
    first | rw [e18] | rw [g18]
    refine R_iconst 62 rfl dX11_readTried_61 ?_
    refine R_iload_n 63 rfl dX11_readTried_62 rfl ?_
    refine R_ishl 64 rfl dX11_readTried_63 (by omega) (by omega) ?_
    refine R_iorB 65 rfl dX11_readTried_64 ?_
    refine R_putI 18 68 rfl dX11_readTried_65 rfl rfl fl_X11_115 ?_
    first | exact L68d _ _ (hf.tr f53.y) (hb.fn f53) p53 (by omega) | exact L68a _ (by omega) (by rw [so])
  · refine R_aload_n 52 rfl dX11_readTried_51 rfl ?_
    refine R_iconst 53 rfl dX11_readTried_52 ?_
    refine R_callV_V (M' := mX11_fails) 56 rfl dX11_readTried_53 ml_X11_97 kmX11_fails im_X11_fails se_X11_fails rfl ⟨by decide, rfl⟩ (c_X11_fails 4 _ hx0 (by omega)) rfl rfl ⟨Nat.le_of_ble_eq_true rfl, Nat.le_of_ble_eq_true rfl⟩ (Nat.le_of_ble_eq_true rfl) ⟨Nat.le_of_ble_eq_true rfl, Nat.le_of_ble_eq_true rfl⟩ ?_
    rintro m53 h53
    obtain ⟨f53, p53⟩ := h53
    have e18 : m53.1 96 18 = (spd s.2.2.2.1 : Int) := (f53.1 _ _ (by omega)).trans g18
    refine R_aload_n 57 rfl dX11_readTried_56 rfl ?_
    refine R_dup 58 rfl dX11_readTried_57 rfl ?_
    refine R_getI 18 61 rfl dX11_readTried_58 rfl rfl fl_X11_115 ?_
    first | rw [e18] | rw [g18]
    refine R_iconst 62 rfl dX11_readTried_61 ?_
    refine R_iload_n 63 rfl dX11_readTried_62 rfl ?_
    refine R_ishl 64 rfl dX11_readTried_63 (by omega) (by omega) ?_
    refine R_iorB 65 rfl dX11_readTried_64 ?_
    refine R_putI 18 68 rfl dX11_readTried_65 rfl rfl fl_X11_115 ?_
    first | exact L68d _ _ (hf.tr f53.y) (hb.fn f53) p53 (by omega) | exact L68a _ (by omega) (by rw [so])
theorem r_tried11 {m0 : Mem} (s : St) (y : Option AV) (hf : Fy m0 m) (hb : MB T m) (hx : MCa T m s) : R Γ mX11_readTried { frames := 3, cells := 0, slots := 0, locals := 120 } 0 0 (QV SH (fun m' => Fy m0 m' ∧ MCx T m' (trb T 1 s))) 0 0 39 [some (vr 96), some (vi 11), y] [] SH m := by
  have hx0 : MCx T m (.inr s) := hx
  have hP := hb.1
  have L72 : ∀ mm, Fy m0 mm → MB T mm → MCx T mm (once T 32 s) → R Γ mX11_readTried { frames := 3, cells := 0, slots := 0, locals := 120 } 0 0 (QV SH (fun m' => Fy m0 m' ∧ MCx T m' (trb T 1 s))) 0 0 72 [some (vr 96), some (vi 11), y] [] SH mm := by
    intro mm fm bm pm
    clear hP
    have hP := bm.1
    refine R_bipush 74 rfl dX11_readTried_72 (by decide) ?_
    refine R_iconst 75 rfl dX11_readTried_74 ?_
    refine R_iload_n 76 rfl dX11_readTried_75 rfl ?_
    refine R_bipush 78 rfl dX11_readTried_76 (by decide) ?_
    refine R_isub 79 rfl dX11_readTried_78 ?_
    refine R_imul 80 rfl dX11_readTried_79 ?_
    refine R_iadd 81 rfl dX11_readTried_80 ?_
    refine R_istore_n [_, _, _] 82 rfl dX11_readTried_81 rfl (by decide) ?_
    refine R_aload_n 83 rfl dX11_readTried_82 rfl ?_
    refine R_getP 15 86 rfl dX11_readTried_83 rfl rfl fl_X11_31 (hP _ _ _ rfl) ?_
    refine R_iload_n 87 rfl dX11_readTried_86 rfl ?_
    refine R_aload_n 88 rfl dX11_readTried_87 rfl ?_
    refine R_iconst 89 rfl dX11_readTried_88 ?_
    refine R_sipush 92 rfl dX11_readTried_89 (by decide) ?_
    refine R_callV_I (M' := mX11_number) 95 rfl dX11_readTried_92 ml_X11_108 kmX11_number im_X11_number se_X11_number rfl ⟨by decide, rfl⟩ (c_X11_number 0 999 _ bm pm (fun _ _ => ⟨⟨by omega, by omega⟩, ⟨by omega, by omega⟩⟩)) rfl rfl ⟨Nat.le_of_ble_eq_true rfl, Nat.le_of_ble_eq_true rfl⟩ (Nat.le_of_ble_eq_true rfl) ⟨Nat.le_of_ble_eq_true rfl, Nat.le_of_ble_eq_true rfl⟩ ?_
    rintro z92 m92 h92
    obtain ⟨f92, p92, v92, r92⟩ := h92
    have b92 := bm.fn f92
    have bs : MB T (setI m92 104 9 z92) := b92.fy (Fy.rf.set (by omega))
    have ps : MCx T (setI m92 104 9 z92) (stR 9 (pb (once T 32 s) (num T 0 999))) := MCx.stR p92 v92 (by decide)
    clear hP
    have hP := b92.1
    refine R_iast 9 96 rfl dX11_readTried_95 rfl (by first | rfl | omega) (by decide) (by decide) ?_
    refine R_aload_n 97 rfl dX11_readTried_96 rfl ?_
    refine R_getP 15 100 rfl dX11_readTried_97 rfl rfl fl_X11_31 (hP _ _ _ rfl) ?_
    refine R_iload_n 101 rfl dX11_readTried_100 rfl ?_
    refine R_iconst 102 rfl dX11_readTried_101 ?_
    refine R_iadd 103 rfl dX11_readTried_102 ?_
    refine R_aload_n 104 rfl dX11_readTried_103 rfl ?_
    refine R_aload_n 105 rfl dX11_readTried_104 rfl ?_
    refine R_getP 15 108 rfl dX11_readTried_105 rfl rfl fl_X11_31 (hP _ _ _ rfl) ?_
    refine R_iload_n 109 rfl dX11_readTried_108 rfl ?_
    refine R_iald 9 110 rfl dX11_readTried_109 rfl (by first | rfl | omega) (by decide) (by decide) ?_
    refine R_top (b := z92) (by simp [setI]) ?_
    refine R_iconst 111 rfl dX11_readTried_110 ?_
    refine R_icmp_le 114 123 rfl rfl dX11_readTried_111 (by first | assumption | exact ⟨by omega, by omega⟩) (by first | assumption | exact ⟨by omega, by omega⟩) (fun h111 => ?_) (fun h111 => ?_)
    · refine R_iconst 124 rfl dX11_readTried_123 ?_
      refine R_top (b := max 1 z92) (by omega) ?_
      refine R_sipush 127 rfl dX11_readTried_124 (by decide) ?_
      refine R_callV_I (M' := mX11_number) 130 rfl dX11_readTried_127 ml_X11_108 kmX11_number im_X11_number se_X11_number rfl ⟨by decide, rfl⟩ (c_X11_number (max 1 z92) 999 _ bs ps (fun _ _ => ⟨⟨by omega, by omega⟩, ⟨by omega, by omega⟩⟩)) rfl rfl ⟨Nat.le_of_ble_eq_true rfl, Nat.le_of_ble_eq_true rfl⟩ (Nat.le_of_ble_eq_true rfl) ⟨Nat.le_of_ble_eq_true rfl, Nat.le_of_ble_eq_true rfl⟩ ?_
      rintro z127 m127 h127
      obtain ⟨f127, p127, v127, -⟩ := h127
      rw [num_st (max 1) v92] at p127 v127
      clear hP
      have hP := (bs.fn f127).1
      refine R_iast 10 131 rfl dX11_readTried_130 rfl (by first | rfl | omega) (by decide) (by decide) ?_
      refine R_return dX11_readTried_131 rfl ?_
      rw [trb_x]
      exact QV_mk ⟨(((fm.tr f92.y).set (by omega)).tr f127.y).set (by omega), MCx.stR p127 v127 (by decide)⟩
    · refine R_aload_n 115 rfl dX11_readTried_114 rfl ?_
      refine R_getP 15 118 rfl dX11_readTried_115 rfl rfl fl_X11_31 (hP _ _ _ rfl) ?_
      refine R_iload_n 119 rfl dX11_readTried_118 rfl ?_
      refine R_iald 9 120 rfl dX11_readTried_119 rfl (by first | rfl | omega) (by decide) (by decide) ?_
      refine R_top (b := z92) (by simp [setI]) ?_
      refine R_goto 124 rfl dX11_readTried_120 ?_
      refine R_top (b := max 1 z92) (by omega) ?_
      refine R_sipush 127 rfl dX11_readTried_124 (by decide) ?_
      refine R_callV_I (M' := mX11_number) 130 rfl dX11_readTried_127 ml_X11_108 kmX11_number im_X11_number se_X11_number rfl ⟨by decide, rfl⟩ (c_X11_number (max 1 z92) 999 _ bs ps (fun _ _ => ⟨⟨by omega, by omega⟩, ⟨by omega, by omega⟩⟩)) rfl rfl ⟨Nat.le_of_ble_eq_true rfl, Nat.le_of_ble_eq_true rfl⟩ (Nat.le_of_ble_eq_true rfl) ⟨Nat.le_of_ble_eq_true rfl, Nat.le_of_ble_eq_true rfl⟩ ?_
      rintro z127 m127 h127
      obtain ⟨f127, p127, v127, -⟩ := h127
      rw [num_st (max 1) v92] at p127 v127
      clear hP
      have hP := (bs.fn f127).1
      refine R_iast 10 131 rfl dX11_readTried_130 rfl (by first | rfl | omega) (by decide) (by decide) ?_
      refine R_return dX11_readTried_131 rfl ?_
      rw [trb_x]
      exact QV_mk ⟨(((fm.tr f92.y).set (by omega)).tr f127.y).set (by omega), MCx.stR p127 v127 (by decide)⟩
  have L68d : ∀ z m1, Fy m0 m1 → MB T m1 → MCx T m1 (.inl (4, s.2.1)) → ¬ s.2.2.2.1 &&& 32 = 0 → R Γ mX11_readTried { frames := 3, cells := 0, slots := 0, locals := 120 } 0 0 (QV SH (fun m' => Fy m0 m' ∧ MCx T m' (trb T 1 s))) 0 0 68 [some (vr 96), some (vi 11), y] [] SH (setI m1 96 18 z) := by
    intro z m1 f1 b1 p1 h0
    have eo : once T 32 s = .inl (4, s.2.1) := if_neg h0
    have b2 : MB T (setI m1 96 18 z) := b1.fy (Fy.rf.set (by omega))
    refine R_aload_n 69 rfl dX11_readTried_68 rfl ?_
    refine R_callV_V (M' := mX11_next2) 72 rfl dX11_readTried_69 ml_X11_101 kmX11_next2 im_X11_next2 se_X11_next2 rfl ⟨by decide, rfl⟩ (c_X11_next2 (.inl (4, s.2.1)) b2 p1.told) rfl rfl ⟨Nat.le_of_ble_eq_true rfl, Nat.le_of_ble_eq_true rfl⟩ (Nat.le_of_ble_eq_true rfl) ⟨Nat.le_of_ble_eq_true rfl, Nat.le_of_ble_eq_true rfl⟩ ?_
    rintro m69 h69
    obtain ⟨f69, p69⟩ := h69
    exact L72 _ ((f1.set (by omega)).tr f69.y) (b2.fn f69) (by rw [eo]; exact p69)
  have L68a : ∀ z, s.2.2.2.1 &&& 32 = 0 → z = (spd (s.2.2.2.1 ||| 32) : Int) → R Γ mX11_readTried { frames := 3, cells := 0, slots := 0, locals := 120 } 0 0 (QV SH (fun m' => Fy m0 m' ∧ MCx T m' (trb T 1 s))) 0 0 68 [some (vr 96), some (vi 11), y] [] SH (setI m 96 18 z) := by
    intro z h0 hz
    have b2 : MB T (setI m 96 18 z) := hb.fy (Fy.rf.set (by omega))
    refine R_aload_n 69 rfl dX11_readTried_68 rfl ?_
    refine R_callV_V (M' := mX11_next2) 72 rfl dX11_readTried_69 ml_X11_101 kmX11_next2 im_X11_next2 se_X11_next2 rfl ⟨by decide, rfl⟩ (c_X11_nextO 32 s _ hb hx h0 (by decide) hz) rfl rfl ⟨Nat.le_of_ble_eq_true rfl, Nat.le_of_ble_eq_true rfl⟩ (Nat.le_of_ble_eq_true rfl) ⟨Nat.le_of_ble_eq_true rfl, Nat.le_of_ble_eq_true rfl⟩ ?_
    rintro m69 h69
    obtain ⟨f69, p69⟩ := h69
    exact L72 _ ((hf.set (by omega)).tr f69.y) (b2.fn f69) p69
  have hs := hx.2.2.2.2.2.2.1.2.2.2.2.1
  have g18 := hx.2.2.2.2.2.1
  have sl := spd_lt _ hs
  have st1 := spd_t11 _ hs
  have so := spd_o11 _ hs
  refine R_aload_n 40 rfl dX11_readTried_39 rfl ?_
  refine R_getI 18 43 rfl dX11_readTried_40 rfl rfl fl_X11_115 ?_
  refine R_iload_n 44 rfl dX11_readTried_43 rfl ?_
  refine R_ishr 45 rfl dX11_readTried_44 (by first | assumption | exact ⟨by omega, by omega⟩) (by omega) (by omega) ?_
  refine R_top (b := ((spd s.2.2.2.1 / 2048 : Nat) : Int)) (by rw [g18]; show ((spd s.2.2.2.1 : Nat) : Int) / 2048 = _; omega) ?_
  refine R_iconst 46 rfl dX11_readTried_45 ?_
  refine R_iand1 47 rfl dX11_readTried_46 ?_
  refine R_iconst 48 rfl dX11_readTried_47 ?_
  refine R_icmp_ne 51 56 rfl rfl dX11_readTried_48 (by first | assumption | exact ⟨by omega, by omega⟩) (by first | assumption | exact ⟨by omega, by omega⟩) (fun h48 => ?_) (fun h48 => ?_)
  · refine R_aload_n 57 rfl dX11_readTried_56 rfl ?_
    refine R_dup 58 rfl dX11_readTried_57 rfl ?_
    refine R_getI 18 61 rfl dX11_readTried_58 rfl rfl fl_X11_115 ?_
    first | rw [e18] | rw [g18]
    refine R_iconst 62 rfl dX11_readTried_61 ?_
    refine R_iload_n 63 rfl dX11_readTried_62 rfl ?_
    refine R_ishl 64 rfl dX11_readTried_63 (by omega) (by omega) ?_
    refine R_iorB 65 rfl dX11_readTried_64 ?_
    refine R_putI 18 68 rfl dX11_readTried_65 rfl rfl fl_X11_115 ?_
    first | exact L68d _ _ (hf.tr f53.y) (hb.fn f53) p53 (by omega) | exact L68a _ (by omega) (by rw [so])
  · refine R_aload_n 52 rfl dX11_readTried_51 rfl ?_
    refine R_iconst 53 rfl dX11_readTried_52 ?_
    refine R_callV_V (M' := mX11_fails) 56 rfl dX11_readTried_53 ml_X11_97 kmX11_fails im_X11_fails se_X11_fails rfl ⟨by decide, rfl⟩ (c_X11_fails 4 _ hx0 (by omega)) rfl rfl ⟨Nat.le_of_ble_eq_true rfl, Nat.le_of_ble_eq_true rfl⟩ (Nat.le_of_ble_eq_true rfl) ⟨Nat.le_of_ble_eq_true rfl, Nat.le_of_ble_eq_true rfl⟩ ?_
    rintro m53 h53
    obtain ⟨f53, p53⟩ := h53
    have e18 : m53.1 96 18 = (spd s.2.2.2.1 : Int) := (f53.1 _ _ (by omega)).trans g18
    refine R_aload_n 57 rfl dX11_readTried_56 rfl ?_
    refine R_dup 58 rfl dX11_readTried_57 rfl ?_
    refine R_getI 18 61 rfl dX11_readTried_58 rfl rfl fl_X11_115 ?_
    first | rw [e18] | rw [g18]
    refine R_iconst 62 rfl dX11_readTried_61 ?_
    refine R_iload_n 63 rfl dX11_readTried_62 rfl ?_
    refine R_ishl 64 rfl dX11_readTried_63 (by omega) (by omega) ?_
    refine R_iorB 65 rfl dX11_readTried_64 ?_
    refine R_putI 18 68 rfl dX11_readTried_65 rfl rfl fl_X11_115 ?_
    first | exact L68d _ _ (hf.tr f53.y) (hb.fn f53) p53 (by omega) | exact L68a _ (by omega) (by rw [so])
theorem c_X11_readTried (st : St) (hb : MB T m) (hx : MCa T m st) : C Γ mX11_readTried 3 120 0 0 [vr 96] SH m (QV SH (fun m' => Fy m m' ∧ MCx T m' (triedT T st))) := by
  refine C_of_R rfl (Nat.le_of_ble_eq_true rfl) ?_
  have L4 : ∀ x m1 y1 y2, adv T st = x → Fn m m1 → MCx T m1 x → R Γ mX11_readTried { frames := 3, cells := 0, slots := 0, locals := 120 } 0 0 (QV SH (fun m' => Fy m m' ∧ MCx T m' (triedT T st))) 0 0 4 [some (vr 96), y1, y2] [] SH m1 := by
    intro x m1 y1 y2 ha f1 p1
    have b1 := hb.fn f1
    have hP := b1.1
    have et : triedT T st = pb x (fun s => if isW T 11 s = true then trb T 1 s else if isW T 10 s = true then trb T 0 s else .inl (2, s.2.1)) := by
      unfold triedT
      rw [ha]
    cases x with
    | inl e =>
      have q3 := p1.1
      have q1 := p1.2.2
      refine R_aload_n 5 rfl dX11_readTried_4 rfl ?_
      refine R_getI 3 8 rfl dX11_readTried_5 rfl rfl fl_X11_67 ?_
      refine R_if_ne 11 18 rfl rfl dX11_readTried_8 (by first | assumption | exact ⟨by omega, by omega⟩) (fun h8 => ?_) (fun h8 => ?_)
      · refine R_bipush 20 rfl dX11_readTried_18 (by decide) ?_
        refine R_istore_n [_, _, _] 21 rfl dX11_readTried_20 rfl (by decide) ?_
        refine R_iload_n 22 rfl dX11_readTried_21 rfl ?_
        refine R_bipush 24 rfl dX11_readTried_22 (by decide) ?_
        refine R_icmp_eq 27 39 rfl rfl dX11_readTried_24 (by first | assumption | exact ⟨by omega, by omega⟩) (by first | assumption | exact ⟨by omega, by omega⟩) (fun h24 => ?_) (fun h24 => ?_)
        · exact absurd h24 (by omega)
        refine R_iload_n 28 rfl dX11_readTried_27 rfl ?_
        refine R_bipush 30 rfl dX11_readTried_28 (by decide) ?_
        refine R_icmp_eq 33 39 rfl rfl dX11_readTried_30 (by first | assumption | exact ⟨by omega, by omega⟩) (by first | assumption | exact ⟨by omega, by omega⟩) (fun h30 => ?_) (fun h30 => ?_)
        · exact absurd h30 (by omega)
        refine R_aload_n 34 rfl dX11_readTried_33 rfl ?_
        refine R_iconst 35 rfl dX11_readTried_34 ?_
        refine R_callV_V (M' := mX11_fails) 38 rfl dX11_readTried_35 ml_X11_97 kmX11_fails im_X11_fails se_X11_fails rfl ⟨by decide, rfl⟩ (c_X11_fails 2 _ p1 (by omega)) rfl rfl ⟨Nat.le_of_ble_eq_true rfl, Nat.le_of_ble_eq_true rfl⟩ (Nat.le_of_ble_eq_true rfl) ⟨Nat.le_of_ble_eq_true rfl, Nat.le_of_ble_eq_true rfl⟩ ?_
        rintro m35 h35
        obtain ⟨f35, p35⟩ := h35
        refine R_return dX11_readTried_38 rfl ?_
        rw [et]
        exact QV_mk ⟨(f1.tr f35).y, p35⟩
      · exfalso; omega
    | inr s =>
      have q3 := p1.1
      have nr := nm_rg (T := T) (st := s)
      have n10 := nm_iff (T := T) (st := s) (j := 10) (by decide)
      have n11 := nm_iff (T := T) (st := s) (j := 11) (by decide)
      have et2 : triedT T st = if isW T 11 s = true then trb T 1 s else if isW T 10 s = true then trb T 0 s else .inl (2, s.2.1) := et
      refine R_aload_n 5 rfl dX11_readTried_4 rfl ?_
      refine R_getI 3 8 rfl dX11_readTried_5 rfl rfl fl_X11_67 ?_
      refine R_if_ne 11 18 rfl rfl dX11_readTried_8 (by first | assumption | exact ⟨by omega, by omega⟩) (fun h8 => ?_) (fun h8 => ?_)
      · exfalso; omega
      · refine R_aload_n 12 rfl dX11_readTried_11 rfl ?_
        refine R_callV_i (M' := mX11_nameHere) 15 rfl dX11_readTried_12 ml_X11_104 kmX11_nameHere im_X11_nameHere se_X11_nameHere rfl ⟨by decide, rfl⟩ (c_X11_nameHere s b1 p1) rfl rfl ⟨Nat.le_of_ble_eq_true rfl, Nat.le_of_ble_eq_true rfl⟩ (Nat.le_of_ble_eq_true rfl) ⟨Nat.le_of_ble_eq_true rfl, Nat.le_of_ble_eq_true rfl⟩ ?_
        refine R_goto 20 rfl dX11_readTried_15 ?_
        refine R_istore_n [_, _, _] 21 rfl dX11_readTried_20 rfl (by decide) ?_
        refine R_iload_n 22 rfl dX11_readTried_21 rfl ?_
        refine R_bipush 24 rfl dX11_readTried_22 (by decide) ?_
        refine R_icmp_eq 27 39 rfl rfl dX11_readTried_24 (by first | assumption | exact ⟨by omega, by omega⟩) (by first | assumption | exact ⟨by omega, by omega⟩) (fun h24 => ?_) (fun h24 => ?_)
        · first
          | (have e1 : nm T s = 10 := by omega
             rw [if_neg (fun w => by have := n11.mpr w; omega), if_pos (n10.mp (by omega))] at et2
             rw [et2, e1]
             exact r_tried10 s _ f1.y b1 p1)
          | (have e1 : nm T s = 11 := by omega
             rw [if_pos (n11.mp (by omega))] at et2
             rw [et2, e1]
             exact r_tried11 s _ f1.y b1 p1)
        · refine R_iload_n 28 rfl dX11_readTried_27 rfl ?_
          refine R_bipush 30 rfl dX11_readTried_28 (by decide) ?_
          refine R_icmp_eq 33 39 rfl rfl dX11_readTried_30 (by first | assumption | exact ⟨by omega, by omega⟩) (by first | assumption | exact ⟨by omega, by omega⟩) (fun h30 => ?_) (fun h30 => ?_)
          · first
            | (have e1 : nm T s = 10 := by omega
               rw [if_neg (fun w => by have := n11.mpr w; omega), if_pos (n10.mp (by omega))] at et2
               rw [et2, e1]
               exact r_tried10 s _ f1.y b1 p1)
            | (have e1 : nm T s = 11 := by omega
               rw [if_pos (n11.mp (by omega))] at et2
               rw [et2, e1]
               exact r_tried11 s _ f1.y b1 p1)
          · refine R_aload_n 34 rfl dX11_readTried_33 rfl ?_
            refine R_iconst 35 rfl dX11_readTried_34 ?_
            refine R_callV_V (M' := mX11_fails) 38 rfl dX11_readTried_35 ml_X11_97 kmX11_fails im_X11_fails se_X11_fails rfl ⟨by decide, rfl⟩ (c_X11_fails 2 (.inr s) p1 (by omega)) rfl rfl ⟨Nat.le_of_ble_eq_true rfl, Nat.le_of_ble_eq_true rfl⟩ (Nat.le_of_ble_eq_true rfl) ⟨Nat.le_of_ble_eq_true rfl, Nat.le_of_ble_eq_true rfl⟩ ?_
            rintro m35 h35
            obtain ⟨f35, p35⟩ := h35
            refine R_return dX11_readTried_38 rfl ?_
            rw [if_neg (fun w => by have := n11.mpr w; omega), if_neg (fun w => by have := n10.mpr w; omega)] at et2
            rw [et2]
            exact QV_mk ⟨(f1.tr f35).y, p35⟩
  have hx0 : MCx T m (.inr st) := hx
  refine R_aload_n 1 rfl dX11_readTried_0 rfl ?_
  refine R_callV_V (M' := mX11_next2) 4 rfl dX11_readTried_1 ml_X11_101 kmX11_next2 im_X11_next2 se_X11_next2 rfl ⟨by decide, rfl⟩ (c_X11_next2 _ hb hx0) rfl rfl ⟨Nat.le_of_ble_eq_true rfl, Nat.le_of_ble_eq_true rfl⟩ (Nat.le_of_ble_eq_true rfl) ⟨Nat.le_of_ble_eq_true rfl, Nat.le_of_ble_eq_true rfl⟩ ?_
  rintro m1 h1
  obtain ⟨f1, p1⟩ := h1
  exact L4 (adv T st) _ _ _ rfl f1 p1
end
