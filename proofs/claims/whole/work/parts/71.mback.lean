section
variable {Γ : GX} {m m' m'' : Mem} {B B' : Bk} {L : Ld} {ch ch' : Cs} {T : Tp} {F N : Int} {I : Nat → Im} {S : Nat → Sht}
theorem c_X11_back (k : Int) (hR : RS L B ch m) (hX : RX T F I S N m) (hk : rg k) : C Γ mX11_back 2 80 0 0 [vr 96, vi k] SH m (QR L (if (0 ≤ k ∧ k ≤ 1) ∧ imBack L (I k.toNat) = true then (I k.toNat).2.1 else B) (if (0 ≤ k ∧ k ≤ 1) ∧ imBack L (I k.toNat) = true then chBk L (I k.toNat).2.2 else ch) T F I S N m (if 0 ≤ k ∧ k ≤ 1 then (if imBack L (I k.toNat) = true then ((I k.toNat).2.1.1 : Int) else -2) else -1)) := by
  refine C_of_R rfl (Nat.le_of_ble_eq_true rfl) ?_
  have hP := hR.1
  have hl := hR.2.2.1.1
  have h20 := hR.2.1.1 0 (by omega)
  have hab := allB_rg hR.2.2.1
  have ea : 1 * 2 ^ (m.1 101 0).toNat - 1 = allB L := by rw [h20]; unfold allB npN; omega
  have L3 : 0 ≤ k ∧ k ≤ 1 → imBack L (I k.toNat) = true → ∀ m2, m2.2 = m.2 → (∀ a j, a ≠ 107 ∨ 660 ≤ j → m2.1 a j = m.1 a j) → (∀ j, j < 660 → m2.1 107 j = m.1 107 (660 * (k.toNat + 1) + j)) → ∀ ca fr, R Γ mX11_back { frames := 2, cells := 0, slots := 0, locals := 80 } 0 0 (QR L (if (0 ≤ k ∧ k ≤ 1) ∧ imBack L (I k.toNat) = true then (I k.toNat).2.1 else B) (if (0 ≤ k ∧ k ≤ 1) ∧ imBack L (I k.toNat) = true then chBk L (I k.toNat).2.2 else ch) T F I S N m (if 0 ≤ k ∧ k ≤ 1 then (if imBack L (I k.toNat) = true then ((I k.toNat).2.1.1 : Int) else -2) else -1)) 0 0 125 [some (vr 96), some (vi k), some (vi ca), some (vi fr), some (vi 0)] [] SH m2 := by
    intro ho hbk m2 e2 h0 h1 ca fr
    have hP : RP m2 := fun a k r q => by rw [e2]; exact hR.1 a k r q
    have hRI := hX.2.2.2.1 k.toNat (by omega)
    have hIO := hX.1.2.2.1 k.toNat (by omega)
    have hkp : (I k.toNat).1 = true := by unfold imBack at hbk; simp only [Bool.and_eq_true] at hbk; exact hbk.1
    have hall : allN (fun j => decide ((I k.toNat).2.1.2.1 0 j < L.1 0)) (I k.toNat).2.1.1 = true := by unfold imBack at hbk; simp only [Bool.and_eq_true] at hbk; exact hbk.2
    obtain ⟨rb, rc⟩ := hRI.2.1 hkp
    obtain ⟨ob, oc⟩ := hIO hkp
    have hb := ob.1
    have c0 := oc 0 (by omega)
    have c1 := oc 1 (by omega)
    have q0 : m2.1 107 640 = (I k.toNat).2.2 0 0 := (h1 640 (by omega)).trans (rc 0 (by omega) 0 (by omega))
    have q1 : m2.1 107 645 = (I k.toNat).2.2 1 0 := (h1 645 (by omega)).trans (rc 1 (by omega) 0 (by omega))
    have r20 : m2.1 101 0 = m.1 101 0 := h0 101 0 (by omega)
    have fin : ∀ m3, m3.2 = m2.2 → (∀ a j, (a ≠ 107 ∨ j < 640 ∨ 646 ≤ j ∨ (640 < j ∧ j < 645)) ∧ (a ≠ 96 ∨ j ≠ 20) → m3.1 a j = m2.1 a j) → m3.1 107 640 = chBk L (I k.toNat).2.2 0 0 → m3.1 107 645 = chBk L (I k.toNat).2.2 1 0 → m3.1 96 20 = 1 → Fl m m3 ∧ RS L (I k.toNat).2.1 (chBk L (I k.toNat).2.2) m3 ∧ RX T F I S N m3 := by
      intro m3 e3 f0 f1 f2 f3
      refine ⟨⟨fun a j q => (f0 a j (by omega)).trans (h0 a j (by omega)), e3.trans e2⟩, ⟨fun a k r q => by rw [e3, e2]; exact hR.1 a k r q, hR.2.1.eq (fun a j q1 q2 => (f0 a j (by omega)).trans (h0 a j (by omega))), hR.2.2.1, ⟨?_, fun j hj w hw => ?_, fun j hj w hw => ?_⟩, allN_BkOk ob hall, Or.inl ⟨f3, fun c hc j hj => ?_⟩, chBk_ok oc⟩, hX.eq ⟨(f0 96 1 (by omega)).trans (h0 96 1 (by omega)), (f0 96 2 (by omega)).trans (h0 96 2 (by omega)), (f0 96 34 (by omega)).trans (h0 96 34 (by omega))⟩ (fun a j q1 q2 => (f0 a j (by omega)).trans (h0 a j (by omega))) (fun j q => (f0 107 j (by omega)).trans (h0 107 j (by omega)))⟩
      · rw [f0 107 _ (by omega), h1 _ (by omega)]; exact rb.1
      · have hj2 : j < (I k.toNat).2.1.1 := hj
        rw [f0 107 _ (by omega), h1 _ (by omega), ← rb.2.1 j hj w hw]; exact congrArg (m.1 107) (by omega)
      · have hj2 : j < 2 * (I k.toNat).2.1.1 := hj
        rw [f0 107 _ (by omega), h1 _ (by omega), ← rb.2.2 j hj w hw]; exact congrArg (m.1 107) (by omega)
      · by_cases e : j = 0
        · subst e
          rcases (show c = 0 ∨ c = 1 by omega) with rfl | rfl
          · exact f1
          · exact f2
        · rw [f0 107 _ (by omega), h1 _ (by omega)]
          simp only [chBk, if_neg e]
          rw [← rc c hc j hj]; exact congrArg (m.1 107) (by omega)
    refine R_iload 127 rfl dX11_back_125 rfl ?_
    refine R_iconst 128 rfl dX11_back_127 ?_
    refine R_icmp_ge 131 163 rfl rfl dX11_back_128 (by first | assumption | exact ⟨by omega, by omega⟩) (by first | assumption | exact ⟨by omega, by omega⟩) (fun h128 => ?_) (fun h128 => ?_)
    · exact absurd h128 (by omega)
    refine R_aload_n 132 rfl dX11_back_131 rfl ?_
    refine R_getP 19 135 rfl dX11_back_132 rfl rfl fl_X11_40 (hP _ _ _ rfl) ?_
    refine R_sipush 138 rfl dX11_back_135 (by decide) ?_
    refine R_iconst 139 rfl dX11_back_138 ?_
    refine R_iload 141 rfl dX11_back_139 rfl ?_
    refine R_imul 142 rfl dX11_back_141 ?_
    refine R_iadd 143 rfl dX11_back_142 ?_
    refine R_dup2 144 rfl dX11_back_143 rfl rfl ?_
    refine R_iald 640 145 rfl dX11_back_144 rfl (by first | rfl | omega) (by decide) (by decide) ?_
    first | refine R_top (a := m2.1 107 640) (b := (((I k.toNat).2.2 0 0).toNat : Int)) (by omega) ?_ | refine R_top (b := (((I k.toNat).2.2 1 0).toNat : Int)) (by simp only [setI]; rw [if_neg (by omega)]; omega) ?_
    refine R_iconst 146 rfl dX11_back_145 ?_
    refine R_aload_n 147 rfl dX11_back_146 rfl ?_
    refine R_getP 12 150 rfl dX11_back_147 rfl rfl fl_X11_22 (hP _ _ _ rfl) ?_
    refine R_iconst 151 rfl dX11_back_150 ?_
    refine R_iald 0 152 rfl dX11_back_151 rfl (by first | rfl | omega) (by decide) (by decide) ?_
    first | rw [r20, h20] | (refine R_top (b := L.1 0) (by simp only [setI]; rw [if_neg (by omega), r20, h20]) ?_)
    refine R_ishl 153 rfl dX11_back_152 (by omega) (by omega) ?_
    refine R_iconst 154 rfl dX11_back_153 ?_
    refine R_isub 155 rfl dX11_back_154 ?_
    refine R_top (b := ((allB L).toNat : Int)) (by have : 1 * 2 ^ (L.1 0).toNat - 1 = allB L := (by unfold allB npN; omega); omega) ?_
    refine R_iand 156 rfl dX11_back_155 ?_
    refine R_iast 640 157 rfl dX11_back_156 rfl (by first | rfl | omega) (by decide) (by decide) ?_
    refine R_iinc [_, _, _, _, _] 160 rfl dX11_back_157 rfl rfl (by decide) ?_
    refine R_goto 125 rfl dX11_back_160 ?_
    refine R_iload 127 rfl dX11_back_125 rfl ?_
    refine R_iconst 128 rfl dX11_back_127 ?_
    refine R_icmp_ge 131 163 rfl rfl dX11_back_128 (by first | assumption | exact ⟨by omega, by omega⟩) (by first | assumption | exact ⟨by omega, by omega⟩) (fun h128 => ?_) (fun h128 => ?_)
    · exact absurd h128 (by omega)
    refine R_aload_n 132 rfl dX11_back_131 rfl ?_
    refine R_getP 19 135 rfl dX11_back_132 rfl rfl fl_X11_40 (hP _ _ _ rfl) ?_
    refine R_sipush 138 rfl dX11_back_135 (by decide) ?_
    refine R_iconst 139 rfl dX11_back_138 ?_
    refine R_iload 141 rfl dX11_back_139 rfl ?_
    refine R_imul 142 rfl dX11_back_141 ?_
    refine R_iadd 143 rfl dX11_back_142 ?_
    refine R_dup2 144 rfl dX11_back_143 rfl rfl ?_
    refine R_iald 645 145 rfl dX11_back_144 rfl (by first | rfl | omega) (by decide) (by decide) ?_
    first | refine R_top (a := m2.1 107 640) (b := (((I k.toNat).2.2 0 0).toNat : Int)) (by omega) ?_ | refine R_top (b := (((I k.toNat).2.2 1 0).toNat : Int)) (by simp only [setI]; rw [if_neg (by omega)]; omega) ?_
    refine R_iconst 146 rfl dX11_back_145 ?_
    refine R_aload_n 147 rfl dX11_back_146 rfl ?_
    refine R_getP 12 150 rfl dX11_back_147 rfl rfl fl_X11_22 (hP _ _ _ rfl) ?_
    refine R_iconst 151 rfl dX11_back_150 ?_
    refine R_iald 0 152 rfl dX11_back_151 rfl (by first | rfl | omega) (by decide) (by decide) ?_
    first | rw [r20, h20] | (refine R_top (b := L.1 0) (by simp only [setI]; rw [if_neg (by omega), r20, h20]) ?_)
    refine R_ishl 153 rfl dX11_back_152 (by omega) (by omega) ?_
    refine R_iconst 154 rfl dX11_back_153 ?_
    refine R_isub 155 rfl dX11_back_154 ?_
    refine R_top (b := ((allB L).toNat : Int)) (by have : 1 * 2 ^ (L.1 0).toNat - 1 = allB L := (by unfold allB npN; omega); omega) ?_
    refine R_iand 156 rfl dX11_back_155 ?_
    refine R_iast 645 157 rfl dX11_back_156 rfl (by first | rfl | omega) (by decide) (by decide) ?_
    refine R_iinc [_, _, _, _, _] 160 rfl dX11_back_157 rfl rfl (by decide) ?_
    refine R_goto 125 rfl dX11_back_160 ?_
    refine R_iload 127 rfl dX11_back_125 rfl ?_
    refine R_iconst 128 rfl dX11_back_127 ?_
    refine R_icmp_ge 131 163 rfl rfl dX11_back_128 (by first | assumption | exact ⟨by omega, by omega⟩) (by first | assumption | exact ⟨by omega, by omega⟩) (fun h128 => ?_) (fun h128 => ?_)
    rotate_left
    · exact absurd h128 (by omega)
    refine R_aload_n 164 rfl dX11_back_163 rfl ?_
    refine R_iconst 165 rfl dX11_back_164 ?_
    refine R_putZ 20 168 rfl dX11_back_165 rfl rfl fl_X11_167 (by decide) ?_
    refine R_aload_n 169 rfl dX11_back_168 rfl ?_
    refine R_callV_i (M' := mX11_size) 172 rfl dX11_back_169 ml_X11_150 kmX11_size im_X11_size se_X11_size rfl ⟨by decide, rfl⟩ (c_X11_sizeP hP) rfl rfl ⟨Nat.le_of_ble_eq_true rfl, Nat.le_of_ble_eq_true rfl⟩ (Nat.le_of_ble_eq_true rfl) ⟨Nat.le_of_ble_eq_true rfl, Nat.le_of_ble_eq_true rfl⟩ ?_
    refine R_ireturn dX11_back_172 rfl ?_
    have hc : (0 ≤ k ∧ k ≤ 1) ∧ imBack L (I k.toNat) = true := ⟨ho, hbk⟩
    rw [if_pos hc, if_pos hc, if_pos ho, if_pos hbk]
    have fn := fin (setI (setI (setI m2 107 640 ((((I k.toNat).2.2 0 0).toNat &&& (allB L).toNat : Nat) : Int)) 107 645 ((((I k.toNat).2.2 1 0).toNat &&& (allB L).toNat : Nat) : Int)) 96 20 1) rfl (fun a j q => by simp only [setI]; rw [if_neg (by omega), if_neg (by omega), if_neg (by omega)]) (by simp [setI, chBk]) (by simp [setI, chBk]) (by simp [setI])
    exact QI_mk ⟨fn.2.1.2.2.2.1.1, fn⟩
  have L2 : 0 ≤ k ∧ k ≤ 1 → imBack L (I k.toNat) = true → ∀ i : Nat, i ≤ 660 → ∀ z m2 ca fr, z = (i : Int) → fr = 660 * (k + 1) → m2.2 = m.2 → (∀ a j, a ≠ 107 ∨ i ≤ j → m2.1 a j = m.1 a j) → (∀ j, j < i → m2.1 107 j = m.1 107 (660 * (k.toNat + 1) + j)) → R Γ mX11_back { frames := 2, cells := 0, slots := 0, locals := 80 } 0 0 (QR L (if (0 ≤ k ∧ k ≤ 1) ∧ imBack L (I k.toNat) = true then (I k.toNat).2.1 else B) (if (0 ≤ k ∧ k ≤ 1) ∧ imBack L (I k.toNat) = true then chBk L (I k.toNat).2.2 else ch) T F I S N m (if 0 ≤ k ∧ k ≤ 1 then (if imBack L (I k.toNat) = true then ((I k.toNat).2.1.1 : Int) else -2) else -1)) 0 0 92 [some (vr 96), some (vi k), some (vi ca), some (vi fr), some (vi z)] [] SH m2 := by
    intro ho hbk
    refine up_ind 660 (fun i hi ih z m2 ca fr hz hfr e2 h0 h1 => ?_)
    have hP : RP m2 := fun a k r q => by rw [e2]; exact hR.1 a k r q
    refine R_iload 94 rfl dX11_back_92 rfl ?_
    refine R_sipush 97 rfl dX11_back_94 (by decide) ?_
    refine R_icmp_ge 100 122 rfl rfl dX11_back_97 (by first | assumption | exact ⟨by omega, by omega⟩) (by first | assumption | exact ⟨by omega, by omega⟩) (fun h97 => ?_) (fun h97 => ?_)
    · refine R_iconst 123 rfl dX11_back_122 ?_
      refine R_istore [_, _, _, _, _] 125 rfl dX11_back_123 rfl (by decide) ?_
      have ei : i = 660 := by omega
      subst ei
      exact L3 ho hbk m2 e2 (fun a j q => h0 a j q) h1 _ _
    · refine R_aload_n 101 rfl dX11_back_100 rfl ?_
      refine R_getP 19 104 rfl dX11_back_101 rfl rfl fl_X11_40 (hP _ _ _ rfl) ?_
      refine R_iload 106 rfl dX11_back_104 rfl ?_
      refine R_aload_n 107 rfl dX11_back_106 rfl ?_
      refine R_getP 19 110 rfl dX11_back_107 rfl rfl fl_X11_40 (hP _ _ _ rfl) ?_
      refine R_iload_n 111 rfl dX11_back_110 rfl ?_
      refine R_iload 113 rfl dX11_back_111 rfl ?_
      refine R_iadd 114 rfl dX11_back_113 ?_
      refine R_iald (660 * (k.toNat + 1) + i) 115 rfl dX11_back_114 rfl (by first | rfl | omega) (by omega) (by decide) ?_
      refine R_iast i 116 rfl dX11_back_115 rfl (by first | rfl | omega) (by omega) (by decide) ?_
      refine R_iinc [_, _, _, _, _] 119 rfl dX11_back_116 rfl rfl (by decide) ?_
      refine R_goto 92 rfl dX11_back_119 ?_
      refine ih (by omega) _ _ _ _ (by omega) hfr e2 (fun a j q => ?_) (fun j hj => ?_)
      · simp only [setI]; rw [if_neg (by omega)]; exact h0 a j (by omega)
      · simp only [setI]
        by_cases e : j = i
        · subst e; rw [if_pos ⟨trivial, rfl⟩]; exact h0 107 _ (by omega)
        · rw [if_neg (by omega)]; exact h1 j (by omega)
  have L1 : 0 ≤ k ∧ k ≤ 1 → (I k.toNat).1 = true → ∀ j, j ≤ (I k.toNat).2.1.1 → ∀ z ca fr, z = (j : Int) → fr = 660 * (k + 1) → ((ca = 1 ∧ ∀ i, i < j → (I k.toNat).2.1.2.1 0 i < L.1 0) ∨ (ca = 0 ∧ ∃ i, i < (I k.toNat).2.1.1 ∧ ¬ (I k.toNat).2.1.2.1 0 i < L.1 0)) → R Γ mX11_back { frames := 2, cells := 0, slots := 0, locals := 80 } 0 0 (QR L (if (0 ≤ k ∧ k ≤ 1) ∧ imBack L (I k.toNat) = true then (I k.toNat).2.1 else B) (if (0 ≤ k ∧ k ≤ 1) ∧ imBack L (I k.toNat) = true then chBk L (I k.toNat).2.2 else ch) T F I S N m (if 0 ≤ k ∧ k ≤ 1 then (if imBack L (I k.toNat) = true then ((I k.toNat).2.1.1 : Int) else -2) else -1)) 0 0 30 [some (vr 96), some (vi k), some (vi ca), some (vi fr), some (vi z)] [] SH m := by
    intro ho hkp
    have hRI := hX.2.2.2.1 k.toNat (by omega)
    obtain ⟨ob, oc⟩ := hX.1.2.2.1 k.toNat (by omega) hkp
    have hb := ob.1
    obtain ⟨rb, rc⟩ := hRI.2.1 hkp
    refine up_ind (I k.toNat).2.1.1 (fun j hj ih z ca fr hz hfr hca => ?_)
    have c01 : ca = 0 ∨ ca = 1 := by rcases hca with q | q <;> omega
    refine R_iload 32 rfl dX11_back_30 rfl ?_
    refine R_aload_n 33 rfl dX11_back_32 rfl ?_
    refine R_getP 19 36 rfl dX11_back_33 rfl rfl fl_X11_40 (hP _ _ _ rfl) ?_
    refine R_iload_n 37 rfl dX11_back_36 rfl ?_
    refine R_sipush 40 rfl dX11_back_37 (by decide) ?_
    refine R_iadd 41 rfl dX11_back_40 ?_
    refine R_iald (660 * (k.toNat + 1) + 650) 42 rfl dX11_back_41 rfl (by first | rfl | omega) (by omega) (by decide) ?_
    rw [rb.1]
    refine R_icmp_ge 45 82 rfl rfl dX11_back_42 (by first | assumption | exact ⟨by omega, by omega⟩) (by first | assumption | exact ⟨by omega, by omega⟩) (fun h42 => ?_) (fun h42 => ?_)
    · refine R_iload_n 83 rfl dX11_back_82 rfl ?_
      refine R_if_ne 86 89 rfl rfl dX11_back_83 (by first | assumption | exact ⟨by omega, by omega⟩) (fun h83 => ?_) (fun h83 => ?_)
      · refine R_iconst 90 rfl dX11_back_89 ?_
        refine R_istore [_, _, _, _, _] 92 rfl dX11_back_90 rfl (by decide) ?_
        rcases hca with ⟨q1, q2⟩ | ⟨q1, -⟩
        · have hbk : imBack L (I k.toNat) = true := by
            unfold imBack
            rw [hkp, (allN_iff _ _).mpr (fun i hi => decide_eq_true (q2 i (by omega)))]
            rfl
          exact L2 ho hbk 0 (by omega) _ _ _ _ rfl hfr rfl (fun _ _ _ => rfl) (fun j hj => by omega)
        · omega
      · refine R_bipush 88 rfl dX11_back_86 (by decide) ?_
        refine R_ireturn dX11_back_88 rfl ?_
        rcases hca with ⟨q1, q2⟩ | ⟨q1, i, i1, i2⟩
        · omega
        · have hbk : ¬ imBack L (I k.toNat) = true := fun q => by
            unfold imBack at q
            simp only [Bool.and_eq_true] at q
            exact i2 (of_decide_eq_true ((allN_iff _ _).mp q.2 i i1))
          rw [if_neg (fun q => hbk q.2), if_neg (fun q => hbk q.2), if_pos ho, if_neg hbk]
          exact QI_mk ⟨rfl, Fl.rf, hR, hX⟩
    · refine R_iload_n 46 rfl dX11_back_45 rfl ?_
      refine R_if_eq 49 82 rfl rfl dX11_back_46 (by first | assumption | exact ⟨by omega, by omega⟩) (fun h46 => ?_) (fun h46 => ?_)
      · refine R_iload_n 83 rfl dX11_back_82 rfl ?_
        refine R_if_ne 86 89 rfl rfl dX11_back_83 (by first | assumption | exact ⟨by omega, by omega⟩) (fun h83 => ?_) (fun h83 => ?_)
        · refine R_iconst 90 rfl dX11_back_89 ?_
          refine R_istore [_, _, _, _, _] 92 rfl dX11_back_90 rfl (by decide) ?_
          rcases hca with ⟨q1, q2⟩ | ⟨q1, -⟩
          · have hbk : imBack L (I k.toNat) = true := by
              unfold imBack
              rw [hkp, (allN_iff _ _).mpr (fun i hi => decide_eq_true (q2 i (by omega)))]
              rfl
            exact L2 ho hbk 0 (by omega) _ _ _ _ rfl hfr rfl (fun _ _ _ => rfl) (fun j hj => by omega)
          · omega
        · refine R_bipush 88 rfl dX11_back_86 (by decide) ?_
          refine R_ireturn dX11_back_88 rfl ?_
          rcases hca with ⟨q1, q2⟩ | ⟨q1, i, i1, i2⟩
          · omega
          · have hbk : ¬ imBack L (I k.toNat) = true := fun q => by
              unfold imBack at q
              simp only [Bool.and_eq_true] at q
              exact i2 (of_decide_eq_true ((allN_iff _ _).mp q.2 i i1))
            rw [if_neg (fun q => hbk q.2), if_neg (fun q => hbk q.2), if_pos ho, if_neg hbk]
            exact QI_mk ⟨rfl, Fl.rf, hR, hX⟩
      · have pj := rb.2.1 j (by omega) 0 (by omega)
        have oj := ob.2.1 j (by omega)
        refine R_aload_n 50 rfl dX11_back_49 rfl ?_
        refine R_getP 19 53 rfl dX11_back_50 rfl rfl fl_X11_40 (hP _ _ _ rfl) ?_
        refine R_iload_n 54 rfl dX11_back_53 rfl ?_
        refine R_bipush 56 rfl dX11_back_54 (by decide) ?_
        refine R_iload 58 rfl dX11_back_56 rfl ?_
        refine R_imul 59 rfl dX11_back_58 ?_
        refine R_iadd 60 rfl dX11_back_59 ?_
        refine R_iald (660 * (k.toNat + 1) + 16 * j + 0) 61 rfl dX11_back_60 rfl (by first | rfl | omega) (by omega) (by decide) ?_
        rw [pj]
        refine R_aload_n 62 rfl dX11_back_61 rfl ?_
        refine R_getP 12 65 rfl dX11_back_62 rfl rfl fl_X11_22 (hP _ _ _ rfl) ?_
        refine R_iconst 66 rfl dX11_back_65 ?_
        refine R_iald 0 67 rfl dX11_back_66 rfl (by first | rfl | omega) (by decide) (by decide) ?_
        rw [h20]
        refine R_icmp_ge 70 74 rfl rfl dX11_back_67 (by first | assumption | exact ⟨by omega, by omega⟩) (by first | assumption | exact ⟨by omega, by omega⟩) (fun h67 => ?_) (fun h67 => ?_)
        · refine R_iconst 75 rfl dX11_back_74 ?_
          refine R_istore_n [_, _, _, _, _] 76 rfl dX11_back_75 rfl (by decide) ?_
          refine R_iinc [_, _, _, _, _] 79 rfl dX11_back_76 rfl rfl (by decide) ?_
          refine R_goto 30 rfl dX11_back_79 ?_
          first
            | exact ih (by omega) _ _ _ (by omega) hfr (Or.inl ⟨rfl, fun i hi => by
                by_cases e : i = j
                · subst e; omega
                · rcases hca with ⟨q1, q2⟩ | ⟨q1, -⟩
                  · exact q2 i (by omega)
                  · omega⟩)
            | exact ih (by omega) _ _ _ (by omega) hfr (Or.inr ⟨rfl, j, by omega, by omega⟩)
        · refine R_iconst 71 rfl dX11_back_70 ?_
          refine R_goto 75 rfl dX11_back_71 ?_
          refine R_istore_n [_, _, _, _, _] 76 rfl dX11_back_75 rfl (by decide) ?_
          refine R_iinc [_, _, _, _, _] 79 rfl dX11_back_76 rfl rfl (by decide) ?_
          refine R_goto 30 rfl dX11_back_79 ?_
          first
            | exact ih (by omega) _ _ _ (by omega) hfr (Or.inl ⟨rfl, fun i hi => by
                by_cases e : i = j
                · subst e; omega
                · rcases hca with ⟨q1, q2⟩ | ⟨q1, -⟩
                  · exact q2 i (by omega)
                  · omega⟩)
            | exact ih (by omega) _ _ _ (by omega) hfr (Or.inr ⟨rfl, j, by omega, by omega⟩)
  rcases Classical.em (0 ≤ k ∧ k ≤ 1) with ho | ho
  · have hRI := hX.2.2.2.1 k.toNat (by omega)
    have g9 := hRI.1
    have g3 := hRI.2.2
    rcases Classical.em ((I k.toNat).1 = true) with hkp | hkp
    · rw [pI_t hkp] at g9
      refine R_iload_n 1 rfl dX11_back_0 rfl ?_
      refine R_i2l 2 rfl dX11_back_1 (by first | assumption | exact ⟨by omega, by omega⟩) ?_
      refine R_lconst 3 rfl dX11_back_2 ?_
      refine R_topL (b := 0) rfl ?_
      refine R_lconst 4 rfl dX11_back_3 ?_
      refine R_topL (b := 1) rfl ?_
      refine R_callS_i (M' := mX11_in) 7 rfl dX11_back_4 ml_X11_63 kmX11_in st_X11_in (c_X11_in _ _ _ (by first | assumption | exact ⟨by omega, by omega⟩ | exact rg_L (by assumption)) (by first | assumption | exact ⟨by omega, by omega⟩ | exact rg_L (by assumption)) (by first | assumption | exact ⟨by omega, by omega⟩ | exact rg_L (by assumption))) rfl rfl ⟨Nat.le_of_ble_eq_true rfl, Nat.le_of_ble_eq_true rfl⟩ (Nat.le_of_ble_eq_true rfl) ⟨Nat.le_of_ble_eq_true rfl, Nat.le_of_ble_eq_true rfl⟩ ?_
      refine R_ifp_ne 10 12 rfl rfl dX11_back_7 (fun h7 => ?_) (fun h7 => ?_)
      · refine R_aload_n 13 rfl dX11_back_12 rfl ?_
        refine R_getP 30 16 rfl dX11_back_13 rfl rfl fl_X11_46 (hP _ _ _ rfl) ?_
        refine R_iload_n 17 rfl dX11_back_16 rfl ?_
        refine R_zald k.toNat 18 rfl dX11_back_17 rfl (by first | rfl | omega) (by omega) (by decide) ?_
        rw [g9]
        refine R_istore_n [_, _, _, _, _] 19 rfl dX11_back_18 rfl (by decide) ?_
        refine R_sipush 22 rfl dX11_back_19 (by decide) ?_
        refine R_iload_n 23 rfl dX11_back_22 rfl ?_
        refine R_iconst 24 rfl dX11_back_23 ?_
        refine R_iadd 25 rfl dX11_back_24 ?_
        refine R_imul 26 rfl dX11_back_25 ?_
        refine R_istore_n [_, _, _, _, _] 27 rfl dX11_back_26 rfl (by decide) ?_
        refine R_iconst 28 rfl dX11_back_27 ?_
        refine R_istore [_, _, _, _, _] 30 rfl dX11_back_28 rfl (by decide) ?_
        exact L1 ho hkp 0 (by omega) _ _ _ rfl (by omega) (Or.inl ⟨rfl, fun i hi => by omega⟩)
      · refine R_iconst 11 rfl dX11_back_10 ?_
        refine R_ireturn dX11_back_11 rfl ?_
        exfalso; omega
    · rw [pI_f hkp] at g9
      have hbk : ¬ imBack L (I k.toNat) = true := fun q => by
        unfold imBack at q
        simp only [Bool.and_eq_true] at q
        exact hkp q.1
      refine R_iload_n 1 rfl dX11_back_0 rfl ?_
      refine R_i2l 2 rfl dX11_back_1 (by first | assumption | exact ⟨by omega, by omega⟩) ?_
      refine R_lconst 3 rfl dX11_back_2 ?_
      refine R_topL (b := 0) rfl ?_
      refine R_lconst 4 rfl dX11_back_3 ?_
      refine R_topL (b := 1) rfl ?_
      refine R_callS_i (M' := mX11_in) 7 rfl dX11_back_4 ml_X11_63 kmX11_in st_X11_in (c_X11_in _ _ _ (by first | assumption | exact ⟨by omega, by omega⟩ | exact rg_L (by assumption)) (by first | assumption | exact ⟨by omega, by omega⟩ | exact rg_L (by assumption)) (by first | assumption | exact ⟨by omega, by omega⟩ | exact rg_L (by assumption))) rfl rfl ⟨Nat.le_of_ble_eq_true rfl, Nat.le_of_ble_eq_true rfl⟩ (Nat.le_of_ble_eq_true rfl) ⟨Nat.le_of_ble_eq_true rfl, Nat.le_of_ble_eq_true rfl⟩ ?_
      refine R_ifp_ne 10 12 rfl rfl dX11_back_7 (fun h7 => ?_) (fun h7 => ?_)
      · refine R_aload_n 13 rfl dX11_back_12 rfl ?_
        refine R_getP 30 16 rfl dX11_back_13 rfl rfl fl_X11_46 (hP _ _ _ rfl) ?_
        refine R_iload_n 17 rfl dX11_back_16 rfl ?_
        refine R_zald k.toNat 18 rfl dX11_back_17 rfl (by first | rfl | omega) (by omega) (by decide) ?_
        rw [g9]
        refine R_istore_n [_, _, _, _, _] 19 rfl dX11_back_18 rfl (by decide) ?_
        refine R_sipush 22 rfl dX11_back_19 (by decide) ?_
        refine R_iload_n 23 rfl dX11_back_22 rfl ?_
        refine R_iconst 24 rfl dX11_back_23 ?_
        refine R_iadd 25 rfl dX11_back_24 ?_
        refine R_imul 26 rfl dX11_back_25 ?_
        refine R_istore_n [_, _, _, _, _] 27 rfl dX11_back_26 rfl (by decide) ?_
        refine R_iconst 28 rfl dX11_back_27 ?_
        refine R_istore [_, _, _, _, _] 30 rfl dX11_back_28 rfl (by decide) ?_
        refine R_iload 32 rfl dX11_back_30 rfl ?_
        refine R_aload_n 33 rfl dX11_back_32 rfl ?_
        refine R_getP 19 36 rfl dX11_back_33 rfl rfl fl_X11_40 (hP _ _ _ rfl) ?_
        refine R_iload_n 37 rfl dX11_back_36 rfl ?_
        refine R_sipush 40 rfl dX11_back_37 (by decide) ?_
        refine R_iadd 41 rfl dX11_back_40 ?_
        refine R_iald (660 * (k.toNat + 1) + 650) 42 rfl dX11_back_41 rfl (by first | rfl | omega) (by omega) (by decide) ?_
        refine R_icmp_ge 45 82 rfl rfl dX11_back_42 (by first | assumption | exact ⟨by omega, by omega⟩) (by first | assumption | exact ⟨by omega, by omega⟩) (fun h42 => ?_) (fun h42 => ?_)
        · refine R_iload_n 83 rfl dX11_back_82 rfl ?_
          refine R_if_ne 86 89 rfl rfl dX11_back_83 (by first | assumption | exact ⟨by omega, by omega⟩) (fun h83 => ?_) (fun h83 => ?_)
          · exact absurd h83 (by omega)
          refine R_bipush 88 rfl dX11_back_86 (by decide) ?_
          refine R_ireturn dX11_back_88 rfl ?_
          rw [if_neg (fun q => hbk q.2), if_neg (fun q => hbk q.2), if_pos ho, if_neg hbk]
          exact QI_mk ⟨rfl, Fl.rf, hR, hX⟩
        · refine R_iload_n 46 rfl dX11_back_45 rfl ?_
          refine R_if_eq 49 82 rfl rfl dX11_back_46 (by first | assumption | exact ⟨by omega, by omega⟩) (fun h46 => ?_) (fun h46 => ?_)
          rotate_left
          · exact absurd h46 (by omega)
          refine R_iload_n 83 rfl dX11_back_82 rfl ?_
          refine R_if_ne 86 89 rfl rfl dX11_back_83 (by first | assumption | exact ⟨by omega, by omega⟩) (fun h83 => ?_) (fun h83 => ?_)
          · exact absurd h83 (by omega)
          refine R_bipush 88 rfl dX11_back_86 (by decide) ?_
          refine R_ireturn dX11_back_88 rfl ?_
          rw [if_neg (fun q => hbk q.2), if_neg (fun q => hbk q.2), if_pos ho, if_neg hbk]
          exact QI_mk ⟨rfl, Fl.rf, hR, hX⟩
      · refine R_iconst 11 rfl dX11_back_10 ?_
        refine R_ireturn dX11_back_11 rfl ?_
        exfalso; omega
  · skip
    refine R_iload_n 1 rfl dX11_back_0 rfl ?_
    refine R_i2l 2 rfl dX11_back_1 (by first | assumption | exact ⟨by omega, by omega⟩) ?_
    refine R_lconst 3 rfl dX11_back_2 ?_
    refine R_topL (b := 0) rfl ?_
    refine R_lconst 4 rfl dX11_back_3 ?_
    refine R_topL (b := 1) rfl ?_
    refine R_callS_i (M' := mX11_in) 7 rfl dX11_back_4 ml_X11_63 kmX11_in st_X11_in (c_X11_in _ _ _ (by first | assumption | exact ⟨by omega, by omega⟩ | exact rg_L (by assumption)) (by first | assumption | exact ⟨by omega, by omega⟩ | exact rg_L (by assumption)) (by first | assumption | exact ⟨by omega, by omega⟩ | exact rg_L (by assumption))) rfl rfl ⟨Nat.le_of_ble_eq_true rfl, Nat.le_of_ble_eq_true rfl⟩ (Nat.le_of_ble_eq_true rfl) ⟨Nat.le_of_ble_eq_true rfl, Nat.le_of_ble_eq_true rfl⟩ ?_
    refine R_ifp_ne 10 12 rfl rfl dX11_back_7 (fun h7 => ?_) (fun h7 => ?_)
    · exfalso; omega
    · refine R_iconst 11 rfl dX11_back_10 ?_
      refine R_ireturn dX11_back_11 rfl ?_
      rw [if_neg (fun q => ho q.1), if_neg (fun q => ho q.1), if_neg ho]
      exact QI_mk ⟨rfl, Fl.rf, hR, hX⟩
end
