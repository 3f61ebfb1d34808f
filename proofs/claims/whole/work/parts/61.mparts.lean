theorem ty_N (B : Bk) (ch : Cs) (c : Nat) (g : Int) : (cnt (tyP B ch c (-4) g) (2 * B.1) : Int) = tgN B ch c := by
  unfold tgN
  rw [cnt_congr (q := inC B ch c) (fun k _ => by simp [tyP])]
theorem pt_zero {L : Ld} {B : Bk} {ch : Cs} {gr w : Int} {g : Nat} (h0 : tgM B ch 0 gr g = 0) (h1 : tgM B ch 1 gr g = 0) : ptA L B ch gr w g = 0 ∧ ptB L B ch gr w g = 0 := by
  have e : pV B ch gr g = 0 := by unfold pV pDn pD0 oE; rw [h0, h1]; simp
  unfold ptA ptB
  rw [e]
  simp
theorem ptN_beyond {L : Ld} {B : Bk} {ch : Cs} {gr w : Int} {a : Nat} (h : ∀ c g, a ≤ g → tgM B ch c gr g = 0) : ∀ b, ptN L B ch gr w (a + b) = ptN L B ch gr w a
  | 0 => rfl
  | b + 1 => by
    have z := pt_zero (L := L) (w := w) (h 0 (a + b) (by omega)) (h 1 (a + b) (by omega))
    have e : ptN L B ch gr w (a + (b + 1)) = ptN L B ch gr w (a + b) + (ptA L B ch gr w (a + b) + ptB L B ch gr w (a + b)) := rfl
    rw [e, z.1, z.2, ptN_beyond h b]
    omega
theorem pV_pos {B : Bk} {ch : Cs} {gr : Int} {g : Nat} (hg : g < 15) (h0 : tgN B ch 0 ≠ 0) (h1 : tgN B ch 1 ≠ 0) (hm : 0 ≤ tgM B ch 0 gr g ∧ 0 ≤ tgM B ch 1 gr g) (hs : 0 < tgM B ch 0 gr g + tgM B ch 1 gr g) (hn : 0 ≤ tgN B ch 0 ∧ 0 ≤ tgN B ch 1) : 0 < pV B ch gr g ∧ pV B ch gr g ∣ ptD B ch gr := by
  rcases pV_dv (B := B) (ch := ch) (gr := gr) hg h0 h1 with q | q
  · exfalso
    have d0 : 0 < pD0 (tgM B ch 0 gr) (tgM B ch 1 gr) g := by unfold pD0 oE; split <;> omega
    have d1 : 0 < pD0 (tgM B ch 1 gr) (tgM B ch 0 gr) g := by unfold pD0 oE; split <;> omega
    have p : 0 < 2 * tgN B ch 0 * tgN B ch 1 * pD0 (tgM B ch 0 gr) (tgM B ch 1 gr) g * pD0 (tgM B ch 1 gr) (tgM B ch 0 gr) g := Int.mul_pos (Int.mul_pos (Int.mul_pos (by omega) (by omega)) d0) d1
    have e : pV B ch gr g = 2 * tgN B ch 0 * tgN B ch 1 * pD0 (tgM B ch 0 gr) (tgM B ch 1 gr) g * pD0 (tgM B ch 1 gr) (tgM B ch 0 gr) g := rfl
    omega
  · exact q
section
variable {Γ : GX} {m m' : Mem} {B B' : Bk} {L : Ld} {ch ch' : Cs}
theorem c_X11_tallyK (cz gr g : Int) (c : Nat) (hZ : RZ L B ch m) (hc : cz = (c : Int)) (hc2 : c < 2) (hg : gr = -4 ∨ 0 ≤ gr ∧ gr ≤ 3) (hg2 : rg g) : C Γ mX11_tally 2 80 0 0 [vr 96, vi cz, vi gr, vi g] SH m (QV SH (fun m' => Fm m m' ∧ RZ L B ch m' ∧ m'.1 96 22 = (cnt (tyP B ch c gr g) (2 * B.1) : Int) ∧ m'.1 96 23 = (cnt (tyQ L B ch c gr g) (2 * B.1) : Int) ∧ ∀ k, k ≠ 22 → k ≠ 23 → m'.1 96 k = m.1 96 k)) := by
  refine C_of_R rfl (Nat.le_of_ble_eq_true rfl) ?_
  have h3 := hZ.1.2.2.2.2.1.1
  have hl := hZ.1.2.2.1.1
  have Lp : ∀ j : Nat, j ≤ 2 * B.1 → ∀ jz m1, jz = (j : Int) → Fm m m1 → RZ L B ch m1 → m1.1 96 22 = (cnt (tyP B ch c gr g) j : Int) → m1.1 96 23 = (cnt (tyQ L B ch c gr g) j : Int) → (∀ k, k ≠ 22 → k ≠ 23 → m1.1 96 k = m.1 96 k) → R Γ mX11_tally { frames := 2, cells := 0, slots := 0, locals := 80 } 0 0 (QV SH (fun m' => Fm m m' ∧ RZ L B ch m' ∧ m'.1 96 22 = (cnt (tyP B ch c gr g) (2 * B.1) : Int) ∧ m'.1 96 23 = (cnt (tyQ L B ch c gr g) (2 * B.1) : Int) ∧ ∀ k, k ≠ 22 → k ≠ 23 → m'.1 96 k = m.1 96 k)) 0 0 13 [some (vr 96), some (vi cz), some (vi gr), some (vi g), some (vi jz)] [] SH m1 := by
    refine up_ind (2 * B.1) (fun j hj ih jz m1 hjz hf hZ1 h22 h23 h9 => ?_)
    have hP := hZ1.1.1
    have hW := hZ1.w
    refine R_iload 15 rfl dX11_tally_13 rfl ?_
    refine R_iconst 16 rfl dX11_tally_15 ?_
    refine R_aload_n 17 rfl dX11_tally_16 rfl ?_
    refine R_callV_i (M' := mX11_size) 20 rfl dX11_tally_17 ml_X11_150 kmX11_size im_X11_size se_X11_size rfl ⟨by decide, rfl⟩ (c_X11_size hZ1.1) rfl rfl ⟨Nat.le_of_ble_eq_true rfl, Nat.le_of_ble_eq_true rfl⟩ (Nat.le_of_ble_eq_true rfl) ⟨Nat.le_of_ble_eq_true rfl, Nat.le_of_ble_eq_true rfl⟩ ?_
    refine R_imul 21 rfl dX11_tally_20 ?_
    refine R_icmp_ge 24 90 rfl rfl dX11_tally_21 (by first | assumption | exact ⟨by omega, by omega⟩) (by first | assumption | exact ⟨by omega, by omega⟩) (fun h21 => ?_) (fun h21 => ?_)
    · refine R_return dX11_tally_90 rfl ?_
      have ej : j = 2 * B.1 := by omega
      subst ej
      exact QV_mk ⟨hf, hZ1, h22, h23, h9⟩
    · have gg := grp_rg2 (g := gr) hZ1.1.2.2.2.2.1 (k := j) (by omega)
      have e1 := tyP_iff (B := B) (ch := ch) (c := c) (k := j) (gr := gr) (g := g)
      have e2 := tyQ_iff (L := L) (B := B) (ch := ch) (c := c) (k := j) (gr := gr) (g := g)
      refine R_aload_n 25 rfl dX11_tally_24 rfl ?_
      refine R_iload_n 26 rfl dX11_tally_25 rfl ?_
      refine R_iload 28 rfl dX11_tally_26 rfl ?_
      refine R_callV_i (M' := mX11_isIn) 31 rfl dX11_tally_28 ml_X11_240 kmX11_isIn im_X11_isIn se_X11_isIn rfl ⟨by decide, rfl⟩ (c_X11_isIn _ _ c j hW (by omega) (by omega) (by omega) (by omega)) rfl rfl ⟨Nat.le_of_ble_eq_true rfl, Nat.le_of_ble_eq_true rfl⟩ (Nat.le_of_ble_eq_true rfl) ⟨Nat.le_of_ble_eq_true rfl, Nat.le_of_ble_eq_true rfl⟩ ?_
      refine R_ifp_eq 34 84 rfl rfl dX11_tally_31 (fun h31 => ?_) (fun h31 => ?_)
      · refine R_iinc [_, _, _, _, _] 87 rfl dX11_tally_84 rfl rfl (by decide) ?_
        refine R_goto 13 rfl dX11_tally_87 ?_
        first
          | (have p1 : tyP B ch c gr g j = true := e1.mpr ⟨h31, by omega⟩
             have c1 := cnt_y (p := tyP B ch c gr g) (n := j) p1
             first
               | (have q1 : tyQ L B ch c gr g j = true := e2.mpr ⟨p1, h72⟩
                  have c2 := cnt_y (p := tyQ L B ch c gr g) (n := j) q1
                  exact ih (by omega) _ _ (by omega) ((hf.f96 (by omega)).f96 (by omega)) ((hZ1.f96 (by omega)).f96 (by omega)) (by simp [setI]; omega) (by simp [setI]; omega) (fun i q1 q2 => by simp only [setI]; rw [if_neg (by omega), if_neg (by omega)]; exact h9 i q1 q2))
               | (have q1 : ¬ tyQ L B ch c gr g j = true := fun q => h72 (e2.mp q).2
                  have c2 := cnt_n (p := tyQ L B ch c gr g) (n := j) q1
                  exact ih (by omega) _ _ (by omega) ((hf.f96 (by omega)).f96 (by omega)) ((hZ1.f96 (by omega)).f96 (by omega)) (by simp [setI]; omega) (by simp [setI]; omega) (fun i q1 q2 => by simp only [setI]; rw [if_neg (by omega), if_neg (by omega)]; exact h9 i q1 q2)))
          | (have p1 : ¬ tyP B ch c gr g j = true := fun q => by have q2 := e1.mp q; first | exact h31 q2.1 | (have q3 := q2.2; omega)
             have c1 := cnt_n (p := tyP B ch c gr g) (n := j) p1
             have c2 := cnt_n (p := tyQ L B ch c gr g) (n := j) (fun q => p1 (e2.mp q).1)
             exact ih (by omega) _ _ (by omega) hf hZ1 (by omega) (by omega) h9)
      · refine R_iload_n 35 rfl dX11_tally_34 rfl ?_
        refine R_bipush 37 rfl dX11_tally_35 (by decide) ?_
        refine R_icmp_eq 40 51 rfl rfl dX11_tally_37 (by first | assumption | exact ⟨by omega, by omega⟩) (by first | assumption | exact ⟨by omega, by omega⟩) (fun h37 => ?_) (fun h37 => ?_)
        · refine R_aload_n 52 rfl dX11_tally_51 rfl ?_
          refine R_dup 53 rfl dX11_tally_52 rfl ?_
          refine R_getI 22 56 rfl dX11_tally_53 rfl rfl fl_X11_234 ?_
          refine R_iconst 57 rfl dX11_tally_56 ?_
          refine R_iadd 58 rfl dX11_tally_57 ?_
          refine R_putI 22 61 rfl dX11_tally_58 rfl rfl fl_X11_234 ?_
          refine R_aload_n 62 rfl dX11_tally_61 rfl ?_
          refine R_dup 63 rfl dX11_tally_62 rfl ?_
          refine R_getI 23 66 rfl dX11_tally_63 rfl rfl fl_X11_237 ?_
          refine R_aload_n 67 rfl dX11_tally_66 rfl ?_
          refine R_iload 69 rfl dX11_tally_67 rfl ?_
          refine R_callV_i (M' := mX11_isAble) 72 rfl dX11_tally_69 ml_X11_246 kmX11_isAble im_X11_isAble se_X11_isAble rfl ⟨by decide, rfl⟩ (c_X11_isAble _ j (hZ1.f96 (by omega)) (by omega) (by omega)) rfl rfl ⟨Nat.le_of_ble_eq_true rfl, Nat.le_of_ble_eq_true rfl⟩ (Nat.le_of_ble_eq_true rfl) ⟨Nat.le_of_ble_eq_true rfl, Nat.le_of_ble_eq_true rfl⟩ ?_
          refine R_ifp_eq 75 79 rfl rfl dX11_tally_72 (fun h72 => ?_) (fun h72 => ?_)
          · refine R_iconst 80 rfl dX11_tally_79 ?_
            refine R_iadd 81 rfl dX11_tally_80 ?_
            refine R_putI 23 84 rfl dX11_tally_81 rfl rfl fl_X11_237 ?_
            refine R_iinc [_, _, _, _, _] 87 rfl dX11_tally_84 rfl rfl (by decide) ?_
            refine R_goto 13 rfl dX11_tally_87 ?_
            first
              | (have p1 : tyP B ch c gr g j = true := e1.mpr ⟨h31, by omega⟩
                 have c1 := cnt_y (p := tyP B ch c gr g) (n := j) p1
                 first
                   | (have q1 : tyQ L B ch c gr g j = true := e2.mpr ⟨p1, h72⟩
                      have c2 := cnt_y (p := tyQ L B ch c gr g) (n := j) q1
                      exact ih (by omega) _ _ (by omega) ((hf.f96 (by omega)).f96 (by omega)) ((hZ1.f96 (by omega)).f96 (by omega)) (by simp [setI]; omega) (by simp [setI]; omega) (fun i q1 q2 => by simp only [setI]; rw [if_neg (by omega), if_neg (by omega)]; exact h9 i q1 q2))
                   | (have q1 : ¬ tyQ L B ch c gr g j = true := fun q => h72 (e2.mp q).2
                      have c2 := cnt_n (p := tyQ L B ch c gr g) (n := j) q1
                      exact ih (by omega) _ _ (by omega) ((hf.f96 (by omega)).f96 (by omega)) ((hZ1.f96 (by omega)).f96 (by omega)) (by simp [setI]; omega) (by simp [setI]; omega) (fun i q1 q2 => by simp only [setI]; rw [if_neg (by omega), if_neg (by omega)]; exact h9 i q1 q2)))
              | (have p1 : ¬ tyP B ch c gr g j = true := fun q => by have q2 := e1.mp q; first | exact h31 q2.1 | (have q3 := q2.2; omega)
                 have c1 := cnt_n (p := tyP B ch c gr g) (n := j) p1
                 have c2 := cnt_n (p := tyQ L B ch c gr g) (n := j) (fun q => p1 (e2.mp q).1)
                 exact ih (by omega) _ _ (by omega) hf hZ1 (by omega) (by omega) h9)
          · refine R_iconst 76 rfl dX11_tally_75 ?_
            refine R_goto 80 rfl dX11_tally_76 ?_
            refine R_iadd 81 rfl dX11_tally_80 ?_
            refine R_putI 23 84 rfl dX11_tally_81 rfl rfl fl_X11_237 ?_
            refine R_iinc [_, _, _, _, _] 87 rfl dX11_tally_84 rfl rfl (by decide) ?_
            refine R_goto 13 rfl dX11_tally_87 ?_
            first
              | (have p1 : tyP B ch c gr g j = true := e1.mpr ⟨h31, by omega⟩
                 have c1 := cnt_y (p := tyP B ch c gr g) (n := j) p1
                 first
                   | (have q1 : tyQ L B ch c gr g j = true := e2.mpr ⟨p1, h72⟩
                      have c2 := cnt_y (p := tyQ L B ch c gr g) (n := j) q1
                      exact ih (by omega) _ _ (by omega) ((hf.f96 (by omega)).f96 (by omega)) ((hZ1.f96 (by omega)).f96 (by omega)) (by simp [setI]; omega) (by simp [setI]; omega) (fun i q1 q2 => by simp only [setI]; rw [if_neg (by omega), if_neg (by omega)]; exact h9 i q1 q2))
                   | (have q1 : ¬ tyQ L B ch c gr g j = true := fun q => h72 (e2.mp q).2
                      have c2 := cnt_n (p := tyQ L B ch c gr g) (n := j) q1
                      exact ih (by omega) _ _ (by omega) ((hf.f96 (by omega)).f96 (by omega)) ((hZ1.f96 (by omega)).f96 (by omega)) (by simp [setI]; omega) (by simp [setI]; omega) (fun i q1 q2 => by simp only [setI]; rw [if_neg (by omega), if_neg (by omega)]; exact h9 i q1 q2)))
              | (have p1 : ¬ tyP B ch c gr g j = true := fun q => by have q2 := e1.mp q; first | exact h31 q2.1 | (have q3 := q2.2; omega)
                 have c1 := cnt_n (p := tyP B ch c gr g) (n := j) p1
                 have c2 := cnt_n (p := tyQ L B ch c gr g) (n := j) (fun q => p1 (e2.mp q).1)
                 exact ih (by omega) _ _ (by omega) hf hZ1 (by omega) (by omega) h9)
        · refine R_aload_n 41 rfl dX11_tally_40 rfl ?_
          refine R_iload 43 rfl dX11_tally_41 rfl ?_
          refine R_iload_n 44 rfl dX11_tally_43 rfl ?_
          refine R_callV_i (M' := mX11_groupOf) 47 rfl dX11_tally_44 ml_X11_243 kmX11_groupOf im_X11_groupOf se_X11_groupOf rfl ⟨by decide, rfl⟩ (c_X11_groupOf _ _ j hZ1.1 (by omega) (by omega) (by omega)) rfl rfl ⟨Nat.le_of_ble_eq_true rfl, Nat.le_of_ble_eq_true rfl⟩ (Nat.le_of_ble_eq_true rfl) ⟨Nat.le_of_ble_eq_true rfl, Nat.le_of_ble_eq_true rfl⟩ ?_
          refine R_iload_n 48 rfl dX11_tally_47 rfl ?_
          refine R_icmp_ne 51 84 rfl rfl dX11_tally_48 (by first | assumption | exact ⟨by omega, by omega⟩) (by first | assumption | exact ⟨by omega, by omega⟩) (fun h48 => ?_) (fun h48 => ?_)
          · refine R_iinc [_, _, _, _, _] 87 rfl dX11_tally_84 rfl rfl (by decide) ?_
            refine R_goto 13 rfl dX11_tally_87 ?_
            first
              | (have p1 : tyP B ch c gr g j = true := e1.mpr ⟨h31, by omega⟩
                 have c1 := cnt_y (p := tyP B ch c gr g) (n := j) p1
                 first
                   | (have q1 : tyQ L B ch c gr g j = true := e2.mpr ⟨p1, h72⟩
                      have c2 := cnt_y (p := tyQ L B ch c gr g) (n := j) q1
                      exact ih (by omega) _ _ (by omega) ((hf.f96 (by omega)).f96 (by omega)) ((hZ1.f96 (by omega)).f96 (by omega)) (by simp [setI]; omega) (by simp [setI]; omega) (fun i q1 q2 => by simp only [setI]; rw [if_neg (by omega), if_neg (by omega)]; exact h9 i q1 q2))
                   | (have q1 : ¬ tyQ L B ch c gr g j = true := fun q => h72 (e2.mp q).2
                      have c2 := cnt_n (p := tyQ L B ch c gr g) (n := j) q1
                      exact ih (by omega) _ _ (by omega) ((hf.f96 (by omega)).f96 (by omega)) ((hZ1.f96 (by omega)).f96 (by omega)) (by simp [setI]; omega) (by simp [setI]; omega) (fun i q1 q2 => by simp only [setI]; rw [if_neg (by omega), if_neg (by omega)]; exact h9 i q1 q2)))
              | (have p1 : ¬ tyP B ch c gr g j = true := fun q => by have q2 := e1.mp q; first | exact h31 q2.1 | (have q3 := q2.2; omega)
                 have c1 := cnt_n (p := tyP B ch c gr g) (n := j) p1
                 have c2 := cnt_n (p := tyQ L B ch c gr g) (n := j) (fun q => p1 (e2.mp q).1)
                 exact ih (by omega) _ _ (by omega) hf hZ1 (by omega) (by omega) h9)
          · refine R_aload_n 52 rfl dX11_tally_51 rfl ?_
            refine R_dup 53 rfl dX11_tally_52 rfl ?_
            refine R_getI 22 56 rfl dX11_tally_53 rfl rfl fl_X11_234 ?_
            refine R_iconst 57 rfl dX11_tally_56 ?_
            refine R_iadd 58 rfl dX11_tally_57 ?_
            refine R_putI 22 61 rfl dX11_tally_58 rfl rfl fl_X11_234 ?_
            refine R_aload_n 62 rfl dX11_tally_61 rfl ?_
            refine R_dup 63 rfl dX11_tally_62 rfl ?_
            refine R_getI 23 66 rfl dX11_tally_63 rfl rfl fl_X11_237 ?_
            refine R_aload_n 67 rfl dX11_tally_66 rfl ?_
            refine R_iload 69 rfl dX11_tally_67 rfl ?_
            refine R_callV_i (M' := mX11_isAble) 72 rfl dX11_tally_69 ml_X11_246 kmX11_isAble im_X11_isAble se_X11_isAble rfl ⟨by decide, rfl⟩ (c_X11_isAble _ j (hZ1.f96 (by omega)) (by omega) (by omega)) rfl rfl ⟨Nat.le_of_ble_eq_true rfl, Nat.le_of_ble_eq_true rfl⟩ (Nat.le_of_ble_eq_true rfl) ⟨Nat.le_of_ble_eq_true rfl, Nat.le_of_ble_eq_true rfl⟩ ?_
            refine R_ifp_eq 75 79 rfl rfl dX11_tally_72 (fun h72 => ?_) (fun h72 => ?_)
            · refine R_iconst 80 rfl dX11_tally_79 ?_
              refine R_iadd 81 rfl dX11_tally_80 ?_
              refine R_putI 23 84 rfl dX11_tally_81 rfl rfl fl_X11_237 ?_
              refine R_iinc [_, _, _, _, _] 87 rfl dX11_tally_84 rfl rfl (by decide) ?_
              refine R_goto 13 rfl dX11_tally_87 ?_
              first
                | (have p1 : tyP B ch c gr g j = true := e1.mpr ⟨h31, by omega⟩
                   have c1 := cnt_y (p := tyP B ch c gr g) (n := j) p1
                   first
                     | (have q1 : tyQ L B ch c gr g j = true := e2.mpr ⟨p1, h72⟩
                        have c2 := cnt_y (p := tyQ L B ch c gr g) (n := j) q1
                        exact ih (by omega) _ _ (by omega) ((hf.f96 (by omega)).f96 (by omega)) ((hZ1.f96 (by omega)).f96 (by omega)) (by simp [setI]; omega) (by simp [setI]; omega) (fun i q1 q2 => by simp only [setI]; rw [if_neg (by omega), if_neg (by omega)]; exact h9 i q1 q2))
                     | (have q1 : ¬ tyQ L B ch c gr g j = true := fun q => h72 (e2.mp q).2
                        have c2 := cnt_n (p := tyQ L B ch c gr g) (n := j) q1
                        exact ih (by omega) _ _ (by omega) ((hf.f96 (by omega)).f96 (by omega)) ((hZ1.f96 (by omega)).f96 (by omega)) (by simp [setI]; omega) (by simp [setI]; omega) (fun i q1 q2 => by simp only [setI]; rw [if_neg (by omega), if_neg (by omega)]; exact h9 i q1 q2)))
                | (have p1 : ¬ tyP B ch c gr g j = true := fun q => by have q2 := e1.mp q; first | exact h31 q2.1 | (have q3 := q2.2; omega)
                   have c1 := cnt_n (p := tyP B ch c gr g) (n := j) p1
                   have c2 := cnt_n (p := tyQ L B ch c gr g) (n := j) (fun q => p1 (e2.mp q).1)
                   exact ih (by omega) _ _ (by omega) hf hZ1 (by omega) (by omega) h9)
            · refine R_iconst 76 rfl dX11_tally_75 ?_
              refine R_goto 80 rfl dX11_tally_76 ?_
              refine R_iadd 81 rfl dX11_tally_80 ?_
              refine R_putI 23 84 rfl dX11_tally_81 rfl rfl fl_X11_237 ?_
              refine R_iinc [_, _, _, _, _] 87 rfl dX11_tally_84 rfl rfl (by decide) ?_
              refine R_goto 13 rfl dX11_tally_87 ?_
              first
                | (have p1 : tyP B ch c gr g j = true := e1.mpr ⟨h31, by omega⟩
                   have c1 := cnt_y (p := tyP B ch c gr g) (n := j) p1
                   first
                     | (have q1 : tyQ L B ch c gr g j = true := e2.mpr ⟨p1, h72⟩
                        have c2 := cnt_y (p := tyQ L B ch c gr g) (n := j) q1
                        exact ih (by omega) _ _ (by omega) ((hf.f96 (by omega)).f96 (by omega)) ((hZ1.f96 (by omega)).f96 (by omega)) (by simp [setI]; omega) (by simp [setI]; omega) (fun i q1 q2 => by simp only [setI]; rw [if_neg (by omega), if_neg (by omega)]; exact h9 i q1 q2))
                     | (have q1 : ¬ tyQ L B ch c gr g j = true := fun q => h72 (e2.mp q).2
                        have c2 := cnt_n (p := tyQ L B ch c gr g) (n := j) q1
                        exact ih (by omega) _ _ (by omega) ((hf.f96 (by omega)).f96 (by omega)) ((hZ1.f96 (by omega)).f96 (by omega)) (by simp [setI]; omega) (by simp [setI]; omega) (fun i q1 q2 => by simp only [setI]; rw [if_neg (by omega), if_neg (by omega)]; exact h9 i q1 q2)))
                | (have p1 : ¬ tyP B ch c gr g j = true := fun q => by have q2 := e1.mp q; first | exact h31 q2.1 | (have q3 := q2.2; omega)
                   have c1 := cnt_n (p := tyP B ch c gr g) (n := j) p1
                   have c2 := cnt_n (p := tyQ L B ch c gr g) (n := j) (fun q => p1 (e2.mp q).1)
                   exact ih (by omega) _ _ (by omega) hf hZ1 (by omega) (by omega) h9)
  refine R_aload_n 1 rfl dX11_tally_0 rfl ?_
  refine R_iconst 2 rfl dX11_tally_1 ?_
  refine R_putI 22 5 rfl dX11_tally_2 rfl rfl fl_X11_234 ?_
  refine R_aload_n 6 rfl dX11_tally_5 rfl ?_
  refine R_iconst 7 rfl dX11_tally_6 ?_
  refine R_putI 23 10 rfl dX11_tally_7 rfl rfl fl_X11_237 ?_
  refine R_iconst 11 rfl dX11_tally_10 ?_
  refine R_istore [_, _, _, _, _] 13 rfl dX11_tally_11 rfl (by decide) ?_
  exact Lp 0 (by omega) _ _ rfl ((Fm.rf.f96 (by omega)).f96 (by omega)) ((hZ.f96 (by omega)).f96 (by omega)) (by simp [setI, cnt]) (by simp [setI, cnt]) (fun i q1 q2 => by simp only [setI]; rw [if_neg (by omega), if_neg (by omega)])
theorem c_X11_worth (kn yr w : Int) (hR : RS L B ch m) (hkn : rg kn) (hyr : rg yr) (hw : rg w) : C Γ mX11_worth 7 280 0 0 [vr 96, vi kn, vi yr, vi w] SH m (QM L B ch m (a_worth L B ch kn yr w)) := by
  refine C_of_R rfl (Nat.le_of_ble_eq_true rfl) ?_
  have qr := fun y => qt_rg L B ch kn.toNat y hR.2.2.2.2.1.1
  refine R_iload_n 1 rfl dX11_worth_0 rfl ?_
  refine R_i2l 2 rfl dX11_worth_1 (by first | assumption | exact ⟨by omega, by omega⟩) ?_
  refine R_lconst 3 rfl dX11_worth_2 ?_
  refine R_topL (b := 0) rfl ?_
  refine R_lconst 4 rfl dX11_worth_3 ?_
  refine R_topL (b := 1) rfl ?_
  refine R_callS_i (M' := mX11_in) 7 rfl dX11_worth_4 ml_X11_63 kmX11_in st_X11_in (c_X11_in _ _ _ (by first | assumption | exact ⟨by omega, by omega⟩ | exact rg_L (by assumption)) (by first | assumption | exact ⟨by omega, by omega⟩ | exact rg_L (by assumption)) (by first | assumption | exact ⟨by omega, by omega⟩ | exact rg_L (by assumption))) rfl rfl ⟨Nat.le_of_ble_eq_true rfl, Nat.le_of_ble_eq_true rfl⟩ (Nat.le_of_ble_eq_true rfl) ⟨Nat.le_of_ble_eq_true rfl, Nat.le_of_ble_eq_true rfl⟩ ?_
  refine R_ifp_eq 10 32 rfl rfl dX11_worth_7 (fun h7 => ?_) (fun h7 => ?_)
  · refine R_ldcw (-1000000) 35 rfl dX11_worth_32 kc_X11_316 (by decide) ?_
    refine R_ireturn dX11_worth_35 rfl ?_
    exact QI_mk ⟨by unfold a_worth; rw [if_neg (by omega)], Fm.rf, hR⟩
  · refine R_iload_n 11 rfl dX11_worth_10 rfl ?_
    refine R_i2l 12 rfl dX11_worth_11 (by first | assumption | exact ⟨by omega, by omega⟩) ?_
    refine R_lconst 13 rfl dX11_worth_12 ?_
    refine R_topL (b := 0) rfl ?_
    refine R_ldc2 (89) 16 rfl dX11_worth_13 kl_X11_171 (by decide) ?_
    refine R_callS_i (M' := mX11_in) 19 rfl dX11_worth_16 ml_X11_63 kmX11_in st_X11_in (c_X11_in _ _ _ (by first | assumption | exact ⟨by omega, by omega⟩ | exact rg_L (by assumption)) (by first | assumption | exact ⟨by omega, by omega⟩ | exact rg_L (by assumption)) (by first | assumption | exact ⟨by omega, by omega⟩ | exact rg_L (by assumption))) rfl rfl ⟨Nat.le_of_ble_eq_true rfl, Nat.le_of_ble_eq_true rfl⟩ (Nat.le_of_ble_eq_true rfl) ⟨Nat.le_of_ble_eq_true rfl, Nat.le_of_ble_eq_true rfl⟩ ?_
    refine R_ifp_eq 22 32 rfl rfl dX11_worth_19 (fun h19 => ?_) (fun h19 => ?_)
    · refine R_ldcw (-1000000) 35 rfl dX11_worth_32 kc_X11_316 (by decide) ?_
      refine R_ireturn dX11_worth_35 rfl ?_
      exact QI_mk ⟨by unfold a_worth; rw [if_neg (by omega)], Fm.rf, hR⟩
    · refine R_iload_n 23 rfl dX11_worth_22 rfl ?_
      refine R_i2l 24 rfl dX11_worth_23 (by first | assumption | exact ⟨by omega, by omega⟩) ?_
      refine R_lconst 25 rfl dX11_worth_24 ?_
      refine R_topL (b := 0) rfl ?_
      refine R_lconst 26 rfl dX11_worth_25 ?_
      refine R_topL (b := 1) rfl ?_
      refine R_callS_i (M' := mX11_in) 29 rfl dX11_worth_26 ml_X11_63 kmX11_in st_X11_in (c_X11_in _ _ _ (by first | assumption | exact ⟨by omega, by omega⟩ | exact rg_L (by assumption)) (by first | assumption | exact ⟨by omega, by omega⟩ | exact rg_L (by assumption)) (by first | assumption | exact ⟨by omega, by omega⟩ | exact rg_L (by assumption))) rfl rfl ⟨Nat.le_of_ble_eq_true rfl, Nat.le_of_ble_eq_true rfl⟩ (Nat.le_of_ble_eq_true rfl) ⟨Nat.le_of_ble_eq_true rfl, Nat.le_of_ble_eq_true rfl⟩ ?_
      refine R_ifp_ne 32 36 rfl rfl dX11_worth_29 (fun h29 => ?_) (fun h29 => ?_)
      · refine R_aload_n 37 rfl dX11_worth_36 rfl ?_
        refine R_callV_V (M' := mX11_layKinds) 40 rfl dX11_worth_37 ml_X11_227 kmX11_layKinds im_X11_layKinds se_X11_layKinds rfl ⟨by decide, rfl⟩ (c_X11_layKinds hR) rfl rfl ⟨Nat.le_of_ble_eq_true rfl, Nat.le_of_ble_eq_true rfl⟩ (Nat.le_of_ble_eq_true rfl) ⟨Nat.le_of_ble_eq_true rfl, Nat.le_of_ble_eq_true rfl⟩ ?_
        rintro m37 h37
        obtain ⟨f37, z37⟩ := h37
        refine R_aload_n 41 rfl dX11_worth_40 rfl ?_
        refine R_callV_V (M' := mX11_nothing) 44 rfl dX11_worth_41 ml_X11_304 kmX11_nothing im_X11_nothing se_X11_nothing rfl ⟨by decide, rfl⟩ (c_X11_nothing z37.1.1) rfl rfl ⟨Nat.le_of_ble_eq_true rfl, Nat.le_of_ble_eq_true rfl⟩ (Nat.le_of_ble_eq_true rfl) ⟨Nat.le_of_ble_eq_true rfl, Nat.le_of_ble_eq_true rfl⟩ ?_
        rintro m41 h41
        obtain ⟨f41, r41⟩ := h41
        refine R_iconst 45 rfl dX11_worth_44 ?_
        refine R_istore [_, _, _, _, _, _, _, _, _, _, _, _, _, _] 47 rfl dX11_worth_45 rfl (by decide) ?_
        refine R_iconst 48 rfl dX11_worth_47 ?_
        refine R_istore [_, _, _, _, _, _, _, _, _, _, _, _, _, _] 50 rfl dX11_worth_48 rfl (by decide) ?_
        exact w_0 kn yr w _ _ hR (by omega) ⟨f37.tr f41.m, f41.z z37, RtM_0 r41 (we_bd (qr yr)).1.1, Or.inl rfl, fun _ => ⟨fun q => by omega, fun q => by omega, fun q => by omega, fun q => by omega⟩, fun q => by omega⟩
      · refine R_ldcw (-1000000) 35 rfl dX11_worth_32 kc_X11_316 (by decide) ?_
        refine R_ireturn dX11_worth_35 rfl ?_
        exact QI_mk ⟨by unfold a_worth; rw [if_neg (by omega)], Fm.rf, hR⟩
set_option maxHeartbeats 4000000 in
theorem c_X11_parts (gr w : Int) (hR : RS L B ch m) (hg : rg gr) (hw : rg w) : C Γ mX11_parts 7 280 0 0 [vr 96, vi gr, vi w] SH m (QN L B ch m (a_parts L B ch gr w)) := by
  refine C_of_R rfl (Nat.le_of_ble_eq_true rfl) ?_
  have hO := hR.2.2.2.2.1
  have t0 := tg_rg L B ch 0 gr hO.1
  have t1 := tg_rg L B ch 1 gr hO.1
  have gm := gMy_le hR.2.2.1 gr
  have hn := And.intro (tgN_rg (ch := ch) hO 0) (tgN_rg (ch := ch) hO 1)
  have Lp : ((0 ≤ gr ∧ gr ≤ 3) ∧ (0 ≤ w ∧ w ≤ 5)) → tgN B ch 0 ≠ 0 → tgN B ch 1 ≠ 0 → ∀ g, g ≤ gMy L gr → ∀ mm z x8 x9 x10 x11 x12 x13 x14 x15 x16 x17 x18 x19 x20 x21 x22 x23 x24 x25 x26 x27 x28 x29, Fm m mm → RZ L B ch mm → RtM mm (ptN L B ch gr w g) (ptD B ch gr) → z = (g : Int) → R Γ mX11_parts { frames := 7, cells := 0, slots := 0, locals := 280 } 0 0 (QN L B ch m (a_parts L B ch gr w)) 0 0 85 [some (vr 96), some (vi gr), some (vi w), some (vl (tgN B ch 0)), none, some (vl (tgN B ch 1)), none, some (vi z), x8, x9, x10, x11, x12, x13, x14, x15, x16, x17, x18, x19, x20, x21, x22, x23, x24, x25, x26, x27, x28, x29] [] SH mm := by
    intro hbad n0 n1
    have hD := ptD_rg (ch := ch) hO hbad.1 n0 n1
    refine up_ind (gMy L gr) (fun g hgl ih mm z x8 x9 x10 x11 x12 x13 x14 x15 x16 x17 x18 x19 x20 x21 x22 x23 x24 x25 x26 x27 x28 x29 hf hZ hr hz => ?_)
    have eN : ptN L B ch gr w (g + 1) = ptN L B ch gr w g + (ptA L B ch gr w g + ptB L B ch gr w g) := rfl
    have hS := pt_rg (L := L) hO hbad.1 n0 n1 w g (by omega)
    have hS2 : 2 * (g : Int) * ptD B ch gr ≤ 2 * (g : Int) * 270848000000000000 := Int.mul_le_mul_of_nonneg_left hD.2 (by omega)
    have hS3 := hS.2.2 (by omega)
    have tl := (term_le (L := L) (B := B) (ch := ch) (gr := gr) (fun c => (tgN_rg (ch := ch) hO c).1) g)
    have L203 : g < gMy L gr → ∀ m2 u0 d0 u1 d1 y24 y25 y26 y27 y28 y29, Fm m m2 → RZ L B ch m2 → RtM m2 (ptN L B ch gr w g) (ptD B ch gr) → u0 = pU0 (tgM B ch 0 gr) (tgA L B ch 0 gr) (tgA L B ch 1 gr) g → d0 = pD0 (tgM B ch 0 gr) (tgM B ch 1 gr) g → u1 = pU0 (tgM B ch 1 gr) (tgA L B ch 1 gr) (tgA L B ch 0 gr) g → d1 = pD0 (tgM B ch 1 gr) (tgM B ch 0 gr) g → R Γ mX11_parts { frames := 7, cells := 0, slots := 0, locals := 280 } 0 0 (QN L B ch m (a_parts L B ch gr w)) 0 0 203 [some (vr 96), some (vi gr), some (vi w), some (vl (tgN B ch 0)), none, some (vl (tgN B ch 1)), none, some (vi z), some (vl (tgM B ch 0 gr g)), none, some (vl (tgA L B ch 0 gr g)), none, some (vl (tgM B ch 1 gr g)), none, some (vl (tgA L B ch 1 gr g)), none, some (vl u0), none, some (vl d0), none, some (vl u1), none, some (vl d1), none, y24, y25, y26, y27, y28, y29] [] SH m2 := by
      intro hlt m2 u0 d0 u1 d1 y24 y25 y26 y27 y28 y29 hf2 hZ2 hr2 hu0 hd0 hu1 hd1
      have k0 := t0 g (by omega)
      have k1 := t1 g (by omega)
      have L283 : 0 < pV B ch gr g ∧ pV B ch gr g ∣ ptD B ch gr → ∀ m3 mo, Fm m m3 → RZ L B ch m3 → RtM m3 (ptN L B ch gr w g + ptA L B ch gr w g) (ptD B ch gr) → R Γ mX11_parts { frames := 7, cells := 0, slots := 0, locals := 280 } 0 0 (QN L B ch m (a_parts L B ch gr w)) 0 0 283 [some (vr 96), some (vi gr), some (vi w), some (vl (tgN B ch 0)), none, some (vl (tgN B ch 1)), none, some (vi z), some (vl (tgM B ch 0 gr g)), none, some (vl (tgA L B ch 0 gr g)), none, some (vl (tgM B ch 1 gr g)), none, some (vl (tgA L B ch 1 gr g)), none, some (vl u0), none, some (vl d0), none, some (vl u1), none, some (vl d1), none, some (vl mo), none, some (vl (tgM B ch 1 gr g * tgN B ch 0 + tgM B ch 0 gr g * tgN B ch 1)), none, some (vl (pV B ch gr g)), none] [] SH m3 := by
        intro hv m3 mo hf3 hZ3 hr3
        have vD : pV B ch gr g ≤ ptD B ch gr := Int.le_of_dvd hD.1 hv.2
        have eB : 2 ≤ w → ptB L B ch gr w g = pB L B ch gr g * (ptD B ch gr / pV B ch gr g) := fun q => if_pos q
        have eB0 : ¬ 2 ≤ w → ptB L B ch gr w g = 0 := fun q => if_neg q
        refine R_iload_n 284 rfl dX11_parts_283 rfl ?_
        refine R_iconst 285 rfl dX11_parts_284 ?_
        refine R_icmp_le 288 308 rfl rfl dX11_parts_285 (by first | assumption | exact ⟨by omega, by omega⟩) (by first | assumption | exact ⟨by omega, by omega⟩) (fun h285 => ?_) (fun h285 => ?_)
        · refine R_iinc [_, _, _, _, _, _, _, _, _, _, _, _, _, _, _, _, _, _, _, _, _, _, _, _, _, _, _, _, _, _] 311 rfl dX11_parts_308 rfl rfl (by decide) ?_
          refine R_goto 85 rfl dX11_parts_311 ?_
          first
            | exact ih hlt _ _ _ _ _ _ _ _ _ _ _ _ _ _ _ _ _ _ _ _ _ _ _ _ (hf3.tr f305.m) (f305.z hZ3) (by rw [eN, ← Int.add_assoc]; exact r305) (by omega)
            | exact ih hlt _ _ _ _ _ _ _ _ _ _ _ _ _ _ _ _ _ _ _ _ _ _ _ _ hf3 hZ3 (by rw [eN, eB0 (by omega), Int.add_zero]; exact hr3) (by omega)
        · rw [eB (by omega)] at hS3 eN
          refine R_aload_n 289 rfl dX11_parts_288 rfl ?_
          refine R_lload 291 rfl dX11_parts_289 rfl ?_
          refine R_lload 293 rfl dX11_parts_291 rfl ?_
          refine R_lload 295 rfl dX11_parts_293 rfl ?_
          refine R_lmul 296 rfl dX11_parts_295 ?_
          refine R_lload 298 rfl dX11_parts_296 rfl ?_
          refine R_lload 300 rfl dX11_parts_298 rfl ?_
          refine R_lmul 301 rfl dX11_parts_300 ?_
          refine R_lsub 302 rfl dX11_parts_301 ?_
          refine R_lmul 303 rfl dX11_parts_302 ?_
          refine R_topL (b := pB L B ch gr g) (by rw [hu0, hd0, hu1, hd1]; rfl) ?_
          refine R_lload 305 rfl dX11_parts_303 rfl ?_
          refine R_callV_V (M' := mX11_plus) 308 rfl dX11_parts_305 ml_X11_310 kmX11_plus im_X11_plus se_X11_plus rfl ⟨by decide, rfl⟩ (c_X11_plus _ (ptD B ch gr) (pB L B ch gr g) (pV B ch gr g) (ptD B ch gr / pV B ch gr g) hr3 ⟨hD.1, by omega⟩ hv.1 (Int.mul_ediv_cancel' hv.2).symm ⟨by omega, by omega⟩ ⟨by omega, by omega⟩) rfl rfl ⟨Nat.le_of_ble_eq_true rfl, Nat.le_of_ble_eq_true rfl⟩ (Nat.le_of_ble_eq_true rfl) ⟨Nat.le_of_ble_eq_true rfl, Nat.le_of_ble_eq_true rfl⟩ ?_
          rintro m305 h305
          obtain ⟨f305, r305⟩ := h305
          refine R_iinc [_, _, _, _, _, _, _, _, _, _, _, _, _, _, _, _, _, _, _, _, _, _, _, _, _, _, _, _, _, _] 311 rfl dX11_parts_308 rfl rfl (by decide) ?_
          refine R_goto 85 rfl dX11_parts_311 ?_
          first
            | exact ih hlt _ _ _ _ _ _ _ _ _ _ _ _ _ _ _ _ _ _ _ _ _ _ _ _ (hf3.tr f305.m) (f305.z hZ3) (by rw [eN, ← Int.add_assoc]; exact r305) (by omega)
            | exact ih hlt _ _ _ _ _ _ _ _ _ _ _ _ _ _ _ _ _ _ _ _ _ _ _ _ hf3 hZ3 (by rw [eN, eB0 (by omega), Int.add_zero]; exact hr3) (by omega)
      refine R_lload 205 rfl dX11_parts_203 rfl ?_
      refine R_lload 207 rfl dX11_parts_205 rfl ?_
      refine R_ladd 208 rfl dX11_parts_207 ?_
      refine R_lconst 209 rfl dX11_parts_208 ?_
      refine R_topL (b := 0) rfl ?_
      refine R_lif_le 210 213 308 rfl rfl rfl dX11_parts_209 dX11_parts_210 (by first | assumption | exact ⟨by omega, by omega⟩ | exact rg_L (by assumption)) (by first | assumption | exact ⟨by omega, by omega⟩ | exact rg_L (by assumption)) (fun h210 => ?_) (fun h210 => ?_)
      · refine R_iinc [_, _, _, _, _, _, _, _, _, _, _, _, _, _, _, _, _, _, _, _, _, _, _, _, _, _, _, _, _, _] 311 rfl dX11_parts_308 rfl rfl (by decide) ?_
        refine R_goto 85 rfl dX11_parts_311 ?_
        have z9 := pt_zero (L := L) (w := w) (show tgM B ch 0 gr g = 0 by omega) (show tgM B ch 1 gr g = 0 by omega)
        exact ih hlt _ _ _ _ _ _ _ _ _ _ _ _ _ _ _ _ _ _ _ _ _ _ _ _ hf2 hZ2 (by rw [eN, z9.1, z9.2, Int.add_zero, Int.add_zero]; exact hr2) (by omega)
      · have hv := pV_pos (B := B) (ch := ch) (gr := gr) (g := g) (by omega) n0 n1 (by omega) (by omega) (by omega)
        have vD : pV B ch gr g ≤ ptD B ch gr := Int.le_of_dvd hD.1 hv.2
        refine R_lload 215 rfl dX11_parts_213 rfl ?_
        refine R_lload_n 216 rfl dX11_parts_215 rfl ?_
        refine R_lmul 217 rfl dX11_parts_216 ?_
        refine R_lload 219 rfl dX11_parts_217 rfl ?_
        refine R_lload 221 rfl dX11_parts_219 rfl ?_
        refine R_lmul 222 rfl dX11_parts_221 ?_
        refine R_lsub 223 rfl dX11_parts_222 ?_
        refine R_lstore [_, _, _, _, _, _, _, _, _, _, _, _, _, _, _, _, _, _, _, _, _, _, _, _, _, _, _, _, _, _] 225 rfl dX11_parts_223 rfl (by decide) ?_
        refine R_lload 227 rfl dX11_parts_225 rfl ?_
        refine R_lload_n 228 rfl dX11_parts_227 rfl ?_
        refine R_lmul 229 rfl dX11_parts_228 ?_
        refine R_lload 231 rfl dX11_parts_229 rfl ?_
        refine R_lload 233 rfl dX11_parts_231 rfl ?_
        refine R_lmul 234 rfl dX11_parts_233 ?_
        refine R_ladd 235 rfl dX11_parts_234 ?_
        refine R_lstore [_, _, _, _, _, _, _, _, _, _, _, _, _, _, _, _, _, _, _, _, _, _, _, _, _, _, _, _, _, _] 237 rfl dX11_parts_235 rfl (by decide) ?_
        refine R_ldc2 (2) 240 rfl dX11_parts_237 kl_X11_202 (by decide) ?_
        refine R_lload_n 241 rfl dX11_parts_240 rfl ?_
        refine R_lmul 242 rfl dX11_parts_241 ?_
        refine R_lload 244 rfl dX11_parts_242 rfl ?_
        refine R_lmul 245 rfl dX11_parts_244 ?_
        refine R_lload 247 rfl dX11_parts_245 rfl ?_
        refine R_lmul 248 rfl dX11_parts_247 ?_
        refine R_lload 250 rfl dX11_parts_248 rfl ?_
        refine R_lmul 251 rfl dX11_parts_250 ?_
        refine R_topL (b := pV B ch gr g) (by rw [hd0, hd1]; rfl) ?_
        refine R_lstore [_, _, _, _, _, _, _, _, _, _, _, _, _, _, _, _, _, _, _, _, _, _, _, _, _, _, _, _, _, _] 253 rfl dX11_parts_251 rfl (by decide) ?_
        refine R_iload_n 254 rfl dX11_parts_253 rfl ?_
        refine R_iconst 255 rfl dX11_parts_254 ?_
        refine R_icmp_lt 258 263 rfl rfl dX11_parts_255 (by first | assumption | exact ⟨by omega, by omega⟩) (by first | assumption | exact ⟨by omega, by omega⟩) (fun h255 => ?_) (fun h255 => ?_)
        · have eA : ptA L B ch gr w g = pM L B ch gr g * (ptD B ch gr / pV B ch gr g) := if_pos (by omega)
          rw [eA] at hS3
          refine R_aload_n 264 rfl dX11_parts_263 rfl ?_
          refine R_lload 266 rfl dX11_parts_264 rfl ?_
          refine R_lload 268 rfl dX11_parts_266 rfl ?_
          refine R_lload 270 rfl dX11_parts_268 rfl ?_
          refine R_lmul 271 rfl dX11_parts_270 ?_
          refine R_lload 273 rfl dX11_parts_271 rfl ?_
          refine R_lload 275 rfl dX11_parts_273 rfl ?_
          refine R_lmul 276 rfl dX11_parts_275 ?_
          refine R_ladd 277 rfl dX11_parts_276 ?_
          refine R_lmul 278 rfl dX11_parts_277 ?_
          refine R_topL (b := pM L B ch gr g) (by rw [hu0, hd0, hu1, hd1]; rfl) ?_
          refine R_lload 280 rfl dX11_parts_278 rfl ?_
          refine R_callV_V (M' := mX11_plus) 283 rfl dX11_parts_280 ml_X11_310 kmX11_plus im_X11_plus se_X11_plus rfl ⟨by decide, rfl⟩ (c_X11_plus _ (ptD B ch gr) (pM L B ch gr g) (pV B ch gr g) (ptD B ch gr / pV B ch gr g) hr2 ⟨hD.1, by omega⟩ hv.1 (Int.mul_ediv_cancel' hv.2).symm ⟨by omega, by omega⟩ ⟨by omega, by omega⟩) rfl rfl ⟨Nat.le_of_ble_eq_true rfl, Nat.le_of_ble_eq_true rfl⟩ (Nat.le_of_ble_eq_true rfl) ⟨Nat.le_of_ble_eq_true rfl, Nat.le_of_ble_eq_true rfl⟩ ?_
          rintro m280 h280
          obtain ⟨f280, r280⟩ := h280
          first
            | exact L283 hv _ _ (hf2.tr f280.m) (f280.z hZ2) (by rw [eA]; exact r280)
            | exact L283 hv _ _ hf2 hZ2 (by rw [show ptA L B ch gr w g = 0 from if_neg (by omega), Int.add_zero]; exact hr2)
        · refine R_iload_n 259 rfl dX11_parts_258 rfl ?_
          refine R_iconst 260 rfl dX11_parts_259 ?_
          refine R_icmp_le 263 283 rfl rfl dX11_parts_260 (by first | assumption | exact ⟨by omega, by omega⟩) (by first | assumption | exact ⟨by omega, by omega⟩) (fun h260 => ?_) (fun h260 => ?_)
          · first
              | exact L283 hv _ _ (hf2.tr f280.m) (f280.z hZ2) (by rw [eA]; exact r280)
              | exact L283 hv _ _ hf2 hZ2 (by rw [show ptA L B ch gr w g = 0 from if_neg (by omega), Int.add_zero]; exact hr2)
          · have eA : ptA L B ch gr w g = pM L B ch gr g * (ptD B ch gr / pV B ch gr g) := if_pos (by omega)
            rw [eA] at hS3
            refine R_aload_n 264 rfl dX11_parts_263 rfl ?_
            refine R_lload 266 rfl dX11_parts_264 rfl ?_
            refine R_lload 268 rfl dX11_parts_266 rfl ?_
            refine R_lload 270 rfl dX11_parts_268 rfl ?_
            refine R_lmul 271 rfl dX11_parts_270 ?_
            refine R_lload 273 rfl dX11_parts_271 rfl ?_
            refine R_lload 275 rfl dX11_parts_273 rfl ?_
            refine R_lmul 276 rfl dX11_parts_275 ?_
            refine R_ladd 277 rfl dX11_parts_276 ?_
            refine R_lmul 278 rfl dX11_parts_277 ?_
            refine R_topL (b := pM L B ch gr g) (by rw [hu0, hd0, hu1, hd1]; rfl) ?_
            refine R_lload 280 rfl dX11_parts_278 rfl ?_
            refine R_callV_V (M' := mX11_plus) 283 rfl dX11_parts_280 ml_X11_310 kmX11_plus im_X11_plus se_X11_plus rfl ⟨by decide, rfl⟩ (c_X11_plus _ (ptD B ch gr) (pM L B ch gr g) (pV B ch gr g) (ptD B ch gr / pV B ch gr g) hr2 ⟨hD.1, by omega⟩ hv.1 (Int.mul_ediv_cancel' hv.2).symm ⟨by omega, by omega⟩ ⟨by omega, by omega⟩) rfl rfl ⟨Nat.le_of_ble_eq_true rfl, Nat.le_of_ble_eq_true rfl⟩ (Nat.le_of_ble_eq_true rfl) ⟨Nat.le_of_ble_eq_true rfl, Nat.le_of_ble_eq_true rfl⟩ ?_
            rintro m280 h280
            obtain ⟨f280, r280⟩ := h280
            first
              | exact L283 hv _ _ (hf2.tr f280.m) (f280.z hZ2) (by rw [eA]; exact r280)
              | exact L283 hv _ _ hf2 hZ2 (by rw [show ptA L B ch gr w g = 0 from if_neg (by omega), Int.add_zero]; exact hr2)
    refine R_iload 87 rfl dX11_parts_85 rfl ?_
    refine R_aload_n 88 rfl dX11_parts_87 rfl ?_
    refine R_iload_n 89 rfl dX11_parts_88 rfl ?_
    refine R_callV_i (M' := mX11_groupMany) 92 rfl dX11_parts_89 ml_X11_261 kmX11_groupMany im_X11_groupMany se_X11_groupMany rfl ⟨by decide, rfl⟩ (c_X11_groupMany _ hZ.1 (by omega)) rfl rfl ⟨Nat.le_of_ble_eq_true rfl, Nat.le_of_ble_eq_true rfl⟩ (Nat.le_of_ble_eq_true rfl) ⟨Nat.le_of_ble_eq_true rfl, Nat.le_of_ble_eq_true rfl⟩ ?_
    refine R_icmp_ge 95 314 rfl rfl dX11_parts_92 (by first | assumption | exact ⟨by omega, by omega⟩) (by first | assumption | exact ⟨by omega, by omega⟩) (fun h92 => ?_) (fun h92 => ?_)
    · refine R_iload_n 315 rfl dX11_parts_314 rfl ?_
      refine R_iconst 316 rfl dX11_parts_315 ?_
      refine R_irem_p 317 rfl dX11_parts_316 (by first | assumption | exact ⟨by omega, by omega⟩) (by first | assumption | exact ⟨by omega, by omega⟩) (by omega) (by omega) ?_
      refine R_if_ne 320 327 rfl rfl dX11_parts_317 (by first | assumption | exact ⟨by omega, by omega⟩) (fun h317 => ?_) (fun h317 => ?_)
      · refine R_aload_n 328 rfl dX11_parts_327 rfl ?_
        refine R_getL 29 331 rfl dX11_parts_328 rfl rfl fl_X11_291 ?_
        refine R_lreturn dX11_parts_331 rfl ?_
        have ek : g = gMy L gr := by omega
        subst ek
        have e15 : ptN L B ch gr w 15 = ptN L B ch gr w (gMy L gr) := by
          have := ptN_beyond (L := L) (B := B) (ch := ch) (gr := gr) (w := w) (a := gMy L gr) (fun c g hg => tg_beyond hR.2.2.1 hO hg) (15 - gMy L gr)
          rw [show gMy L gr + (15 - gMy L gr) = 15 by omega] at this
          exact this
        refine QL_mk ⟨Eq.symm ?_, hf, hZ.1⟩
        rw [a_parts, if_pos hbad, if_neg (by omega), e15]
        first
          | (rw [if_pos (by omega)]; exact hr.1.symm)
          | (rw [if_neg (by omega)]; exact hr.2.symm)
      · refine R_aload_n 321 rfl dX11_parts_320 rfl ?_
        refine R_getL 28 324 rfl dX11_parts_321 rfl rfl fl_X11_287 ?_
        refine R_goto 331 rfl dX11_parts_324 ?_
        refine R_lreturn dX11_parts_331 rfl ?_
        have ek : g = gMy L gr := by omega
        subst ek
        have e15 : ptN L B ch gr w 15 = ptN L B ch gr w (gMy L gr) := by
          have := ptN_beyond (L := L) (B := B) (ch := ch) (gr := gr) (w := w) (a := gMy L gr) (fun c g hg => tg_beyond hR.2.2.1 hO hg) (15 - gMy L gr)
          rw [show gMy L gr + (15 - gMy L gr) = 15 by omega] at this
          exact this
        refine QL_mk ⟨Eq.symm ?_, hf, hZ.1⟩
        rw [a_parts, if_pos hbad, if_neg (by omega), e15]
        first
          | (rw [if_pos (by omega)]; exact hr.1.symm)
          | (rw [if_neg (by omega)]; exact hr.2.symm)
    · have k0 := t0 g (by omega)
      have k1 := t1 g (by omega)
      obtain rfl : z = (g : Int) := hz
      refine R_aload_n 96 rfl dX11_parts_95 rfl ?_
      refine R_iconst 97 rfl dX11_parts_96 ?_
      refine R_iload_n 98 rfl dX11_parts_97 rfl ?_
      refine R_iload 100 rfl dX11_parts_98 rfl ?_
      refine R_callV_V (M' := mX11_tally) 103 rfl dX11_parts_100 ml_X11_230 kmX11_tally im_X11_tally se_X11_tally rfl ⟨by decide, rfl⟩ (c_X11_tallyK _ _ _ 0 hZ rfl (by decide) (Or.inr (by omega)) ⟨by omega, by omega⟩) rfl rfl ⟨Nat.le_of_ble_eq_true rfl, Nat.le_of_ble_eq_true rfl⟩ (Nat.le_of_ble_eq_true rfl) ⟨Nat.le_of_ble_eq_true rfl, Nat.le_of_ble_eq_true rfl⟩ ?_
      rintro m100 h100
      obtain ⟨f100, z100, a100, b100, r100⟩ := h100
      rw [ty_gM (by omega)] at a100
      rw [ty_gA (by omega)] at b100
      refine R_aload_n 104 rfl dX11_parts_103 rfl ?_
      refine R_getI 22 107 rfl dX11_parts_104 rfl rfl fl_X11_234 ?_
      rw [a100]
      refine R_i2l 108 rfl dX11_parts_107 (by first | assumption | exact ⟨by omega, by omega⟩) ?_
      refine R_lstore [_, _, _, _, _, _, _, _, _, _, _, _, _, _, _, _, _, _, _, _, _, _, _, _, _, _, _, _, _, _] 110 rfl dX11_parts_108 rfl (by decide) ?_
      refine R_aload_n 111 rfl dX11_parts_110 rfl ?_
      refine R_getI 23 114 rfl dX11_parts_111 rfl rfl fl_X11_237 ?_
      rw [b100]
      refine R_i2l 115 rfl dX11_parts_114 (by first | assumption | exact ⟨by omega, by omega⟩) ?_
      refine R_lstore [_, _, _, _, _, _, _, _, _, _, _, _, _, _, _, _, _, _, _, _, _, _, _, _, _, _, _, _, _, _] 117 rfl dX11_parts_115 rfl (by decide) ?_
      refine R_aload_n 118 rfl dX11_parts_117 rfl ?_
      refine R_iconst 119 rfl dX11_parts_118 ?_
      refine R_iload_n 120 rfl dX11_parts_119 rfl ?_
      refine R_iload 122 rfl dX11_parts_120 rfl ?_
      refine R_callV_V (M' := mX11_tally) 125 rfl dX11_parts_122 ml_X11_230 kmX11_tally im_X11_tally se_X11_tally rfl ⟨by decide, rfl⟩ (c_X11_tallyK _ _ _ 1 z100 rfl (by decide) (Or.inr (by omega)) ⟨by omega, by omega⟩) rfl rfl ⟨Nat.le_of_ble_eq_true rfl, Nat.le_of_ble_eq_true rfl⟩ (Nat.le_of_ble_eq_true rfl) ⟨Nat.le_of_ble_eq_true rfl, Nat.le_of_ble_eq_true rfl⟩ ?_
      rintro m122 h122
      obtain ⟨f122, z122, a122, b122, r122⟩ := h122
      rw [ty_gM (by omega)] at a122
      rw [ty_gA (by omega)] at b122
      refine R_aload_n 126 rfl dX11_parts_125 rfl ?_
      refine R_getI 22 129 rfl dX11_parts_126 rfl rfl fl_X11_234 ?_
      rw [a122]
      refine R_i2l 130 rfl dX11_parts_129 (by first | assumption | exact ⟨by omega, by omega⟩) ?_
      refine R_lstore [_, _, _, _, _, _, _, _, _, _, _, _, _, _, _, _, _, _, _, _, _, _, _, _, _, _, _, _, _, _] 132 rfl dX11_parts_130 rfl (by decide) ?_
      refine R_aload_n 133 rfl dX11_parts_132 rfl ?_
      refine R_getI 23 136 rfl dX11_parts_133 rfl rfl fl_X11_237 ?_
      rw [b122]
      refine R_i2l 137 rfl dX11_parts_136 (by first | assumption | exact ⟨by omega, by omega⟩) ?_
      refine R_lstore [_, _, _, _, _, _, _, _, _, _, _, _, _, _, _, _, _, _, _, _, _, _, _, _, _, _, _, _, _, _] 139 rfl dX11_parts_137 rfl (by decide) ?_
      refine R_lload 141 rfl dX11_parts_139 rfl ?_
      refine R_lconst 142 rfl dX11_parts_141 ?_
      refine R_topL (b := 0) rfl ?_
      refine R_lif_le 143 146 151 rfl rfl rfl dX11_parts_142 dX11_parts_143 (by first | assumption | exact ⟨by omega, by omega⟩ | exact rg_L (by assumption)) (by first | assumption | exact ⟨by omega, by omega⟩ | exact rg_L (by assumption)) (fun h143 => ?_) (fun h143 => ?_)
      · refine R_lload 153 rfl dX11_parts_151 rfl ?_
        refine R_lstore [_, _, _, _, _, _, _, _, _, _, _, _, _, _, _, _, _, _, _, _, _, _, _, _, _, _, _, _, _, _] 155 rfl dX11_parts_153 rfl (by decide) ?_
        refine R_lload 157 rfl dX11_parts_155 rfl ?_
        refine R_lconst 158 rfl dX11_parts_157 ?_
        refine R_topL (b := 0) rfl ?_
        refine R_lif_le 159 162 167 rfl rfl rfl dX11_parts_158 dX11_parts_159 (by first | assumption | exact ⟨by omega, by omega⟩ | exact rg_L (by assumption)) (by first | assumption | exact ⟨by omega, by omega⟩ | exact rg_L (by assumption)) (fun h159 => ?_) (fun h159 => ?_)
        · refine R_lload 169 rfl dX11_parts_167 rfl ?_
          refine R_lstore [_, _, _, _, _, _, _, _, _, _, _, _, _, _, _, _, _, _, _, _, _, _, _, _, _, _, _, _, _, _] 171 rfl dX11_parts_169 rfl (by decide) ?_
          refine R_lload 173 rfl dX11_parts_171 rfl ?_
          refine R_lconst 174 rfl dX11_parts_173 ?_
          refine R_topL (b := 0) rfl ?_
          refine R_lif_le 175 178 183 rfl rfl rfl dX11_parts_174 dX11_parts_175 (by first | assumption | exact ⟨by omega, by omega⟩ | exact rg_L (by assumption)) (by first | assumption | exact ⟨by omega, by omega⟩ | exact rg_L (by assumption)) (fun h175 => ?_) (fun h175 => ?_)
          · refine R_lload 185 rfl dX11_parts_183 rfl ?_
            refine R_lstore [_, _, _, _, _, _, _, _, _, _, _, _, _, _, _, _, _, _, _, _, _, _, _, _, _, _, _, _, _, _] 187 rfl dX11_parts_185 rfl (by decide) ?_
            refine R_lload 189 rfl dX11_parts_187 rfl ?_
            refine R_lconst 190 rfl dX11_parts_189 ?_
            refine R_topL (b := 0) rfl ?_
            refine R_lif_le 191 194 199 rfl rfl rfl dX11_parts_190 dX11_parts_191 (by first | assumption | exact ⟨by omega, by omega⟩ | exact rg_L (by assumption)) (by first | assumption | exact ⟨by omega, by omega⟩ | exact rg_L (by assumption)) (fun h191 => ?_) (fun h191 => ?_)
            · refine R_lload 201 rfl dX11_parts_199 rfl ?_
              refine R_lstore [_, _, _, _, _, _, _, _, _, _, _, _, _, _, _, _, _, _, _, _, _, _, _, _, _, _, _, _, _, _] 203 rfl dX11_parts_201 rfl (by decide) ?_
              first
                | (exfalso; omega)
                | exact L203 (by omega) _ _ _ _ _ _ _ _ _ _ _ ((hf.tr f100).tr f122) z122 ⟨((r122 28 (by decide) (by decide)).trans (r100 28 (by decide) (by decide))).trans hr.1, ((r122 29 (by decide) (by decide)).trans (r100 29 (by decide) (by decide))).trans hr.2⟩ (by unfold pU0 oE; first | rw [if_pos (by omega)] | rw [if_neg (by omega)]) (by unfold pD0 oE; first | rw [if_pos (by omega)] | rw [if_neg (by omega)]) (by unfold pU0 oE; first | rw [if_pos (by omega)] | rw [if_neg (by omega)]) (by unfold pD0 oE; first | rw [if_pos (by omega)] | rw [if_neg (by omega)])
            · refine R_lload 196 rfl dX11_parts_194 rfl ?_
              refine R_goto 201 rfl dX11_parts_196 ?_
              refine R_lstore [_, _, _, _, _, _, _, _, _, _, _, _, _, _, _, _, _, _, _, _, _, _, _, _, _, _, _, _, _, _] 203 rfl dX11_parts_201 rfl (by decide) ?_
              first
                | (exfalso; omega)
                | exact L203 (by omega) _ _ _ _ _ _ _ _ _ _ _ ((hf.tr f100).tr f122) z122 ⟨((r122 28 (by decide) (by decide)).trans (r100 28 (by decide) (by decide))).trans hr.1, ((r122 29 (by decide) (by decide)).trans (r100 29 (by decide) (by decide))).trans hr.2⟩ (by unfold pU0 oE; first | rw [if_pos (by omega)] | rw [if_neg (by omega)]) (by unfold pD0 oE; first | rw [if_pos (by omega)] | rw [if_neg (by omega)]) (by unfold pU0 oE; first | rw [if_pos (by omega)] | rw [if_neg (by omega)]) (by unfold pD0 oE; first | rw [if_pos (by omega)] | rw [if_neg (by omega)])
          · refine R_lload 180 rfl dX11_parts_178 rfl ?_
            refine R_goto 185 rfl dX11_parts_180 ?_
            refine R_lstore [_, _, _, _, _, _, _, _, _, _, _, _, _, _, _, _, _, _, _, _, _, _, _, _, _, _, _, _, _, _] 187 rfl dX11_parts_185 rfl (by decide) ?_
            refine R_lload 189 rfl dX11_parts_187 rfl ?_
            refine R_lconst 190 rfl dX11_parts_189 ?_
            refine R_topL (b := 0) rfl ?_
            refine R_lif_le 191 194 199 rfl rfl rfl dX11_parts_190 dX11_parts_191 (by first | assumption | exact ⟨by omega, by omega⟩ | exact rg_L (by assumption)) (by first | assumption | exact ⟨by omega, by omega⟩ | exact rg_L (by assumption)) (fun h191 => ?_) (fun h191 => ?_)
            · refine R_lload 201 rfl dX11_parts_199 rfl ?_
              refine R_lstore [_, _, _, _, _, _, _, _, _, _, _, _, _, _, _, _, _, _, _, _, _, _, _, _, _, _, _, _, _, _] 203 rfl dX11_parts_201 rfl (by decide) ?_
              first
                | (exfalso; omega)
                | exact L203 (by omega) _ _ _ _ _ _ _ _ _ _ _ ((hf.tr f100).tr f122) z122 ⟨((r122 28 (by decide) (by decide)).trans (r100 28 (by decide) (by decide))).trans hr.1, ((r122 29 (by decide) (by decide)).trans (r100 29 (by decide) (by decide))).trans hr.2⟩ (by unfold pU0 oE; first | rw [if_pos (by omega)] | rw [if_neg (by omega)]) (by unfold pD0 oE; first | rw [if_pos (by omega)] | rw [if_neg (by omega)]) (by unfold pU0 oE; first | rw [if_pos (by omega)] | rw [if_neg (by omega)]) (by unfold pD0 oE; first | rw [if_pos (by omega)] | rw [if_neg (by omega)])
            · refine R_lload 196 rfl dX11_parts_194 rfl ?_
              refine R_goto 201 rfl dX11_parts_196 ?_
              refine R_lstore [_, _, _, _, _, _, _, _, _, _, _, _, _, _, _, _, _, _, _, _, _, _, _, _, _, _, _, _, _, _] 203 rfl dX11_parts_201 rfl (by decide) ?_
              first
                | (exfalso; omega)
                | exact L203 (by omega) _ _ _ _ _ _ _ _ _ _ _ ((hf.tr f100).tr f122) z122 ⟨((r122 28 (by decide) (by decide)).trans (r100 28 (by decide) (by decide))).trans hr.1, ((r122 29 (by decide) (by decide)).trans (r100 29 (by decide) (by decide))).trans hr.2⟩ (by unfold pU0 oE; first | rw [if_pos (by omega)] | rw [if_neg (by omega)]) (by unfold pD0 oE; first | rw [if_pos (by omega)] | rw [if_neg (by omega)]) (by unfold pU0 oE; first | rw [if_pos (by omega)] | rw [if_neg (by omega)]) (by unfold pD0 oE; first | rw [if_pos (by omega)] | rw [if_neg (by omega)])
        · refine R_lload 164 rfl dX11_parts_162 rfl ?_
          refine R_goto 169 rfl dX11_parts_164 ?_
          refine R_lstore [_, _, _, _, _, _, _, _, _, _, _, _, _, _, _, _, _, _, _, _, _, _, _, _, _, _, _, _, _, _] 171 rfl dX11_parts_169 rfl (by decide) ?_
          refine R_lload 173 rfl dX11_parts_171 rfl ?_
          refine R_lconst 174 rfl dX11_parts_173 ?_
          refine R_topL (b := 0) rfl ?_
          refine R_lif_le 175 178 183 rfl rfl rfl dX11_parts_174 dX11_parts_175 (by first | assumption | exact ⟨by omega, by omega⟩ | exact rg_L (by assumption)) (by first | assumption | exact ⟨by omega, by omega⟩ | exact rg_L (by assumption)) (fun h175 => ?_) (fun h175 => ?_)
          · refine R_lload 185 rfl dX11_parts_183 rfl ?_
            refine R_lstore [_, _, _, _, _, _, _, _, _, _, _, _, _, _, _, _, _, _, _, _, _, _, _, _, _, _, _, _, _, _] 187 rfl dX11_parts_185 rfl (by decide) ?_
            refine R_lload 189 rfl dX11_parts_187 rfl ?_
            refine R_lconst 190 rfl dX11_parts_189 ?_
            refine R_topL (b := 0) rfl ?_
            refine R_lif_le 191 194 199 rfl rfl rfl dX11_parts_190 dX11_parts_191 (by first | assumption | exact ⟨by omega, by omega⟩ | exact rg_L (by assumption)) (by first | assumption | exact ⟨by omega, by omega⟩ | exact rg_L (by assumption)) (fun h191 => ?_) (fun h191 => ?_)
            · refine R_lload 201 rfl dX11_parts_199 rfl ?_
              refine R_lstore [_, _, _, _, _, _, _, _, _, _, _, _, _, _, _, _, _, _, _, _, _, _, _, _, _, _, _, _, _, _] 203 rfl dX11_parts_201 rfl (by decide) ?_
              first
                | (exfalso; omega)
                | exact L203 (by omega) _ _ _ _ _ _ _ _ _ _ _ ((hf.tr f100).tr f122) z122 ⟨((r122 28 (by decide) (by decide)).trans (r100 28 (by decide) (by decide))).trans hr.1, ((r122 29 (by decide) (by decide)).trans (r100 29 (by decide) (by decide))).trans hr.2⟩ (by unfold pU0 oE; first | rw [if_pos (by omega)] | rw [if_neg (by omega)]) (by unfold pD0 oE; first | rw [if_pos (by omega)] | rw [if_neg (by omega)]) (by unfold pU0 oE; first | rw [if_pos (by omega)] | rw [if_neg (by omega)]) (by unfold pD0 oE; first | rw [if_pos (by omega)] | rw [if_neg (by omega)])
            · refine R_lload 196 rfl dX11_parts_194 rfl ?_
              refine R_goto 201 rfl dX11_parts_196 ?_
              refine R_lstore [_, _, _, _, _, _, _, _, _, _, _, _, _, _, _, _, _, _, _, _, _, _, _, _, _, _, _, _, _, _] 203 rfl dX11_parts_201 rfl (by decide) ?_
              first
                | (exfalso; omega)
                | exact L203 (by omega) _ _ _ _ _ _ _ _ _ _ _ ((hf.tr f100).tr f122) z122 ⟨((r122 28 (by decide) (by decide)).trans (r100 28 (by decide) (by decide))).trans hr.1, ((r122 29 (by decide) (by decide)).trans (r100 29 (by decide) (by decide))).trans hr.2⟩ (by unfold pU0 oE; first | rw [if_pos (by omega)] | rw [if_neg (by omega)]) (by unfold pD0 oE; first | rw [if_pos (by omega)] | rw [if_neg (by omega)]) (by unfold pU0 oE; first | rw [if_pos (by omega)] | rw [if_neg (by omega)]) (by unfold pD0 oE; first | rw [if_pos (by omega)] | rw [if_neg (by omega)])
          · refine R_lload 180 rfl dX11_parts_178 rfl ?_
            refine R_goto 185 rfl dX11_parts_180 ?_
            refine R_lstore [_, _, _, _, _, _, _, _, _, _, _, _, _, _, _, _, _, _, _, _, _, _, _, _, _, _, _, _, _, _] 187 rfl dX11_parts_185 rfl (by decide) ?_
            refine R_lload 189 rfl dX11_parts_187 rfl ?_
            refine R_lconst 190 rfl dX11_parts_189 ?_
            refine R_topL (b := 0) rfl ?_
            refine R_lif_le 191 194 199 rfl rfl rfl dX11_parts_190 dX11_parts_191 (by first | assumption | exact ⟨by omega, by omega⟩ | exact rg_L (by assumption)) (by first | assumption | exact ⟨by omega, by omega⟩ | exact rg_L (by assumption)) (fun h191 => ?_) (fun h191 => ?_)
            · refine R_lload 201 rfl dX11_parts_199 rfl ?_
              refine R_lstore [_, _, _, _, _, _, _, _, _, _, _, _, _, _, _, _, _, _, _, _, _, _, _, _, _, _, _, _, _, _] 203 rfl dX11_parts_201 rfl (by decide) ?_
              first
                | (exfalso; omega)
                | exact L203 (by omega) _ _ _ _ _ _ _ _ _ _ _ ((hf.tr f100).tr f122) z122 ⟨((r122 28 (by decide) (by decide)).trans (r100 28 (by decide) (by decide))).trans hr.1, ((r122 29 (by decide) (by decide)).trans (r100 29 (by decide) (by decide))).trans hr.2⟩ (by unfold pU0 oE; first | rw [if_pos (by omega)] | rw [if_neg (by omega)]) (by unfold pD0 oE; first | rw [if_pos (by omega)] | rw [if_neg (by omega)]) (by unfold pU0 oE; first | rw [if_pos (by omega)] | rw [if_neg (by omega)]) (by unfold pD0 oE; first | rw [if_pos (by omega)] | rw [if_neg (by omega)])
            · refine R_lload 196 rfl dX11_parts_194 rfl ?_
              refine R_goto 201 rfl dX11_parts_196 ?_
              refine R_lstore [_, _, _, _, _, _, _, _, _, _, _, _, _, _, _, _, _, _, _, _, _, _, _, _, _, _, _, _, _, _] 203 rfl dX11_parts_201 rfl (by decide) ?_
              first
                | (exfalso; omega)
                | exact L203 (by omega) _ _ _ _ _ _ _ _ _ _ _ ((hf.tr f100).tr f122) z122 ⟨((r122 28 (by decide) (by decide)).trans (r100 28 (by decide) (by decide))).trans hr.1, ((r122 29 (by decide) (by decide)).trans (r100 29 (by decide) (by decide))).trans hr.2⟩ (by unfold pU0 oE; first | rw [if_pos (by omega)] | rw [if_neg (by omega)]) (by unfold pD0 oE; first | rw [if_pos (by omega)] | rw [if_neg (by omega)]) (by unfold pU0 oE; first | rw [if_pos (by omega)] | rw [if_neg (by omega)]) (by unfold pD0 oE; first | rw [if_pos (by omega)] | rw [if_neg (by omega)])
      · refine R_lload 148 rfl dX11_parts_146 rfl ?_
        refine R_goto 153 rfl dX11_parts_148 ?_
        refine R_lstore [_, _, _, _, _, _, _, _, _, _, _, _, _, _, _, _, _, _, _, _, _, _, _, _, _, _, _, _, _, _] 155 rfl dX11_parts_153 rfl (by decide) ?_
        refine R_lload 157 rfl dX11_parts_155 rfl ?_
        refine R_lconst 158 rfl dX11_parts_157 ?_
        refine R_topL (b := 0) rfl ?_
        refine R_lif_le 159 162 167 rfl rfl rfl dX11_parts_158 dX11_parts_159 (by first | assumption | exact ⟨by omega, by omega⟩ | exact rg_L (by assumption)) (by first | assumption | exact ⟨by omega, by omega⟩ | exact rg_L (by assumption)) (fun h159 => ?_) (fun h159 => ?_)
        · refine R_lload 169 rfl dX11_parts_167 rfl ?_
          refine R_lstore [_, _, _, _, _, _, _, _, _, _, _, _, _, _, _, _, _, _, _, _, _, _, _, _, _, _, _, _, _, _] 171 rfl dX11_parts_169 rfl (by decide) ?_
          refine R_lload 173 rfl dX11_parts_171 rfl ?_
          refine R_lconst 174 rfl dX11_parts_173 ?_
          refine R_topL (b := 0) rfl ?_
          refine R_lif_le 175 178 183 rfl rfl rfl dX11_parts_174 dX11_parts_175 (by first | assumption | exact ⟨by omega, by omega⟩ | exact rg_L (by assumption)) (by first | assumption | exact ⟨by omega, by omega⟩ | exact rg_L (by assumption)) (fun h175 => ?_) (fun h175 => ?_)
          · refine R_lload 185 rfl dX11_parts_183 rfl ?_
            refine R_lstore [_, _, _, _, _, _, _, _, _, _, _, _, _, _, _, _, _, _, _, _, _, _, _, _, _, _, _, _, _, _] 187 rfl dX11_parts_185 rfl (by decide) ?_
            refine R_lload 189 rfl dX11_parts_187 rfl ?_
            refine R_lconst 190 rfl dX11_parts_189 ?_
            refine R_topL (b := 0) rfl ?_
            refine R_lif_le 191 194 199 rfl rfl rfl dX11_parts_190 dX11_parts_191 (by first | assumption | exact ⟨by omega, by omega⟩ | exact rg_L (by assumption)) (by first | assumption | exact ⟨by omega, by omega⟩ | exact rg_L (by assumption)) (fun h191 => ?_) (fun h191 => ?_)
            · refine R_lload 201 rfl dX11_parts_199 rfl ?_
              refine R_lstore [_, _, _, _, _, _, _, _, _, _, _, _, _, _, _, _, _, _, _, _, _, _, _, _, _, _, _, _, _, _] 203 rfl dX11_parts_201 rfl (by decide) ?_
              first
                | (exfalso; omega)
                | exact L203 (by omega) _ _ _ _ _ _ _ _ _ _ _ ((hf.tr f100).tr f122) z122 ⟨((r122 28 (by decide) (by decide)).trans (r100 28 (by decide) (by decide))).trans hr.1, ((r122 29 (by decide) (by decide)).trans (r100 29 (by decide) (by decide))).trans hr.2⟩ (by unfold pU0 oE; first | rw [if_pos (by omega)] | rw [if_neg (by omega)]) (by unfold pD0 oE; first | rw [if_pos (by omega)] | rw [if_neg (by omega)]) (by unfold pU0 oE; first | rw [if_pos (by omega)] | rw [if_neg (by omega)]) (by unfold pD0 oE; first | rw [if_pos (by omega)] | rw [if_neg (by omega)])
            · refine R_lload 196 rfl dX11_parts_194 rfl ?_
              refine R_goto 201 rfl dX11_parts_196 ?_
              refine R_lstore [_, _, _, _, _, _, _, _, _, _, _, _, _, _, _, _, _, _, _, _, _, _, _, _, _, _, _, _, _, _] 203 rfl dX11_parts_201 rfl (by decide) ?_
              first
                | (exfalso; omega)
                | exact L203 (by omega) _ _ _ _ _ _ _ _ _ _ _ ((hf.tr f100).tr f122) z122 ⟨((r122 28 (by decide) (by decide)).trans (r100 28 (by decide) (by decide))).trans hr.1, ((r122 29 (by decide) (by decide)).trans (r100 29 (by decide) (by decide))).trans hr.2⟩ (by unfold pU0 oE; first | rw [if_pos (by omega)] | rw [if_neg (by omega)]) (by unfold pD0 oE; first | rw [if_pos (by omega)] | rw [if_neg (by omega)]) (by unfold pU0 oE; first | rw [if_pos (by omega)] | rw [if_neg (by omega)]) (by unfold pD0 oE; first | rw [if_pos (by omega)] | rw [if_neg (by omega)])
          · refine R_lload 180 rfl dX11_parts_178 rfl ?_
            refine R_goto 185 rfl dX11_parts_180 ?_
            refine R_lstore [_, _, _, _, _, _, _, _, _, _, _, _, _, _, _, _, _, _, _, _, _, _, _, _, _, _, _, _, _, _] 187 rfl dX11_parts_185 rfl (by decide) ?_
            refine R_lload 189 rfl dX11_parts_187 rfl ?_
            refine R_lconst 190 rfl dX11_parts_189 ?_
            refine R_topL (b := 0) rfl ?_
            refine R_lif_le 191 194 199 rfl rfl rfl dX11_parts_190 dX11_parts_191 (by first | assumption | exact ⟨by omega, by omega⟩ | exact rg_L (by assumption)) (by first | assumption | exact ⟨by omega, by omega⟩ | exact rg_L (by assumption)) (fun h191 => ?_) (fun h191 => ?_)
            · refine R_lload 201 rfl dX11_parts_199 rfl ?_
              refine R_lstore [_, _, _, _, _, _, _, _, _, _, _, _, _, _, _, _, _, _, _, _, _, _, _, _, _, _, _, _, _, _] 203 rfl dX11_parts_201 rfl (by decide) ?_
              first
                | (exfalso; omega)
                | exact L203 (by omega) _ _ _ _ _ _ _ _ _ _ _ ((hf.tr f100).tr f122) z122 ⟨((r122 28 (by decide) (by decide)).trans (r100 28 (by decide) (by decide))).trans hr.1, ((r122 29 (by decide) (by decide)).trans (r100 29 (by decide) (by decide))).trans hr.2⟩ (by unfold pU0 oE; first | rw [if_pos (by omega)] | rw [if_neg (by omega)]) (by unfold pD0 oE; first | rw [if_pos (by omega)] | rw [if_neg (by omega)]) (by unfold pU0 oE; first | rw [if_pos (by omega)] | rw [if_neg (by omega)]) (by unfold pD0 oE; first | rw [if_pos (by omega)] | rw [if_neg (by omega)])
            · refine R_lload 196 rfl dX11_parts_194 rfl ?_
              refine R_goto 201 rfl dX11_parts_196 ?_
              refine R_lstore [_, _, _, _, _, _, _, _, _, _, _, _, _, _, _, _, _, _, _, _, _, _, _, _, _, _, _, _, _, _] 203 rfl dX11_parts_201 rfl (by decide) ?_
              first
                | (exfalso; omega)
                | exact L203 (by omega) _ _ _ _ _ _ _ _ _ _ _ ((hf.tr f100).tr f122) z122 ⟨((r122 28 (by decide) (by decide)).trans (r100 28 (by decide) (by decide))).trans hr.1, ((r122 29 (by decide) (by decide)).trans (r100 29 (by decide) (by decide))).trans hr.2⟩ (by unfold pU0 oE; first | rw [if_pos (by omega)] | rw [if_neg (by omega)]) (by unfold pD0 oE; first | rw [if_pos (by omega)] | rw [if_neg (by omega)]) (by unfold pU0 oE; first | rw [if_pos (by omega)] | rw [if_neg (by omega)]) (by unfold pD0 oE; first | rw [if_pos (by omega)] | rw [if_neg (by omega)])
        · refine R_lload 164 rfl dX11_parts_162 rfl ?_
          refine R_goto 169 rfl dX11_parts_164 ?_
          refine R_lstore [_, _, _, _, _, _, _, _, _, _, _, _, _, _, _, _, _, _, _, _, _, _, _, _, _, _, _, _, _, _] 171 rfl dX11_parts_169 rfl (by decide) ?_
          refine R_lload 173 rfl dX11_parts_171 rfl ?_
          refine R_lconst 174 rfl dX11_parts_173 ?_
          refine R_topL (b := 0) rfl ?_
          refine R_lif_le 175 178 183 rfl rfl rfl dX11_parts_174 dX11_parts_175 (by first | assumption | exact ⟨by omega, by omega⟩ | exact rg_L (by assumption)) (by first | assumption | exact ⟨by omega, by omega⟩ | exact rg_L (by assumption)) (fun h175 => ?_) (fun h175 => ?_)
          · refine R_lload 185 rfl dX11_parts_183 rfl ?_
            refine R_lstore [_, _, _, _, _, _, _, _, _, _, _, _, _, _, _, _, _, _, _, _, _, _, _, _, _, _, _, _, _, _] 187 rfl dX11_parts_185 rfl (by decide) ?_
            refine R_lload 189 rfl dX11_parts_187 rfl ?_
            refine R_lconst 190 rfl dX11_parts_189 ?_
            refine R_topL (b := 0) rfl ?_
            refine R_lif_le 191 194 199 rfl rfl rfl dX11_parts_190 dX11_parts_191 (by first | assumption | exact ⟨by omega, by omega⟩ | exact rg_L (by assumption)) (by first | assumption | exact ⟨by omega, by omega⟩ | exact rg_L (by assumption)) (fun h191 => ?_) (fun h191 => ?_)
            · refine R_lload 201 rfl dX11_parts_199 rfl ?_
              refine R_lstore [_, _, _, _, _, _, _, _, _, _, _, _, _, _, _, _, _, _, _, _, _, _, _, _, _, _, _, _, _, _] 203 rfl dX11_parts_201 rfl (by decide) ?_
              first
                | (exfalso; omega)
                | exact L203 (by omega) _ _ _ _ _ _ _ _ _ _ _ ((hf.tr f100).tr f122) z122 ⟨((r122 28 (by decide) (by decide)).trans (r100 28 (by decide) (by decide))).trans hr.1, ((r122 29 (by decide) (by decide)).trans (r100 29 (by decide) (by decide))).trans hr.2⟩ (by unfold pU0 oE; first | rw [if_pos (by omega)] | rw [if_neg (by omega)]) (by unfold pD0 oE; first | rw [if_pos (by omega)] | rw [if_neg (by omega)]) (by unfold pU0 oE; first | rw [if_pos (by omega)] | rw [if_neg (by omega)]) (by unfold pD0 oE; first | rw [if_pos (by omega)] | rw [if_neg (by omega)])
            · refine R_lload 196 rfl dX11_parts_194 rfl ?_
              refine R_goto 201 rfl dX11_parts_196 ?_
              refine R_lstore [_, _, _, _, _, _, _, _, _, _, _, _, _, _, _, _, _, _, _, _, _, _, _, _, _, _, _, _, _, _] 203 rfl dX11_parts_201 rfl (by decide) ?_
              first
                | (exfalso; omega)
                | exact L203 (by omega) _ _ _ _ _ _ _ _ _ _ _ ((hf.tr f100).tr f122) z122 ⟨((r122 28 (by decide) (by decide)).trans (r100 28 (by decide) (by decide))).trans hr.1, ((r122 29 (by decide) (by decide)).trans (r100 29 (by decide) (by decide))).trans hr.2⟩ (by unfold pU0 oE; first | rw [if_pos (by omega)] | rw [if_neg (by omega)]) (by unfold pD0 oE; first | rw [if_pos (by omega)] | rw [if_neg (by omega)]) (by unfold pU0 oE; first | rw [if_pos (by omega)] | rw [if_neg (by omega)]) (by unfold pD0 oE; first | rw [if_pos (by omega)] | rw [if_neg (by omega)])
          · refine R_lload 180 rfl dX11_parts_178 rfl ?_
            refine R_goto 185 rfl dX11_parts_180 ?_
            refine R_lstore [_, _, _, _, _, _, _, _, _, _, _, _, _, _, _, _, _, _, _, _, _, _, _, _, _, _, _, _, _, _] 187 rfl dX11_parts_185 rfl (by decide) ?_
            refine R_lload 189 rfl dX11_parts_187 rfl ?_
            refine R_lconst 190 rfl dX11_parts_189 ?_
            refine R_topL (b := 0) rfl ?_
            refine R_lif_le 191 194 199 rfl rfl rfl dX11_parts_190 dX11_parts_191 (by first | assumption | exact ⟨by omega, by omega⟩ | exact rg_L (by assumption)) (by first | assumption | exact ⟨by omega, by omega⟩ | exact rg_L (by assumption)) (fun h191 => ?_) (fun h191 => ?_)
            · refine R_lload 201 rfl dX11_parts_199 rfl ?_
              refine R_lstore [_, _, _, _, _, _, _, _, _, _, _, _, _, _, _, _, _, _, _, _, _, _, _, _, _, _, _, _, _, _] 203 rfl dX11_parts_201 rfl (by decide) ?_
              first
                | (exfalso; omega)
                | exact L203 (by omega) _ _ _ _ _ _ _ _ _ _ _ ((hf.tr f100).tr f122) z122 ⟨((r122 28 (by decide) (by decide)).trans (r100 28 (by decide) (by decide))).trans hr.1, ((r122 29 (by decide) (by decide)).trans (r100 29 (by decide) (by decide))).trans hr.2⟩ (by unfold pU0 oE; first | rw [if_pos (by omega)] | rw [if_neg (by omega)]) (by unfold pD0 oE; first | rw [if_pos (by omega)] | rw [if_neg (by omega)]) (by unfold pU0 oE; first | rw [if_pos (by omega)] | rw [if_neg (by omega)]) (by unfold pD0 oE; first | rw [if_pos (by omega)] | rw [if_neg (by omega)])
            · refine R_lload 196 rfl dX11_parts_194 rfl ?_
              refine R_goto 201 rfl dX11_parts_196 ?_
              refine R_lstore [_, _, _, _, _, _, _, _, _, _, _, _, _, _, _, _, _, _, _, _, _, _, _, _, _, _, _, _, _, _] 203 rfl dX11_parts_201 rfl (by decide) ?_
              first
                | (exfalso; omega)
                | exact L203 (by omega) _ _ _ _ _ _ _ _ _ _ _ ((hf.tr f100).tr f122) z122 ⟨((r122 28 (by decide) (by decide)).trans (r100 28 (by decide) (by decide))).trans hr.1, ((r122 29 (by decide) (by decide)).trans (r100 29 (by decide) (by decide))).trans hr.2⟩ (by unfold pU0 oE; first | rw [if_pos (by omega)] | rw [if_neg (by omega)]) (by unfold pD0 oE; first | rw [if_pos (by omega)] | rw [if_neg (by omega)]) (by unfold pU0 oE; first | rw [if_pos (by omega)] | rw [if_neg (by omega)]) (by unfold pD0 oE; first | rw [if_pos (by omega)] | rw [if_neg (by omega)])
  refine R_iload_n 1 rfl dX11_parts_0 rfl ?_
  refine R_i2l 2 rfl dX11_parts_1 (by first | assumption | exact ⟨by omega, by omega⟩) ?_
  refine R_lconst 3 rfl dX11_parts_2 ?_
  refine R_topL (b := 0) rfl ?_
  refine R_ldc2 (3) 6 rfl dX11_parts_3 kl_X11_225 (by decide) ?_
  refine R_callS_i (M' := mX11_in) 9 rfl dX11_parts_6 ml_X11_63 kmX11_in st_X11_in (c_X11_in _ _ _ (by first | assumption | exact ⟨by omega, by omega⟩ | exact rg_L (by assumption)) (by first | assumption | exact ⟨by omega, by omega⟩ | exact rg_L (by assumption)) (by first | assumption | exact ⟨by omega, by omega⟩ | exact rg_L (by assumption))) rfl rfl ⟨Nat.le_of_ble_eq_true rfl, Nat.le_of_ble_eq_true rfl⟩ (Nat.le_of_ble_eq_true rfl) ⟨Nat.le_of_ble_eq_true rfl, Nat.le_of_ble_eq_true rfl⟩ ?_
  refine R_ifp_eq 12 24 rfl rfl dX11_parts_9 (fun h9 => ?_) (fun h9 => ?_)
  · refine R_ldc2 (-1) 27 rfl dX11_parts_24 kl_X11_300 (by decide) ?_
    refine R_lreturn dX11_parts_27 rfl ?_
    exact QL_mk ⟨by unfold a_parts; rw [if_neg (by omega)], Fm.rf, hR⟩
  · refine R_iload_n 13 rfl dX11_parts_12 rfl ?_
    refine R_i2l 14 rfl dX11_parts_13 (by first | assumption | exact ⟨by omega, by omega⟩) ?_
    refine R_lconst 15 rfl dX11_parts_14 ?_
    refine R_topL (b := 0) rfl ?_
    refine R_ldc2 (5) 18 rfl dX11_parts_15 kl_X11_162 (by decide) ?_
    refine R_callS_i (M' := mX11_in) 21 rfl dX11_parts_18 ml_X11_63 kmX11_in st_X11_in (c_X11_in _ _ _ (by first | assumption | exact ⟨by omega, by omega⟩ | exact rg_L (by assumption)) (by first | assumption | exact ⟨by omega, by omega⟩ | exact rg_L (by assumption)) (by first | assumption | exact ⟨by omega, by omega⟩ | exact rg_L (by assumption))) rfl rfl ⟨Nat.le_of_ble_eq_true rfl, Nat.le_of_ble_eq_true rfl⟩ (Nat.le_of_ble_eq_true rfl) ⟨Nat.le_of_ble_eq_true rfl, Nat.le_of_ble_eq_true rfl⟩ ?_
    refine R_ifp_ne 24 28 rfl rfl dX11_parts_21 (fun h21 => ?_) (fun h21 => ?_)
    · refine R_aload_n 29 rfl dX11_parts_28 rfl ?_
      refine R_callV_V (M' := mX11_layKinds) 32 rfl dX11_parts_29 ml_X11_227 kmX11_layKinds im_X11_layKinds se_X11_layKinds rfl ⟨by decide, rfl⟩ (c_X11_layKinds hR) rfl rfl ⟨Nat.le_of_ble_eq_true rfl, Nat.le_of_ble_eq_true rfl⟩ (Nat.le_of_ble_eq_true rfl) ⟨Nat.le_of_ble_eq_true rfl, Nat.le_of_ble_eq_true rfl⟩ ?_
      rintro m29 h29
      obtain ⟨f29, z29⟩ := h29
      refine R_aload_n 33 rfl dX11_parts_32 rfl ?_
      refine R_iconst 34 rfl dX11_parts_33 ?_
      refine R_bipush 36 rfl dX11_parts_34 (by decide) ?_
      refine R_iconst 37 rfl dX11_parts_36 ?_
      refine R_callV_V (M' := mX11_tally) 40 rfl dX11_parts_37 ml_X11_230 kmX11_tally im_X11_tally se_X11_tally rfl ⟨by decide, rfl⟩ (c_X11_tally _ _ _ 0 z29 rfl (by decide) (Or.inl rfl) ⟨by omega, by omega⟩) rfl rfl ⟨Nat.le_of_ble_eq_true rfl, Nat.le_of_ble_eq_true rfl⟩ (Nat.le_of_ble_eq_true rfl) ⟨Nat.le_of_ble_eq_true rfl, Nat.le_of_ble_eq_true rfl⟩ ?_
      rintro m37 h37
      obtain ⟨f37, z37, a37, -⟩ := h37
      rw [ty_N] at a37
      refine R_aload_n 41 rfl dX11_parts_40 rfl ?_
      refine R_getI 22 44 rfl dX11_parts_41 rfl rfl fl_X11_234 ?_
      rw [a37]
      refine R_i2l 45 rfl dX11_parts_44 (by first | assumption | exact ⟨by omega, by omega⟩) ?_
      refine R_lstore_n [_, _, _, _, _, _, _, _, _, _, _, _, _, _, _, _, _, _, _, _, _, _, _, _, _, _, _, _, _, _] 46 rfl dX11_parts_45 rfl (by decide) ?_
      refine R_aload_n 47 rfl dX11_parts_46 rfl ?_
      refine R_iconst 48 rfl dX11_parts_47 ?_
      refine R_bipush 50 rfl dX11_parts_48 (by decide) ?_
      refine R_iconst 51 rfl dX11_parts_50 ?_
      refine R_callV_V (M' := mX11_tally) 54 rfl dX11_parts_51 ml_X11_230 kmX11_tally im_X11_tally se_X11_tally rfl ⟨by decide, rfl⟩ (c_X11_tally _ _ _ 1 z37 rfl (by decide) (Or.inl rfl) ⟨by omega, by omega⟩) rfl rfl ⟨Nat.le_of_ble_eq_true rfl, Nat.le_of_ble_eq_true rfl⟩ (Nat.le_of_ble_eq_true rfl) ⟨Nat.le_of_ble_eq_true rfl, Nat.le_of_ble_eq_true rfl⟩ ?_
      rintro m51 h51
      obtain ⟨f51, z51, a51, -⟩ := h51
      rw [ty_N] at a51
      refine R_aload_n 55 rfl dX11_parts_54 rfl ?_
      refine R_getI 22 58 rfl dX11_parts_55 rfl rfl fl_X11_234 ?_
      rw [a51]
      refine R_i2l 59 rfl dX11_parts_58 (by first | assumption | exact ⟨by omega, by omega⟩) ?_
      refine R_lstore [_, _, _, _, _, _, _, _, _, _, _, _, _, _, _, _, _, _, _, _, _, _, _, _, _, _, _, _, _, _] 61 rfl dX11_parts_59 rfl (by decide) ?_
      refine R_lload_n 62 rfl dX11_parts_61 rfl ?_
      refine R_lconst 63 rfl dX11_parts_62 ?_
      refine R_topL (b := 0) rfl ?_
      refine R_lif_eq 64 67 74 rfl rfl rfl dX11_parts_63 dX11_parts_64 (by first | assumption | exact ⟨by omega, by omega⟩ | exact rg_L (by assumption)) (by first | assumption | exact ⟨by omega, by omega⟩ | exact rg_L (by assumption)) (fun h64 => ?_) (fun h64 => ?_)
      · refine R_ldc2 (-4) 77 rfl dX11_parts_74 kl_X11_302 (by decide) ?_
        refine R_lreturn dX11_parts_77 rfl ?_
        exact QL_mk ⟨by unfold a_parts; rw [if_pos (by omega), if_pos (by omega)], (f29.tr f37).tr f51, z51.1⟩
      · refine R_lload 69 rfl dX11_parts_67 rfl ?_
        refine R_lconst 70 rfl dX11_parts_69 ?_
        refine R_topL (b := 0) rfl ?_
        refine R_lif_ne 71 74 78 rfl rfl rfl dX11_parts_70 dX11_parts_71 (by first | assumption | exact ⟨by omega, by omega⟩ | exact rg_L (by assumption)) (by first | assumption | exact ⟨by omega, by omega⟩ | exact rg_L (by assumption)) (fun h71 => ?_) (fun h71 => ?_)
        · refine R_aload_n 79 rfl dX11_parts_78 rfl ?_
          refine R_callV_V (M' := mX11_nothing) 82 rfl dX11_parts_79 ml_X11_304 kmX11_nothing im_X11_nothing se_X11_nothing rfl ⟨by decide, rfl⟩ (c_X11_nothing z51.1.1) rfl rfl ⟨Nat.le_of_ble_eq_true rfl, Nat.le_of_ble_eq_true rfl⟩ (Nat.le_of_ble_eq_true rfl) ⟨Nat.le_of_ble_eq_true rfl, Nat.le_of_ble_eq_true rfl⟩ ?_
          rintro m79 h79
          obtain ⟨f79, r79⟩ := h79
          refine R_iconst 83 rfl dX11_parts_82 ?_
          refine R_istore [_, _, _, _, _, _, _, _, _, _, _, _, _, _, _, _, _, _, _, _, _, _, _, _, _, _, _, _, _, _] 85 rfl dX11_parts_83 rfl (by decide) ?_
          exact Lp (by omega) (by omega) (by omega) 0 (by omega) _ _ _ _ _ _ _ _ _ _ _ _ _ _ _ _ _ _ _ _ _ _ _ _ (((f29.tr f37).tr f51).tr f79.m) (f79.z z51) (RtM_0 r79 (ptD_rg hO (by omega) (by omega) (by omega)).1) rfl
        · refine R_ldc2 (-4) 77 rfl dX11_parts_74 kl_X11_302 (by decide) ?_
          refine R_lreturn dX11_parts_77 rfl ?_
          exact QL_mk ⟨by unfold a_parts; rw [if_pos (by omega), if_pos (by omega)], (f29.tr f37).tr f51, z51.1⟩
    · refine R_ldc2 (-1) 27 rfl dX11_parts_24 kl_X11_300 (by decide) ?_
      refine R_lreturn dX11_parts_27 rfl ?_
      exact QL_mk ⟨by unfold a_parts; rw [if_neg (by omega)], Fm.rf, hR⟩
end
