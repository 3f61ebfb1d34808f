theorem cnt_pI (p : Nat → Bool) (n : Nat) : (cnt p (n + 1) : Int) = cnt p n + pI (p n = true) := by
  by_cases h : p n = true
  · rw [cnt_y h, pI_t h]; omega
  · rw [cnt_n h, pI_f h]; omega
theorem pI_iff {c d : Prop} [Decidable c] (h : c ↔ d) : (d → pI c = 1) ∧ (¬ d → pI c = 0) := ⟨fun q => pI_t (h.mpr q), fun q => pI_f (fun w => q (h.mp w))⟩
section
variable {Γ : GX} {m m' : Mem} {B B' : Bk} {L : Ld} {ch ch' : Cs}
theorem c_X11_layLearnt (cz a b : Int) (c : Nat) (hR : RS L B ch m) (hc : cz = (c : Int)) (hc2 : c < 2) (ha : rg a) (hb : rg b) : C Γ mX11_layLearnt 7 280 0 0 [vr 96, vi cz, vi a, vi b] SH m (QV SH (fun m' => Fm m m' ∧ RZ L B ch m' ∧ m'.1 96 24 = (hml L B ch c a b 0 : Int) ∧ m'.1 96 25 = (hml L B ch c a b 1 : Int) ∧ m'.1 96 26 = (hml L B ch c a b 2 : Int) ∧ m'.1 96 27 = (hml L B ch c a b 3 : Int))) := by
  refine C_of_R rfl (Nat.le_of_ble_eq_true rfl) ?_
  have hO := hR.2.2.2.2.1
  have h3 := hO.1
  have hl := hR.2.2.1.1
  have Lp : ∀ j : Nat, j ≤ 2 * B.1 → ∀ jz m1 x1 x2 x3 x4 x5 x6, jz = (j : Int) → Fm m m1 → RZ L B ch m1 → m1.1 96 24 = (cnt (lnI L B ch c a b 0) j : Int) → m1.1 96 25 = (cnt (lnI L B ch c a b 1) j : Int) → m1.1 96 26 = (cnt (lnI L B ch c a b 2) j : Int) → m1.1 96 27 = (cnt (lnI L B ch c a b 3) j : Int) → R Γ mX11_layLearnt { frames := 7, cells := 0, slots := 0, locals := 280 } 0 0 (QV SH (fun m' => Fm m m' ∧ RZ L B ch m' ∧ m'.1 96 24 = (hml L B ch c a b 0 : Int) ∧ m'.1 96 25 = (hml L B ch c a b 1 : Int) ∧ m'.1 96 26 = (hml L B ch c a b 2 : Int) ∧ m'.1 96 27 = (hml L B ch c a b 3 : Int))) 0 0 27 [some (vr 96), some (vi cz), some (vi a), some (vi b), some (vi jz), x1, x2, x3, x4, x5, x6] [] SH m1 := by
    refine up_ind (2 * B.1) (fun j hj ih jz m1 x1 x2 x3 x4 x5 x6 hjz hf hZ h24 h25 h26 h27 => ?_)
    have hP := hZ.1.1
    have hW := hZ.w
    have r2 := hZ.1.2.1.1 2 (by omega)
    have r3 := hZ.1.2.1.1 3 (by omega)
    have r4 := hZ.1.2.1.1 4 (by omega)
    have c0 := cnt_pI (lnI L B ch c a b 0) j
    have c1 := cnt_pI (lnI L B ch c a b 1) j
    have c2 := cnt_pI (lnI L B ch c a b 2) j
    have c3 := cnt_pI (lnI L B ch c a b 3) j
    have key : ∀ (M : Mem) y1 y2 y3 y4 y5 y6, j < 2 * B.1 → Fm m M → RZ L B ch M → M.1 96 24 = m1.1 96 24 + pI (lnI L B ch c a b 0 j = true) → M.1 96 25 = m1.1 96 25 + pI (lnI L B ch c a b 1 j = true) → M.1 96 26 = m1.1 96 26 + pI (lnI L B ch c a b 2 j = true) → M.1 96 27 = m1.1 96 27 + pI (lnI L B ch c a b 3 j = true) → R Γ mX11_layLearnt { frames := 7, cells := 0, slots := 0, locals := 280 } 0 0 (QV SH (fun m' => Fm m m' ∧ RZ L B ch m' ∧ m'.1 96 24 = (hml L B ch c a b 0 : Int) ∧ m'.1 96 25 = (hml L B ch c a b 1 : Int) ∧ m'.1 96 26 = (hml L B ch c a b 2 : Int) ∧ m'.1 96 27 = (hml L B ch c a b 3 : Int))) 0 0 27 [some (vr 96), some (vi cz), some (vi a), some (vi b), some (vi (jz + 1)), y1, y2, y3, y4, y5, y6] [] SH M := fun M y1 y2 y3 y4 y5 y6 q1 q2 q3 q4 q5 q6 q7 => ih q1 _ _ _ _ _ _ _ _ (by omega) q2 q3 (by omega) (by omega) (by omega) (by omega)
    have L123 : j < 2 * B.1 → inC B ch c j = true → ∀ ag yr e l y5 y6, e = erl L B j → l = lat L B j → (-100 ≤ e ∧ e ≤ 200) → (-100 ≤ l ∧ l ≤ 200) → R Γ mX11_layLearnt { frames := 7, cells := 0, slots := 0, locals := 280 } 0 0 (QV SH (fun m' => Fm m m' ∧ RZ L B ch m' ∧ m'.1 96 24 = (hml L B ch c a b 0 : Int) ∧ m'.1 96 25 = (hml L B ch c a b 1 : Int) ∧ m'.1 96 26 = (hml L B ch c a b 2 : Int) ∧ m'.1 96 27 = (hml L B ch c a b 3 : Int))) 0 0 123 [some (vr 96), some (vi cz), some (vi a), some (vi b), some (vi jz), some (vi ag), some (vi yr), some (vi e), some (vi l), y5, y6] [] SH m1 := by
      intro hlt hin ag yr e l y5 y6 he hl2 re rl
      have lr : (a ≤ e ∧ l ≤ b → lrn L B a b j = 2) ∧ (¬ (a ≤ e ∧ l ≤ b) ∧ (e ≤ b ∧ a ≤ l) → lrn L B a b j = 1) ∧ (¬ (a ≤ e ∧ l ≤ b) ∧ ¬ (e ≤ b ∧ a ≤ l) → lrn L B a b j = 0) := by
        subst he
        subst hl2
        exact ⟨fun q => if_pos q, fun q => by unfold lrn; rw [if_neg q.1, if_pos q.2], fun q => by unfold lrn; rw [if_neg q.1, if_neg q.2]⟩
      have i0 := pI_iff (lnI_iff (L := L) (B := B) (ch := ch) (c := c) (k := j) (a := a) (b := b) (w := 0))
      have i1 := pI_iff (lnI_iff (L := L) (B := B) (ch := ch) (c := c) (k := j) (a := a) (b := b) (w := 1))
      have i2 := pI_iff (lnI_iff (L := L) (B := B) (ch := ch) (c := c) (k := j) (a := a) (b := b) (w := 2))
      have i3 := pI_iff (lnI_iff (L := L) (B := B) (ch := ch) (c := c) (k := j) (a := a) (b := b) (w := 3))
      simp only [hin, true_and] at i0 i1 i2 i3
      simp at i0 i1 i2 i3
      refine R_iload 125 rfl dX11_layLearnt_123 rfl ?_
      refine R_iload_n 126 rfl dX11_layLearnt_125 rfl ?_
      refine R_icmp_lt 129 139 rfl rfl dX11_layLearnt_126 (by first | assumption | exact ⟨by omega, by omega⟩) (by first | assumption | exact ⟨by omega, by omega⟩) (fun h126 => ?_) (fun h126 => ?_)
      · refine R_iconst 140 rfl dX11_layLearnt_139 ?_
        refine R_istore [_, _, _, _, _, _, _, _, _, _, _] 142 rfl dX11_layLearnt_140 rfl (by decide) ?_
        refine R_iload 144 rfl dX11_layLearnt_142 rfl ?_
        refine R_if_ne 147 163 rfl rfl dX11_layLearnt_144 (by first | assumption | exact ⟨by omega, by omega⟩) (fun h144 => ?_) (fun h144 => ?_)
        · exact absurd h144 (by omega)
        refine R_iload 149 rfl dX11_layLearnt_147 rfl ?_
        refine R_iload_n 150 rfl dX11_layLearnt_149 rfl ?_
        refine R_icmp_gt 153 163 rfl rfl dX11_layLearnt_150 (by first | assumption | exact ⟨by omega, by omega⟩) (by first | assumption | exact ⟨by omega, by omega⟩) (fun h150 => ?_) (fun h150 => ?_)
        · refine R_iconst 164 rfl dX11_layLearnt_163 ?_
          refine R_istore [_, _, _, _, _, _, _, _, _, _, _] 166 rfl dX11_layLearnt_164 rfl (by decide) ?_
          refine R_aload_n 167 rfl dX11_layLearnt_166 rfl ?_
          refine R_dup 168 rfl dX11_layLearnt_167 rfl ?_
          refine R_getI 24 171 rfl dX11_layLearnt_168 rfl rfl fl_X11_267 ?_
          refine R_iload 173 rfl dX11_layLearnt_171 rfl ?_
          refine R_if_eq 176 180 rfl rfl dX11_layLearnt_173 (by first | assumption | exact ⟨by omega, by omega⟩) (fun h173 => ?_) (fun h173 => ?_)
          rotate_left
          · exact absurd h173 (by omega)
          refine R_iconst 181 rfl dX11_layLearnt_180 ?_
          refine R_iadd 182 rfl dX11_layLearnt_181 ?_
          refine R_putI 24 185 rfl dX11_layLearnt_182 rfl rfl fl_X11_267 ?_
          refine R_aload_n 186 rfl dX11_layLearnt_185 rfl ?_
          refine R_dup 187 rfl dX11_layLearnt_186 rfl ?_
          refine R_getI 25 190 rfl dX11_layLearnt_187 rfl rfl fl_X11_270 ?_
          refine R_iload 192 rfl dX11_layLearnt_190 rfl ?_
          refine R_if_eq 195 199 rfl rfl dX11_layLearnt_192 (by first | assumption | exact ⟨by omega, by omega⟩) (fun h192 => ?_) (fun h192 => ?_)
          rotate_left
          · exact absurd h192 (by omega)
          refine R_iconst 200 rfl dX11_layLearnt_199 ?_
          refine R_iadd 201 rfl dX11_layLearnt_200 ?_
          refine R_putI 25 204 rfl dX11_layLearnt_201 rfl rfl fl_X11_270 ?_
          refine R_aload_n 205 rfl dX11_layLearnt_204 rfl ?_
          refine R_dup 206 rfl dX11_layLearnt_205 rfl ?_
          refine R_getI 26 209 rfl dX11_layLearnt_206 rfl rfl fl_X11_273 ?_
          refine R_iload 211 rfl dX11_layLearnt_209 rfl ?_
          refine R_if_eq 214 227 rfl rfl dX11_layLearnt_211 (by first | assumption | exact ⟨by omega, by omega⟩) (fun h211 => ?_) (fun h211 => ?_)
          rotate_left
          · exact absurd h211 (by omega)
          refine R_iconst 228 rfl dX11_layLearnt_227 ?_
          refine R_iadd 229 rfl dX11_layLearnt_228 ?_
          refine R_putI 26 232 rfl dX11_layLearnt_229 rfl rfl fl_X11_273 ?_
          refine R_aload_n 233 rfl dX11_layLearnt_232 rfl ?_
          refine R_dup 234 rfl dX11_layLearnt_233 rfl ?_
          refine R_getI 27 237 rfl dX11_layLearnt_234 rfl rfl fl_X11_276 ?_
          refine R_iload 239 rfl dX11_layLearnt_237 rfl ?_
          refine R_if_eq 242 255 rfl rfl dX11_layLearnt_239 (by first | assumption | exact ⟨by omega, by omega⟩) (fun h239 => ?_) (fun h239 => ?_)
          rotate_left
          · exact absurd h239 (by omega)
          refine R_iconst 256 rfl dX11_layLearnt_255 ?_
          refine R_iadd 257 rfl dX11_layLearnt_256 ?_
          refine R_putI 27 260 rfl dX11_layLearnt_257 rfl rfl fl_X11_276 ?_
          refine R_iinc [_, _, _, _, _, _, _, _, _, _, _] 263 rfl dX11_layLearnt_260 rfl rfl (by decide) ?_
          refine R_goto 27 rfl dX11_layLearnt_263 ?_
          refine key _ _ _ _ _ _ _ hlt ((((hf.f96 (by omega)).f96 (by omega)).f96 (by omega)).f96 (by omega)) ((((hZ.f96 (by omega)).f96 (by omega)).f96 (by omega)).f96 (by omega)) ?_ ?_ ?_ ?_
          all_goals simp [setI]
          all_goals first
            | omega
            | (simp only [h220, true_and, true_implies, not_true_eq_false, false_implies] at i2 i3; omega)
            | (simp only [h248, true_and, true_implies, not_true_eq_false, false_implies] at i2 i3; omega)
            | (have h9 : abl L B j = false := by simpa using h220
               simp [h9] at i2 i3; omega)
            | (have h9 : abl L B j = false := by simpa using h248
               simp [h9] at i2 i3; omega)
            | (by_cases h9 : abl L B j = true
               · simp [h9] at i2 i3; omega
               · simp [h9] at i2 i3; omega)
        · refine R_iload 155 rfl dX11_layLearnt_153 rfl ?_
          refine R_iload_n 156 rfl dX11_layLearnt_155 rfl ?_
          refine R_icmp_lt 159 163 rfl rfl dX11_layLearnt_156 (by first | assumption | exact ⟨by omega, by omega⟩) (by first | assumption | exact ⟨by omega, by omega⟩) (fun h156 => ?_) (fun h156 => ?_)
          · refine R_iconst 164 rfl dX11_layLearnt_163 ?_
            refine R_istore [_, _, _, _, _, _, _, _, _, _, _] 166 rfl dX11_layLearnt_164 rfl (by decide) ?_
            refine R_aload_n 167 rfl dX11_layLearnt_166 rfl ?_
            refine R_dup 168 rfl dX11_layLearnt_167 rfl ?_
            refine R_getI 24 171 rfl dX11_layLearnt_168 rfl rfl fl_X11_267 ?_
            refine R_iload 173 rfl dX11_layLearnt_171 rfl ?_
            refine R_if_eq 176 180 rfl rfl dX11_layLearnt_173 (by first | assumption | exact ⟨by omega, by omega⟩) (fun h173 => ?_) (fun h173 => ?_)
            rotate_left
            · exact absurd h173 (by omega)
            refine R_iconst 181 rfl dX11_layLearnt_180 ?_
            refine R_iadd 182 rfl dX11_layLearnt_181 ?_
            refine R_putI 24 185 rfl dX11_layLearnt_182 rfl rfl fl_X11_267 ?_
            refine R_aload_n 186 rfl dX11_layLearnt_185 rfl ?_
            refine R_dup 187 rfl dX11_layLearnt_186 rfl ?_
            refine R_getI 25 190 rfl dX11_layLearnt_187 rfl rfl fl_X11_270 ?_
            refine R_iload 192 rfl dX11_layLearnt_190 rfl ?_
            refine R_if_eq 195 199 rfl rfl dX11_layLearnt_192 (by first | assumption | exact ⟨by omega, by omega⟩) (fun h192 => ?_) (fun h192 => ?_)
            rotate_left
            · exact absurd h192 (by omega)
            refine R_iconst 200 rfl dX11_layLearnt_199 ?_
            refine R_iadd 201 rfl dX11_layLearnt_200 ?_
            refine R_putI 25 204 rfl dX11_layLearnt_201 rfl rfl fl_X11_270 ?_
            refine R_aload_n 205 rfl dX11_layLearnt_204 rfl ?_
            refine R_dup 206 rfl dX11_layLearnt_205 rfl ?_
            refine R_getI 26 209 rfl dX11_layLearnt_206 rfl rfl fl_X11_273 ?_
            refine R_iload 211 rfl dX11_layLearnt_209 rfl ?_
            refine R_if_eq 214 227 rfl rfl dX11_layLearnt_211 (by first | assumption | exact ⟨by omega, by omega⟩) (fun h211 => ?_) (fun h211 => ?_)
            rotate_left
            · exact absurd h211 (by omega)
            refine R_iconst 228 rfl dX11_layLearnt_227 ?_
            refine R_iadd 229 rfl dX11_layLearnt_228 ?_
            refine R_putI 26 232 rfl dX11_layLearnt_229 rfl rfl fl_X11_273 ?_
            refine R_aload_n 233 rfl dX11_layLearnt_232 rfl ?_
            refine R_dup 234 rfl dX11_layLearnt_233 rfl ?_
            refine R_getI 27 237 rfl dX11_layLearnt_234 rfl rfl fl_X11_276 ?_
            refine R_iload 239 rfl dX11_layLearnt_237 rfl ?_
            refine R_if_eq 242 255 rfl rfl dX11_layLearnt_239 (by first | assumption | exact ⟨by omega, by omega⟩) (fun h239 => ?_) (fun h239 => ?_)
            rotate_left
            · exact absurd h239 (by omega)
            refine R_iconst 256 rfl dX11_layLearnt_255 ?_
            refine R_iadd 257 rfl dX11_layLearnt_256 ?_
            refine R_putI 27 260 rfl dX11_layLearnt_257 rfl rfl fl_X11_276 ?_
            refine R_iinc [_, _, _, _, _, _, _, _, _, _, _] 263 rfl dX11_layLearnt_260 rfl rfl (by decide) ?_
            refine R_goto 27 rfl dX11_layLearnt_263 ?_
            refine key _ _ _ _ _ _ _ hlt ((((hf.f96 (by omega)).f96 (by omega)).f96 (by omega)).f96 (by omega)) ((((hZ.f96 (by omega)).f96 (by omega)).f96 (by omega)).f96 (by omega)) ?_ ?_ ?_ ?_
            all_goals simp [setI]
            all_goals first
              | omega
              | (simp only [h220, true_and, true_implies, not_true_eq_false, false_implies] at i2 i3; omega)
              | (simp only [h248, true_and, true_implies, not_true_eq_false, false_implies] at i2 i3; omega)
              | (have h9 : abl L B j = false := by simpa using h220
                 simp [h9] at i2 i3; omega)
              | (have h9 : abl L B j = false := by simpa using h248
                 simp [h9] at i2 i3; omega)
              | (by_cases h9 : abl L B j = true
                 · simp [h9] at i2 i3; omega
                 · simp [h9] at i2 i3; omega)
          · refine R_iconst 160 rfl dX11_layLearnt_159 ?_
            refine R_goto 164 rfl dX11_layLearnt_160 ?_
            refine R_istore [_, _, _, _, _, _, _, _, _, _, _] 166 rfl dX11_layLearnt_164 rfl (by decide) ?_
            refine R_aload_n 167 rfl dX11_layLearnt_166 rfl ?_
            refine R_dup 168 rfl dX11_layLearnt_167 rfl ?_
            refine R_getI 24 171 rfl dX11_layLearnt_168 rfl rfl fl_X11_267 ?_
            refine R_iload 173 rfl dX11_layLearnt_171 rfl ?_
            refine R_if_eq 176 180 rfl rfl dX11_layLearnt_173 (by first | assumption | exact ⟨by omega, by omega⟩) (fun h173 => ?_) (fun h173 => ?_)
            rotate_left
            · exact absurd h173 (by omega)
            refine R_iconst 181 rfl dX11_layLearnt_180 ?_
            refine R_iadd 182 rfl dX11_layLearnt_181 ?_
            refine R_putI 24 185 rfl dX11_layLearnt_182 rfl rfl fl_X11_267 ?_
            refine R_aload_n 186 rfl dX11_layLearnt_185 rfl ?_
            refine R_dup 187 rfl dX11_layLearnt_186 rfl ?_
            refine R_getI 25 190 rfl dX11_layLearnt_187 rfl rfl fl_X11_270 ?_
            refine R_iload 192 rfl dX11_layLearnt_190 rfl ?_
            refine R_if_eq 195 199 rfl rfl dX11_layLearnt_192 (by first | assumption | exact ⟨by omega, by omega⟩) (fun h192 => ?_) (fun h192 => ?_)
            · exact absurd h192 (by omega)
            refine R_iconst 196 rfl dX11_layLearnt_195 ?_
            refine R_goto 200 rfl dX11_layLearnt_196 ?_
            refine R_iadd 201 rfl dX11_layLearnt_200 ?_
            refine R_putI 25 204 rfl dX11_layLearnt_201 rfl rfl fl_X11_270 ?_
            refine R_aload_n 205 rfl dX11_layLearnt_204 rfl ?_
            refine R_dup 206 rfl dX11_layLearnt_205 rfl ?_
            refine R_getI 26 209 rfl dX11_layLearnt_206 rfl rfl fl_X11_273 ?_
            refine R_iload 211 rfl dX11_layLearnt_209 rfl ?_
            refine R_if_eq 214 227 rfl rfl dX11_layLearnt_211 (by first | assumption | exact ⟨by omega, by omega⟩) (fun h211 => ?_) (fun h211 => ?_)
            rotate_left
            · exact absurd h211 (by omega)
            refine R_iconst 228 rfl dX11_layLearnt_227 ?_
            refine R_iadd 229 rfl dX11_layLearnt_228 ?_
            refine R_putI 26 232 rfl dX11_layLearnt_229 rfl rfl fl_X11_273 ?_
            refine R_aload_n 233 rfl dX11_layLearnt_232 rfl ?_
            refine R_dup 234 rfl dX11_layLearnt_233 rfl ?_
            refine R_getI 27 237 rfl dX11_layLearnt_234 rfl rfl fl_X11_276 ?_
            refine R_iload 239 rfl dX11_layLearnt_237 rfl ?_
            refine R_if_eq 242 255 rfl rfl dX11_layLearnt_239 (by first | assumption | exact ⟨by omega, by omega⟩) (fun h239 => ?_) (fun h239 => ?_)
            · exact absurd h239 (by omega)
            refine R_aload_n 243 rfl dX11_layLearnt_242 rfl ?_
            refine R_iload 245 rfl dX11_layLearnt_243 rfl ?_
            refine R_callV_i (M' := mX11_isAble) 248 rfl dX11_layLearnt_245 ml_X11_246 kmX11_isAble im_X11_isAble se_X11_isAble rfl ⟨by decide, rfl⟩ (c_X11_isAble _ j (((hZ.f96 (by omega)).f96 (by omega)).f96 (by omega)) (by omega) hlt) rfl rfl ⟨Nat.le_of_ble_eq_true rfl, Nat.le_of_ble_eq_true rfl⟩ (Nat.le_of_ble_eq_true rfl) ⟨Nat.le_of_ble_eq_true rfl, Nat.le_of_ble_eq_true rfl⟩ ?_
            refine R_ifp_eq 251 255 rfl rfl dX11_layLearnt_248 (fun h248 => ?_) (fun h248 => ?_)
            · refine R_iconst 256 rfl dX11_layLearnt_255 ?_
              refine R_iadd 257 rfl dX11_layLearnt_256 ?_
              refine R_putI 27 260 rfl dX11_layLearnt_257 rfl rfl fl_X11_276 ?_
              refine R_iinc [_, _, _, _, _, _, _, _, _, _, _] 263 rfl dX11_layLearnt_260 rfl rfl (by decide) ?_
              refine R_goto 27 rfl dX11_layLearnt_263 ?_
              refine key _ _ _ _ _ _ _ hlt ((((hf.f96 (by omega)).f96 (by omega)).f96 (by omega)).f96 (by omega)) ((((hZ.f96 (by omega)).f96 (by omega)).f96 (by omega)).f96 (by omega)) ?_ ?_ ?_ ?_
              all_goals simp [setI]
              all_goals first
                | omega
                | (simp only [h220, true_and, true_implies, not_true_eq_false, false_implies] at i2 i3; omega)
                | (simp only [h248, true_and, true_implies, not_true_eq_false, false_implies] at i2 i3; omega)
                | (have h9 : abl L B j = false := by simpa using h220
                   simp [h9] at i2 i3; omega)
                | (have h9 : abl L B j = false := by simpa using h248
                   simp [h9] at i2 i3; omega)
                | (by_cases h9 : abl L B j = true
                   · simp [h9] at i2 i3; omega
                   · simp [h9] at i2 i3; omega)
            · refine R_iconst 252 rfl dX11_layLearnt_251 ?_
              refine R_goto 256 rfl dX11_layLearnt_252 ?_
              refine R_iadd 257 rfl dX11_layLearnt_256 ?_
              refine R_putI 27 260 rfl dX11_layLearnt_257 rfl rfl fl_X11_276 ?_
              refine R_iinc [_, _, _, _, _, _, _, _, _, _, _] 263 rfl dX11_layLearnt_260 rfl rfl (by decide) ?_
              refine R_goto 27 rfl dX11_layLearnt_263 ?_
              refine key _ _ _ _ _ _ _ hlt ((((hf.f96 (by omega)).f96 (by omega)).f96 (by omega)).f96 (by omega)) ((((hZ.f96 (by omega)).f96 (by omega)).f96 (by omega)).f96 (by omega)) ?_ ?_ ?_ ?_
              all_goals simp [setI]
              all_goals first
                | omega
                | (simp only [h220, true_and, true_implies, not_true_eq_false, false_implies] at i2 i3; omega)
                | (simp only [h248, true_and, true_implies, not_true_eq_false, false_implies] at i2 i3; omega)
                | (have h9 : abl L B j = false := by simpa using h220
                   simp [h9] at i2 i3; omega)
                | (have h9 : abl L B j = false := by simpa using h248
                   simp [h9] at i2 i3; omega)
                | (by_cases h9 : abl L B j = true
                   · simp [h9] at i2 i3; omega
                   · simp [h9] at i2 i3; omega)
      · refine R_iload 131 rfl dX11_layLearnt_129 rfl ?_
        refine R_iload_n 132 rfl dX11_layLearnt_131 rfl ?_
        refine R_icmp_gt 135 139 rfl rfl dX11_layLearnt_132 (by first | assumption | exact ⟨by omega, by omega⟩) (by first | assumption | exact ⟨by omega, by omega⟩) (fun h132 => ?_) (fun h132 => ?_)
        · refine R_iconst 140 rfl dX11_layLearnt_139 ?_
          refine R_istore [_, _, _, _, _, _, _, _, _, _, _] 142 rfl dX11_layLearnt_140 rfl (by decide) ?_
          refine R_iload 144 rfl dX11_layLearnt_142 rfl ?_
          refine R_if_ne 147 163 rfl rfl dX11_layLearnt_144 (by first | assumption | exact ⟨by omega, by omega⟩) (fun h144 => ?_) (fun h144 => ?_)
          · exact absurd h144 (by omega)
          refine R_iload 149 rfl dX11_layLearnt_147 rfl ?_
          refine R_iload_n 150 rfl dX11_layLearnt_149 rfl ?_
          refine R_icmp_gt 153 163 rfl rfl dX11_layLearnt_150 (by first | assumption | exact ⟨by omega, by omega⟩) (by first | assumption | exact ⟨by omega, by omega⟩) (fun h150 => ?_) (fun h150 => ?_)
          · refine R_iconst 164 rfl dX11_layLearnt_163 ?_
            refine R_istore [_, _, _, _, _, _, _, _, _, _, _] 166 rfl dX11_layLearnt_164 rfl (by decide) ?_
            refine R_aload_n 167 rfl dX11_layLearnt_166 rfl ?_
            refine R_dup 168 rfl dX11_layLearnt_167 rfl ?_
            refine R_getI 24 171 rfl dX11_layLearnt_168 rfl rfl fl_X11_267 ?_
            refine R_iload 173 rfl dX11_layLearnt_171 rfl ?_
            refine R_if_eq 176 180 rfl rfl dX11_layLearnt_173 (by first | assumption | exact ⟨by omega, by omega⟩) (fun h173 => ?_) (fun h173 => ?_)
            rotate_left
            · exact absurd h173 (by omega)
            refine R_iconst 181 rfl dX11_layLearnt_180 ?_
            refine R_iadd 182 rfl dX11_layLearnt_181 ?_
            refine R_putI 24 185 rfl dX11_layLearnt_182 rfl rfl fl_X11_267 ?_
            refine R_aload_n 186 rfl dX11_layLearnt_185 rfl ?_
            refine R_dup 187 rfl dX11_layLearnt_186 rfl ?_
            refine R_getI 25 190 rfl dX11_layLearnt_187 rfl rfl fl_X11_270 ?_
            refine R_iload 192 rfl dX11_layLearnt_190 rfl ?_
            refine R_if_eq 195 199 rfl rfl dX11_layLearnt_192 (by first | assumption | exact ⟨by omega, by omega⟩) (fun h192 => ?_) (fun h192 => ?_)
            rotate_left
            · exact absurd h192 (by omega)
            refine R_iconst 200 rfl dX11_layLearnt_199 ?_
            refine R_iadd 201 rfl dX11_layLearnt_200 ?_
            refine R_putI 25 204 rfl dX11_layLearnt_201 rfl rfl fl_X11_270 ?_
            refine R_aload_n 205 rfl dX11_layLearnt_204 rfl ?_
            refine R_dup 206 rfl dX11_layLearnt_205 rfl ?_
            refine R_getI 26 209 rfl dX11_layLearnt_206 rfl rfl fl_X11_273 ?_
            refine R_iload 211 rfl dX11_layLearnt_209 rfl ?_
            refine R_if_eq 214 227 rfl rfl dX11_layLearnt_211 (by first | assumption | exact ⟨by omega, by omega⟩) (fun h211 => ?_) (fun h211 => ?_)
            rotate_left
            · exact absurd h211 (by omega)
            refine R_iconst 228 rfl dX11_layLearnt_227 ?_
            refine R_iadd 229 rfl dX11_layLearnt_228 ?_
            refine R_putI 26 232 rfl dX11_layLearnt_229 rfl rfl fl_X11_273 ?_
            refine R_aload_n 233 rfl dX11_layLearnt_232 rfl ?_
            refine R_dup 234 rfl dX11_layLearnt_233 rfl ?_
            refine R_getI 27 237 rfl dX11_layLearnt_234 rfl rfl fl_X11_276 ?_
            refine R_iload 239 rfl dX11_layLearnt_237 rfl ?_
            refine R_if_eq 242 255 rfl rfl dX11_layLearnt_239 (by first | assumption | exact ⟨by omega, by omega⟩) (fun h239 => ?_) (fun h239 => ?_)
            rotate_left
            · exact absurd h239 (by omega)
            refine R_iconst 256 rfl dX11_layLearnt_255 ?_
            refine R_iadd 257 rfl dX11_layLearnt_256 ?_
            refine R_putI 27 260 rfl dX11_layLearnt_257 rfl rfl fl_X11_276 ?_
            refine R_iinc [_, _, _, _, _, _, _, _, _, _, _] 263 rfl dX11_layLearnt_260 rfl rfl (by decide) ?_
            refine R_goto 27 rfl dX11_layLearnt_263 ?_
            refine key _ _ _ _ _ _ _ hlt ((((hf.f96 (by omega)).f96 (by omega)).f96 (by omega)).f96 (by omega)) ((((hZ.f96 (by omega)).f96 (by omega)).f96 (by omega)).f96 (by omega)) ?_ ?_ ?_ ?_
            all_goals simp [setI]
            all_goals first
              | omega
              | (simp only [h220, true_and, true_implies, not_true_eq_false, false_implies] at i2 i3; omega)
              | (simp only [h248, true_and, true_implies, not_true_eq_false, false_implies] at i2 i3; omega)
              | (have h9 : abl L B j = false := by simpa using h220
                 simp [h9] at i2 i3; omega)
              | (have h9 : abl L B j = false := by simpa using h248
                 simp [h9] at i2 i3; omega)
              | (by_cases h9 : abl L B j = true
                 · simp [h9] at i2 i3; omega
                 · simp [h9] at i2 i3; omega)
          · refine R_iload 155 rfl dX11_layLearnt_153 rfl ?_
            refine R_iload_n 156 rfl dX11_layLearnt_155 rfl ?_
            refine R_icmp_lt 159 163 rfl rfl dX11_layLearnt_156 (by first | assumption | exact ⟨by omega, by omega⟩) (by first | assumption | exact ⟨by omega, by omega⟩) (fun h156 => ?_) (fun h156 => ?_)
            · refine R_iconst 164 rfl dX11_layLearnt_163 ?_
              refine R_istore [_, _, _, _, _, _, _, _, _, _, _] 166 rfl dX11_layLearnt_164 rfl (by decide) ?_
              refine R_aload_n 167 rfl dX11_layLearnt_166 rfl ?_
              refine R_dup 168 rfl dX11_layLearnt_167 rfl ?_
              refine R_getI 24 171 rfl dX11_layLearnt_168 rfl rfl fl_X11_267 ?_
              refine R_iload 173 rfl dX11_layLearnt_171 rfl ?_
              refine R_if_eq 176 180 rfl rfl dX11_layLearnt_173 (by first | assumption | exact ⟨by omega, by omega⟩) (fun h173 => ?_) (fun h173 => ?_)
              rotate_left
              · exact absurd h173 (by omega)
              refine R_iconst 181 rfl dX11_layLearnt_180 ?_
              refine R_iadd 182 rfl dX11_layLearnt_181 ?_
              refine R_putI 24 185 rfl dX11_layLearnt_182 rfl rfl fl_X11_267 ?_
              refine R_aload_n 186 rfl dX11_layLearnt_185 rfl ?_
              refine R_dup 187 rfl dX11_layLearnt_186 rfl ?_
              refine R_getI 25 190 rfl dX11_layLearnt_187 rfl rfl fl_X11_270 ?_
              refine R_iload 192 rfl dX11_layLearnt_190 rfl ?_
              refine R_if_eq 195 199 rfl rfl dX11_layLearnt_192 (by first | assumption | exact ⟨by omega, by omega⟩) (fun h192 => ?_) (fun h192 => ?_)
              rotate_left
              · exact absurd h192 (by omega)
              refine R_iconst 200 rfl dX11_layLearnt_199 ?_
              refine R_iadd 201 rfl dX11_layLearnt_200 ?_
              refine R_putI 25 204 rfl dX11_layLearnt_201 rfl rfl fl_X11_270 ?_
              refine R_aload_n 205 rfl dX11_layLearnt_204 rfl ?_
              refine R_dup 206 rfl dX11_layLearnt_205 rfl ?_
              refine R_getI 26 209 rfl dX11_layLearnt_206 rfl rfl fl_X11_273 ?_
              refine R_iload 211 rfl dX11_layLearnt_209 rfl ?_
              refine R_if_eq 214 227 rfl rfl dX11_layLearnt_211 (by first | assumption | exact ⟨by omega, by omega⟩) (fun h211 => ?_) (fun h211 => ?_)
              rotate_left
              · exact absurd h211 (by omega)
              refine R_iconst 228 rfl dX11_layLearnt_227 ?_
              refine R_iadd 229 rfl dX11_layLearnt_228 ?_
              refine R_putI 26 232 rfl dX11_layLearnt_229 rfl rfl fl_X11_273 ?_
              refine R_aload_n 233 rfl dX11_layLearnt_232 rfl ?_
              refine R_dup 234 rfl dX11_layLearnt_233 rfl ?_
              refine R_getI 27 237 rfl dX11_layLearnt_234 rfl rfl fl_X11_276 ?_
              refine R_iload 239 rfl dX11_layLearnt_237 rfl ?_
              refine R_if_eq 242 255 rfl rfl dX11_layLearnt_239 (by first | assumption | exact ⟨by omega, by omega⟩) (fun h239 => ?_) (fun h239 => ?_)
              rotate_left
              · exact absurd h239 (by omega)
              refine R_iconst 256 rfl dX11_layLearnt_255 ?_
              refine R_iadd 257 rfl dX11_layLearnt_256 ?_
              refine R_putI 27 260 rfl dX11_layLearnt_257 rfl rfl fl_X11_276 ?_
              refine R_iinc [_, _, _, _, _, _, _, _, _, _, _] 263 rfl dX11_layLearnt_260 rfl rfl (by decide) ?_
              refine R_goto 27 rfl dX11_layLearnt_263 ?_
              refine key _ _ _ _ _ _ _ hlt ((((hf.f96 (by omega)).f96 (by omega)).f96 (by omega)).f96 (by omega)) ((((hZ.f96 (by omega)).f96 (by omega)).f96 (by omega)).f96 (by omega)) ?_ ?_ ?_ ?_
              all_goals simp [setI]
              all_goals first
                | omega
                | (simp only [h220, true_and, true_implies, not_true_eq_false, false_implies] at i2 i3; omega)
                | (simp only [h248, true_and, true_implies, not_true_eq_false, false_implies] at i2 i3; omega)
                | (have h9 : abl L B j = false := by simpa using h220
                   simp [h9] at i2 i3; omega)
                | (have h9 : abl L B j = false := by simpa using h248
                   simp [h9] at i2 i3; omega)
                | (by_cases h9 : abl L B j = true
                   · simp [h9] at i2 i3; omega
                   · simp [h9] at i2 i3; omega)
            · refine R_iconst 160 rfl dX11_layLearnt_159 ?_
              refine R_goto 164 rfl dX11_layLearnt_160 ?_
              refine R_istore [_, _, _, _, _, _, _, _, _, _, _] 166 rfl dX11_layLearnt_164 rfl (by decide) ?_
              refine R_aload_n 167 rfl dX11_layLearnt_166 rfl ?_
              refine R_dup 168 rfl dX11_layLearnt_167 rfl ?_
              refine R_getI 24 171 rfl dX11_layLearnt_168 rfl rfl fl_X11_267 ?_
              refine R_iload 173 rfl dX11_layLearnt_171 rfl ?_
              refine R_if_eq 176 180 rfl rfl dX11_layLearnt_173 (by first | assumption | exact ⟨by omega, by omega⟩) (fun h173 => ?_) (fun h173 => ?_)
              rotate_left
              · exact absurd h173 (by omega)
              refine R_iconst 181 rfl dX11_layLearnt_180 ?_
              refine R_iadd 182 rfl dX11_layLearnt_181 ?_
              refine R_putI 24 185 rfl dX11_layLearnt_182 rfl rfl fl_X11_267 ?_
              refine R_aload_n 186 rfl dX11_layLearnt_185 rfl ?_
              refine R_dup 187 rfl dX11_layLearnt_186 rfl ?_
              refine R_getI 25 190 rfl dX11_layLearnt_187 rfl rfl fl_X11_270 ?_
              refine R_iload 192 rfl dX11_layLearnt_190 rfl ?_
              refine R_if_eq 195 199 rfl rfl dX11_layLearnt_192 (by first | assumption | exact ⟨by omega, by omega⟩) (fun h192 => ?_) (fun h192 => ?_)
              · exact absurd h192 (by omega)
              refine R_iconst 196 rfl dX11_layLearnt_195 ?_
              refine R_goto 200 rfl dX11_layLearnt_196 ?_
              refine R_iadd 201 rfl dX11_layLearnt_200 ?_
              refine R_putI 25 204 rfl dX11_layLearnt_201 rfl rfl fl_X11_270 ?_
              refine R_aload_n 205 rfl dX11_layLearnt_204 rfl ?_
              refine R_dup 206 rfl dX11_layLearnt_205 rfl ?_
              refine R_getI 26 209 rfl dX11_layLearnt_206 rfl rfl fl_X11_273 ?_
              refine R_iload 211 rfl dX11_layLearnt_209 rfl ?_
              refine R_if_eq 214 227 rfl rfl dX11_layLearnt_211 (by first | assumption | exact ⟨by omega, by omega⟩) (fun h211 => ?_) (fun h211 => ?_)
              rotate_left
              · exact absurd h211 (by omega)
              refine R_iconst 228 rfl dX11_layLearnt_227 ?_
              refine R_iadd 229 rfl dX11_layLearnt_228 ?_
              refine R_putI 26 232 rfl dX11_layLearnt_229 rfl rfl fl_X11_273 ?_
              refine R_aload_n 233 rfl dX11_layLearnt_232 rfl ?_
              refine R_dup 234 rfl dX11_layLearnt_233 rfl ?_
              refine R_getI 27 237 rfl dX11_layLearnt_234 rfl rfl fl_X11_276 ?_
              refine R_iload 239 rfl dX11_layLearnt_237 rfl ?_
              refine R_if_eq 242 255 rfl rfl dX11_layLearnt_239 (by first | assumption | exact ⟨by omega, by omega⟩) (fun h239 => ?_) (fun h239 => ?_)
              · exact absurd h239 (by omega)
              refine R_aload_n 243 rfl dX11_layLearnt_242 rfl ?_
              refine R_iload 245 rfl dX11_layLearnt_243 rfl ?_
              refine R_callV_i (M' := mX11_isAble) 248 rfl dX11_layLearnt_245 ml_X11_246 kmX11_isAble im_X11_isAble se_X11_isAble rfl ⟨by decide, rfl⟩ (c_X11_isAble _ j (((hZ.f96 (by omega)).f96 (by omega)).f96 (by omega)) (by omega) hlt) rfl rfl ⟨Nat.le_of_ble_eq_true rfl, Nat.le_of_ble_eq_true rfl⟩ (Nat.le_of_ble_eq_true rfl) ⟨Nat.le_of_ble_eq_true rfl, Nat.le_of_ble_eq_true rfl⟩ ?_
              refine R_ifp_eq 251 255 rfl rfl dX11_layLearnt_248 (fun h248 => ?_) (fun h248 => ?_)
              · refine R_iconst 256 rfl dX11_layLearnt_255 ?_
                refine R_iadd 257 rfl dX11_layLearnt_256 ?_
                refine R_putI 27 260 rfl dX11_layLearnt_257 rfl rfl fl_X11_276 ?_
                refine R_iinc [_, _, _, _, _, _, _, _, _, _, _] 263 rfl dX11_layLearnt_260 rfl rfl (by decide) ?_
                refine R_goto 27 rfl dX11_layLearnt_263 ?_
                refine key _ _ _ _ _ _ _ hlt ((((hf.f96 (by omega)).f96 (by omega)).f96 (by omega)).f96 (by omega)) ((((hZ.f96 (by omega)).f96 (by omega)).f96 (by omega)).f96 (by omega)) ?_ ?_ ?_ ?_
                all_goals simp [setI]
                all_goals first
                  | omega
                  | (simp only [h220, true_and, true_implies, not_true_eq_false, false_implies] at i2 i3; omega)
                  | (simp only [h248, true_and, true_implies, not_true_eq_false, false_implies] at i2 i3; omega)
                  | (have h9 : abl L B j = false := by simpa using h220
                     simp [h9] at i2 i3; omega)
                  | (have h9 : abl L B j = false := by simpa using h248
                     simp [h9] at i2 i3; omega)
                  | (by_cases h9 : abl L B j = true
                     · simp [h9] at i2 i3; omega
                     · simp [h9] at i2 i3; omega)
              · refine R_iconst 252 rfl dX11_layLearnt_251 ?_
                refine R_goto 256 rfl dX11_layLearnt_252 ?_
                refine R_iadd 257 rfl dX11_layLearnt_256 ?_
                refine R_putI 27 260 rfl dX11_layLearnt_257 rfl rfl fl_X11_276 ?_
                refine R_iinc [_, _, _, _, _, _, _, _, _, _, _] 263 rfl dX11_layLearnt_260 rfl rfl (by decide) ?_
                refine R_goto 27 rfl dX11_layLearnt_263 ?_
                refine key _ _ _ _ _ _ _ hlt ((((hf.f96 (by omega)).f96 (by omega)).f96 (by omega)).f96 (by omega)) ((((hZ.f96 (by omega)).f96 (by omega)).f96 (by omega)).f96 (by omega)) ?_ ?_ ?_ ?_
                all_goals simp [setI]
                all_goals first
                  | omega
                  | (simp only [h220, true_and, true_implies, not_true_eq_false, false_implies] at i2 i3; omega)
                  | (simp only [h248, true_and, true_implies, not_true_eq_false, false_implies] at i2 i3; omega)
                  | (have h9 : abl L B j = false := by simpa using h220
                     simp [h9] at i2 i3; omega)
                  | (have h9 : abl L B j = false := by simpa using h248
                     simp [h9] at i2 i3; omega)
                  | (by_cases h9 : abl L B j = true
                     · simp [h9] at i2 i3; omega
                     · simp [h9] at i2 i3; omega)
        · refine R_iconst 136 rfl dX11_layLearnt_135 ?_
          refine R_goto 140 rfl dX11_layLearnt_136 ?_
          refine R_istore [_, _, _, _, _, _, _, _, _, _, _] 142 rfl dX11_layLearnt_140 rfl (by decide) ?_
          refine R_iload 144 rfl dX11_layLearnt_142 rfl ?_
          refine R_if_ne 147 163 rfl rfl dX11_layLearnt_144 (by first | assumption | exact ⟨by omega, by omega⟩) (fun h144 => ?_) (fun h144 => ?_)
          rotate_left
          · exact absurd h144 (by omega)
          refine R_iconst 164 rfl dX11_layLearnt_163 ?_
          refine R_istore [_, _, _, _, _, _, _, _, _, _, _] 166 rfl dX11_layLearnt_164 rfl (by decide) ?_
          refine R_aload_n 167 rfl dX11_layLearnt_166 rfl ?_
          refine R_dup 168 rfl dX11_layLearnt_167 rfl ?_
          refine R_getI 24 171 rfl dX11_layLearnt_168 rfl rfl fl_X11_267 ?_
          refine R_iload 173 rfl dX11_layLearnt_171 rfl ?_
          refine R_if_eq 176 180 rfl rfl dX11_layLearnt_173 (by first | assumption | exact ⟨by omega, by omega⟩) (fun h173 => ?_) (fun h173 => ?_)
          · exact absurd h173 (by omega)
          refine R_iconst 177 rfl dX11_layLearnt_176 ?_
          refine R_goto 181 rfl dX11_layLearnt_177 ?_
          refine R_iadd 182 rfl dX11_layLearnt_181 ?_
          refine R_putI 24 185 rfl dX11_layLearnt_182 rfl rfl fl_X11_267 ?_
          refine R_aload_n 186 rfl dX11_layLearnt_185 rfl ?_
          refine R_dup 187 rfl dX11_layLearnt_186 rfl ?_
          refine R_getI 25 190 rfl dX11_layLearnt_187 rfl rfl fl_X11_270 ?_
          refine R_iload 192 rfl dX11_layLearnt_190 rfl ?_
          refine R_if_eq 195 199 rfl rfl dX11_layLearnt_192 (by first | assumption | exact ⟨by omega, by omega⟩) (fun h192 => ?_) (fun h192 => ?_)
          rotate_left
          · exact absurd h192 (by omega)
          refine R_iconst 200 rfl dX11_layLearnt_199 ?_
          refine R_iadd 201 rfl dX11_layLearnt_200 ?_
          refine R_putI 25 204 rfl dX11_layLearnt_201 rfl rfl fl_X11_270 ?_
          refine R_aload_n 205 rfl dX11_layLearnt_204 rfl ?_
          refine R_dup 206 rfl dX11_layLearnt_205 rfl ?_
          refine R_getI 26 209 rfl dX11_layLearnt_206 rfl rfl fl_X11_273 ?_
          refine R_iload 211 rfl dX11_layLearnt_209 rfl ?_
          refine R_if_eq 214 227 rfl rfl dX11_layLearnt_211 (by first | assumption | exact ⟨by omega, by omega⟩) (fun h211 => ?_) (fun h211 => ?_)
          · exact absurd h211 (by omega)
          refine R_aload_n 215 rfl dX11_layLearnt_214 rfl ?_
          refine R_iload 217 rfl dX11_layLearnt_215 rfl ?_
          refine R_callV_i (M' := mX11_isAble) 220 rfl dX11_layLearnt_217 ml_X11_246 kmX11_isAble im_X11_isAble se_X11_isAble rfl ⟨by decide, rfl⟩ (c_X11_isAble _ j ((hZ.f96 (by omega)).f96 (by omega)) (by omega) hlt) rfl rfl ⟨Nat.le_of_ble_eq_true rfl, Nat.le_of_ble_eq_true rfl⟩ (Nat.le_of_ble_eq_true rfl) ⟨Nat.le_of_ble_eq_true rfl, Nat.le_of_ble_eq_true rfl⟩ ?_
          refine R_ifp_eq 223 227 rfl rfl dX11_layLearnt_220 (fun h220 => ?_) (fun h220 => ?_)
          · refine R_iconst 228 rfl dX11_layLearnt_227 ?_
            refine R_iadd 229 rfl dX11_layLearnt_228 ?_
            refine R_putI 26 232 rfl dX11_layLearnt_229 rfl rfl fl_X11_273 ?_
            refine R_aload_n 233 rfl dX11_layLearnt_232 rfl ?_
            refine R_dup 234 rfl dX11_layLearnt_233 rfl ?_
            refine R_getI 27 237 rfl dX11_layLearnt_234 rfl rfl fl_X11_276 ?_
            refine R_iload 239 rfl dX11_layLearnt_237 rfl ?_
            refine R_if_eq 242 255 rfl rfl dX11_layLearnt_239 (by first | assumption | exact ⟨by omega, by omega⟩) (fun h239 => ?_) (fun h239 => ?_)
            rotate_left
            · exact absurd h239 (by omega)
            refine R_iconst 256 rfl dX11_layLearnt_255 ?_
            refine R_iadd 257 rfl dX11_layLearnt_256 ?_
            refine R_putI 27 260 rfl dX11_layLearnt_257 rfl rfl fl_X11_276 ?_
            refine R_iinc [_, _, _, _, _, _, _, _, _, _, _] 263 rfl dX11_layLearnt_260 rfl rfl (by decide) ?_
            refine R_goto 27 rfl dX11_layLearnt_263 ?_
            refine key _ _ _ _ _ _ _ hlt ((((hf.f96 (by omega)).f96 (by omega)).f96 (by omega)).f96 (by omega)) ((((hZ.f96 (by omega)).f96 (by omega)).f96 (by omega)).f96 (by omega)) ?_ ?_ ?_ ?_
            all_goals simp [setI]
            all_goals first
              | omega
              | (simp only [h220, true_and, true_implies, not_true_eq_false, false_implies] at i2 i3; omega)
              | (simp only [h248, true_and, true_implies, not_true_eq_false, false_implies] at i2 i3; omega)
              | (have h9 : abl L B j = false := by simpa using h220
                 simp [h9] at i2 i3; omega)
              | (have h9 : abl L B j = false := by simpa using h248
                 simp [h9] at i2 i3; omega)
              | (by_cases h9 : abl L B j = true
                 · simp [h9] at i2 i3; omega
                 · simp [h9] at i2 i3; omega)
          · refine R_iconst 224 rfl dX11_layLearnt_223 ?_
            refine R_goto 228 rfl dX11_layLearnt_224 ?_
            refine R_iadd 229 rfl dX11_layLearnt_228 ?_
            refine R_putI 26 232 rfl dX11_layLearnt_229 rfl rfl fl_X11_273 ?_
            refine R_aload_n 233 rfl dX11_layLearnt_232 rfl ?_
            refine R_dup 234 rfl dX11_layLearnt_233 rfl ?_
            refine R_getI 27 237 rfl dX11_layLearnt_234 rfl rfl fl_X11_276 ?_
            refine R_iload 239 rfl dX11_layLearnt_237 rfl ?_
            refine R_if_eq 242 255 rfl rfl dX11_layLearnt_239 (by first | assumption | exact ⟨by omega, by omega⟩) (fun h239 => ?_) (fun h239 => ?_)
            rotate_left
            · exact absurd h239 (by omega)
            refine R_iconst 256 rfl dX11_layLearnt_255 ?_
            refine R_iadd 257 rfl dX11_layLearnt_256 ?_
            refine R_putI 27 260 rfl dX11_layLearnt_257 rfl rfl fl_X11_276 ?_
            refine R_iinc [_, _, _, _, _, _, _, _, _, _, _] 263 rfl dX11_layLearnt_260 rfl rfl (by decide) ?_
            refine R_goto 27 rfl dX11_layLearnt_263 ?_
            refine key _ _ _ _ _ _ _ hlt ((((hf.f96 (by omega)).f96 (by omega)).f96 (by omega)).f96 (by omega)) ((((hZ.f96 (by omega)).f96 (by omega)).f96 (by omega)).f96 (by omega)) ?_ ?_ ?_ ?_
            all_goals simp [setI]
            all_goals first
              | omega
              | (simp only [h220, true_and, true_implies, not_true_eq_false, false_implies] at i2 i3; omega)
              | (simp only [h248, true_and, true_implies, not_true_eq_false, false_implies] at i2 i3; omega)
              | (have h9 : abl L B j = false := by simpa using h220
                 simp [h9] at i2 i3; omega)
              | (have h9 : abl L B j = false := by simpa using h248
                 simp [h9] at i2 i3; omega)
              | (by_cases h9 : abl L B j = true
                 · simp [h9] at i2 i3; omega
                 · simp [h9] at i2 i3; omega)
    refine R_iload 29 rfl dX11_layLearnt_27 rfl ?_
    refine R_iconst 30 rfl dX11_layLearnt_29 ?_
    refine R_aload_n 31 rfl dX11_layLearnt_30 rfl ?_
    refine R_callV_i (M' := mX11_size) 34 rfl dX11_layLearnt_31 ml_X11_150 kmX11_size im_X11_size se_X11_size rfl ⟨by decide, rfl⟩ (c_X11_size hZ.1) rfl rfl ⟨Nat.le_of_ble_eq_true rfl, Nat.le_of_ble_eq_true rfl⟩ (Nat.le_of_ble_eq_true rfl) ⟨Nat.le_of_ble_eq_true rfl, Nat.le_of_ble_eq_true rfl⟩ ?_
    refine R_imul 35 rfl dX11_layLearnt_34 ?_
    refine R_icmp_ge 38 266 rfl rfl dX11_layLearnt_35 (by first | assumption | exact ⟨by omega, by omega⟩) (by first | assumption | exact ⟨by omega, by omega⟩) (fun h35 => ?_) (fun h35 => ?_)
    · refine R_return dX11_layLearnt_266 rfl ?_
      have ej : j = 2 * B.1 := by omega
      subst ej
      exact QV_mk ⟨hf, hZ, h24, h25, h26, h27⟩
    · have g4 := hO.2.1 (j / 2) (by omega)
      have g5 := hO.2.2 j (by omega)
      refine R_aload_n 39 rfl dX11_layLearnt_38 rfl ?_
      refine R_iload_n 40 rfl dX11_layLearnt_39 rfl ?_
      refine R_iload 42 rfl dX11_layLearnt_40 rfl ?_
      refine R_callV_i (M' := mX11_isIn) 45 rfl dX11_layLearnt_42 ml_X11_240 kmX11_isIn im_X11_isIn se_X11_isIn rfl ⟨by decide, rfl⟩ (c_X11_isIn _ _ c j hW (by omega) (by omega) (by omega) (by omega)) rfl rfl ⟨Nat.le_of_ble_eq_true rfl, Nat.le_of_ble_eq_true rfl⟩ (Nat.le_of_ble_eq_true rfl) ⟨Nat.le_of_ble_eq_true rfl, Nat.le_of_ble_eq_true rfl⟩ ?_
      refine R_ifp_eq 48 260 rfl rfl dX11_layLearnt_45 (fun h45 => ?_) (fun h45 => ?_)
      · refine R_iinc [_, _, _, _, _, _, _, _, _, _, _] 263 rfl dX11_layLearnt_260 rfl rfl (by decide) ?_
        refine R_goto 27 rfl dX11_layLearnt_263 ?_
        refine key _ _ _ _ _ _ _ (by omega) hf hZ ?_ ?_ ?_ ?_
        all_goals rw [pI_f (fun q => h45 (lnI_iff.mp q).1)]; omega
      · refine R_aload_n 49 rfl dX11_layLearnt_48 rfl ?_
        refine R_iload 51 rfl dX11_layLearnt_49 rfl ?_
        refine R_iconst 52 rfl dX11_layLearnt_51 ?_
        refine R_idiv_p 53 rfl dX11_layLearnt_52 (by first | assumption | exact ⟨by omega, by omega⟩) (by first | assumption | exact ⟨by omega, by omega⟩) (by omega) (by omega) ?_
        refine R_iload 55 rfl dX11_layLearnt_53 rfl ?_
        refine R_iconst 56 rfl dX11_layLearnt_55 ?_
        refine R_irem_p 57 rfl dX11_layLearnt_56 (by first | assumption | exact ⟨by omega, by omega⟩) (by first | assumption | exact ⟨by omega, by omega⟩) (by omega) (by omega) ?_
        refine R_iconst 58 rfl dX11_layLearnt_57 ?_
        refine R_callV_i (M' := mX11_of5) 61 rfl dX11_layLearnt_58 ml_X11_198 kmX11_of5 im_X11_of5 se_X11_of5 rfl ⟨by decide, rfl⟩ (c_X11_of5 _ _ _ j 1 hZ.1 (by omega) (by omega) (by omega) (by omega) (by omega)) rfl rfl ⟨Nat.le_of_ble_eq_true rfl, Nat.le_of_ble_eq_true rfl⟩ (Nat.le_of_ble_eq_true rfl) ⟨Nat.le_of_ble_eq_true rfl, Nat.le_of_ble_eq_true rfl⟩ ?_
        refine R_istore [_, _, _, _, _, _, _, _, _, _, _] 63 rfl dX11_layLearnt_61 rfl (by decide) ?_
        refine R_aload_n 64 rfl dX11_layLearnt_63 rfl ?_
        refine R_iload 66 rfl dX11_layLearnt_64 rfl ?_
        refine R_iconst 67 rfl dX11_layLearnt_66 ?_
        refine R_idiv_p 68 rfl dX11_layLearnt_67 (by first | assumption | exact ⟨by omega, by omega⟩) (by first | assumption | exact ⟨by omega, by omega⟩) (by omega) (by omega) ?_
        refine R_iconst 69 rfl dX11_layLearnt_68 ?_
        refine R_callV_i (M' := mX11_its) 72 rfl dX11_layLearnt_69 ml_X11_153 kmX11_its im_X11_its se_X11_its rfl ⟨by decide, rfl⟩ (c_X11_its _ _ (j / 2) 1 hZ.1 (by omega) (by omega) (by omega) (by omega)) rfl rfl ⟨Nat.le_of_ble_eq_true rfl, Nat.le_of_ble_eq_true rfl⟩ (Nat.le_of_ble_eq_true rfl) ⟨Nat.le_of_ble_eq_true rfl, Nat.le_of_ble_eq_true rfl⟩ ?_
        refine R_aload_n 73 rfl dX11_layLearnt_72 rfl ?_
        refine R_getP 12 76 rfl dX11_layLearnt_73 rfl rfl fl_X11_22 (hP _ _ _ rfl) ?_
        refine R_iconst 77 rfl dX11_layLearnt_76 ?_
        refine R_iald 2 78 rfl dX11_layLearnt_77 rfl (by first | rfl | omega) (by decide) (by decide) ?_
        rw [r2]
        refine R_iadd 79 rfl dX11_layLearnt_78 ?_
        refine R_istore [_, _, _, _, _, _, _, _, _, _, _] 81 rfl dX11_layLearnt_79 rfl (by decide) ?_
        refine R_iload 83 rfl dX11_layLearnt_81 rfl ?_
        refine R_iload 85 rfl dX11_layLearnt_83 rfl ?_
        refine R_if_le 88 93 rfl rfl dX11_layLearnt_85 (by first | assumption | exact ⟨by omega, by omega⟩) (fun h85 => ?_) (fun h85 => ?_)
        · refine R_aload_n 94 rfl dX11_layLearnt_93 rfl ?_
          refine R_getP 12 97 rfl dX11_layLearnt_94 rfl rfl fl_X11_22 (hP _ _ _ rfl) ?_
          refine R_iconst 98 rfl dX11_layLearnt_97 ?_
          refine R_iald 4 99 rfl dX11_layLearnt_98 rfl (by first | rfl | omega) (by decide) (by decide) ?_
          first | rw [r4] | skip
          refine R_isub 100 rfl dX11_layLearnt_99 ?_
          refine R_istore [_, _, _, _, _, _, _, _, _, _, _] 102 rfl dX11_layLearnt_100 rfl (by decide) ?_
          refine R_iload 104 rfl dX11_layLearnt_102 rfl ?_
          refine R_iload 106 rfl dX11_layLearnt_104 rfl ?_
          refine R_if_le 109 114 rfl rfl dX11_layLearnt_106 (by first | assumption | exact ⟨by omega, by omega⟩) (fun h106 => ?_) (fun h106 => ?_)
          · refine R_aload_n 115 rfl dX11_layLearnt_114 rfl ?_
            refine R_getP 12 118 rfl dX11_layLearnt_115 rfl rfl fl_X11_22 (hP _ _ _ rfl) ?_
            refine R_iconst 119 rfl dX11_layLearnt_118 ?_
            refine R_iald 3 120 rfl dX11_layLearnt_119 rfl (by first | rfl | omega) (by decide) (by decide) ?_
            first | rw [r3] | skip
            refine R_isub 121 rfl dX11_layLearnt_120 ?_
            refine R_istore [_, _, _, _, _, _, _, _, _, _, _] 123 rfl dX11_layLearnt_121 rfl (by decide) ?_
            first
              | (exfalso; omega)
              | exact L123 (by omega) h45 _ _ _ _ _ _ (by unfold erl; first | rw [if_pos (by omega)] | rw [if_neg (by omega)]) (by unfold lat; first | rw [if_pos (by omega)] | rw [if_neg (by omega)]) (by omega) (by omega)
          · refine R_iload 111 rfl dX11_layLearnt_109 rfl ?_
            refine R_goto 120 rfl dX11_layLearnt_111 ?_
            first | rw [r3] | skip
            refine R_isub 121 rfl dX11_layLearnt_120 ?_
            refine R_istore [_, _, _, _, _, _, _, _, _, _, _] 123 rfl dX11_layLearnt_121 rfl (by decide) ?_
            first
              | (exfalso; omega)
              | exact L123 (by omega) h45 _ _ _ _ _ _ (by unfold erl; first | rw [if_pos (by omega)] | rw [if_neg (by omega)]) (by unfold lat; first | rw [if_pos (by omega)] | rw [if_neg (by omega)]) (by omega) (by omega)
        · refine R_iload 90 rfl dX11_layLearnt_88 rfl ?_
          refine R_goto 99 rfl dX11_layLearnt_90 ?_
          first | rw [r4] | skip
          refine R_isub 100 rfl dX11_layLearnt_99 ?_
          refine R_istore [_, _, _, _, _, _, _, _, _, _, _] 102 rfl dX11_layLearnt_100 rfl (by decide) ?_
          refine R_iload 104 rfl dX11_layLearnt_102 rfl ?_
          refine R_iload 106 rfl dX11_layLearnt_104 rfl ?_
          refine R_if_le 109 114 rfl rfl dX11_layLearnt_106 (by first | assumption | exact ⟨by omega, by omega⟩) (fun h106 => ?_) (fun h106 => ?_)
          · refine R_aload_n 115 rfl dX11_layLearnt_114 rfl ?_
            refine R_getP 12 118 rfl dX11_layLearnt_115 rfl rfl fl_X11_22 (hP _ _ _ rfl) ?_
            refine R_iconst 119 rfl dX11_layLearnt_118 ?_
            refine R_iald 3 120 rfl dX11_layLearnt_119 rfl (by first | rfl | omega) (by decide) (by decide) ?_
            first | rw [r3] | skip
            refine R_isub 121 rfl dX11_layLearnt_120 ?_
            refine R_istore [_, _, _, _, _, _, _, _, _, _, _] 123 rfl dX11_layLearnt_121 rfl (by decide) ?_
            first
              | (exfalso; omega)
              | exact L123 (by omega) h45 _ _ _ _ _ _ (by unfold erl; first | rw [if_pos (by omega)] | rw [if_neg (by omega)]) (by unfold lat; first | rw [if_pos (by omega)] | rw [if_neg (by omega)]) (by omega) (by omega)
          · refine R_iload 111 rfl dX11_layLearnt_109 rfl ?_
            refine R_goto 120 rfl dX11_layLearnt_111 ?_
            first | rw [r3] | skip
            refine R_isub 121 rfl dX11_layLearnt_120 ?_
            refine R_istore [_, _, _, _, _, _, _, _, _, _, _] 123 rfl dX11_layLearnt_121 rfl (by decide) ?_
            first
              | (exfalso; omega)
              | exact L123 (by omega) h45 _ _ _ _ _ _ (by unfold erl; first | rw [if_pos (by omega)] | rw [if_neg (by omega)]) (by unfold lat; first | rw [if_pos (by omega)] | rw [if_neg (by omega)]) (by omega) (by omega)
  refine R_aload_n 1 rfl dX11_layLearnt_0 rfl ?_
  refine R_callV_V (M' := mX11_layKinds) 4 rfl dX11_layLearnt_1 ml_X11_227 kmX11_layKinds im_X11_layKinds se_X11_layKinds rfl ⟨by decide, rfl⟩ (c_X11_layKinds hR) rfl rfl ⟨Nat.le_of_ble_eq_true rfl, Nat.le_of_ble_eq_true rfl⟩ (Nat.le_of_ble_eq_true rfl) ⟨Nat.le_of_ble_eq_true rfl, Nat.le_of_ble_eq_true rfl⟩ ?_
  rintro m1 h1
  obtain ⟨f1, z1⟩ := h1
  refine R_aload_n 5 rfl dX11_layLearnt_4 rfl ?_
  refine R_iconst 6 rfl dX11_layLearnt_5 ?_
  refine R_putI 24 9 rfl dX11_layLearnt_6 rfl rfl fl_X11_267 ?_
  refine R_aload_n 10 rfl dX11_layLearnt_9 rfl ?_
  refine R_iconst 11 rfl dX11_layLearnt_10 ?_
  refine R_putI 25 14 rfl dX11_layLearnt_11 rfl rfl fl_X11_270 ?_
  refine R_aload_n 15 rfl dX11_layLearnt_14 rfl ?_
  refine R_iconst 16 rfl dX11_layLearnt_15 ?_
  refine R_putI 26 19 rfl dX11_layLearnt_16 rfl rfl fl_X11_273 ?_
  refine R_aload_n 20 rfl dX11_layLearnt_19 rfl ?_
  refine R_iconst 21 rfl dX11_layLearnt_20 ?_
  refine R_putI 27 24 rfl dX11_layLearnt_21 rfl rfl fl_X11_276 ?_
  refine R_iconst 25 rfl dX11_layLearnt_24 ?_
  refine R_istore [_, _, _, _, _, _, _, _, _, _, _] 27 rfl dX11_layLearnt_25 rfl (by decide) ?_
  exact Lp 0 (by omega) _ _ _ _ _ _ _ _ rfl ((((f1.f96 (by omega)).f96 (by omega)).f96 (by omega)).f96 (by omega)) ((((z1.f96 (by omega)).f96 (by omega)).f96 (by omega)).f96 (by omega)) (by simp [setI, cnt]) (by simp [setI, cnt]) (by simp [setI, cnt]) (by simp [setI, cnt])
end
