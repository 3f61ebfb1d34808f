section
variable {Γ : GX} {m m' : Mem} {T : Tp} {o d : Nat} {P : Nat → Bool} {x : PX St} {L : Ld}
theorem c_X5_takeLine4 (st : St) (hΓ : GOk Γ) (hb : PCb o 4 T m) (hx : PCa T 4 m st) : C Γ mX5_takeLine 7 280 0 0 [vr 3] SH m (QV SH (fun m' => Fr (isRD 4) m m' ∧ PCx T 4 m' (lineT T st))) := by
  refine C_of_R rfl (Nat.le_of_ble_eq_true rfl) ?_
  have w3 : ∀ a, isRD 4 a = false → is3 a = false := fun a h => by simp [isRD] at h; simp [is3]; omega
  have r1 : isRD 4 1 = false := rfl
  have r2 : isRD 4 2 = false := rfl
  have hx0 : PCx T 4 m (.inr st) := hx
  have L200 : ∀ m1, Fr (isRD 4) m m1 → PCx T 4 m1 (bodyT T st) → R Γ mX5_takeLine { frames := 7, cells := 0, slots := 0, locals := 280 } 0 0 (QV SH (fun m' => Fr (isRD 4) m m' ∧ PCx T 4 m' (lineT T st))) 0 0 200 [some (vr 3)] [] SH m1 := by
    intro m1 fm pm
    refine R_aload_n 201 rfl dX5_takeLine_200 rfl ?_
    refine R_callV_V (M' := mX5_takeStop) 204 rfl dX5_takeLine_201 ml_X5_96 kmX5_takeStop im_X5_takeStop se_X5_takeStop rfl ⟨by decide, rfl⟩ (c_X5_takeStop (bodyT T st) (hb.fr fm r1 r2) pm) rfl rfl ⟨Nat.le_of_ble_eq_true rfl, Nat.le_of_ble_eq_true rfl⟩ (Nat.le_of_ble_eq_true rfl) ⟨Nat.le_of_ble_eq_true rfl, Nat.le_of_ble_eq_true rfl⟩ ?_
    rintro m201 h201
    obtain ⟨f201, p201⟩ := h201
    refine R_return dX5_takeLine_204 rfl ?_
    exact QV_mk ⟨fm.tr (f201.wk w3), p201⟩
  refine R_aload_n 1 rfl dX5_takeLine_0 rfl ?_
  refine R_ldcS 0 3 rfl dX5_takeLine_1 rfl (by decide) ?_
  refine R_callV_i (M' := mX5_isWord) 6 rfl dX5_takeLine_3 ml_X5_48 kmX5_isWord im_X5_isWord se_X5_isWord rfl ⟨by decide, rfl⟩ (c_X5_isWord 0 (.inr st) hΓ (by decide) hb hx0) rfl rfl ⟨Nat.le_of_ble_eq_true rfl, Nat.le_of_ble_eq_true rfl⟩ (Nat.le_of_ble_eq_true rfl) ⟨Nat.le_of_ble_eq_true rfl, Nat.le_of_ble_eq_true rfl⟩ ?_
  refine R_ifp_eq 9 16 rfl rfl dX5_takeLine_6 (fun h6 => ?_) (fun h6 => ?_)
  · refine R_aload_n 17 rfl dX5_takeLine_16 rfl ?_
    refine R_ldcS 1 19 rfl dX5_takeLine_17 rfl (by decide) ?_
    refine R_callV_i (M' := mX5_isWord) 22 rfl dX5_takeLine_19 ml_X5_48 kmX5_isWord im_X5_isWord se_X5_isWord rfl ⟨by decide, rfl⟩ (c_X5_isWord 1 (.inr st) hΓ (by decide) hb hx0) rfl rfl ⟨Nat.le_of_ble_eq_true rfl, Nat.le_of_ble_eq_true rfl⟩ (Nat.le_of_ble_eq_true rfl) ⟨Nat.le_of_ble_eq_true rfl, Nat.le_of_ble_eq_true rfl⟩ ?_
    refine R_ifp_eq 25 32 rfl rfl dX5_takeLine_22 (fun h22 => ?_) (fun h22 => ?_)
    · refine R_aload_n 33 rfl dX5_takeLine_32 rfl ?_
      refine R_ldcS 2 35 rfl dX5_takeLine_33 rfl (by decide) ?_
      refine R_callV_i (M' := mX5_isWord) 38 rfl dX5_takeLine_35 ml_X5_48 kmX5_isWord im_X5_isWord se_X5_isWord rfl ⟨by decide, rfl⟩ (c_X5_isWord 2 (.inr st) hΓ (by decide) hb hx0) rfl rfl ⟨Nat.le_of_ble_eq_true rfl, Nat.le_of_ble_eq_true rfl⟩ (Nat.le_of_ble_eq_true rfl) ⟨Nat.le_of_ble_eq_true rfl, Nat.le_of_ble_eq_true rfl⟩ ?_
      refine R_ifp_eq 41 48 rfl rfl dX5_takeLine_38 (fun h38 => ?_) (fun h38 => ?_)
      · refine R_aload_n 49 rfl dX5_takeLine_48 rfl ?_
        refine R_ldcS 3 51 rfl dX5_takeLine_49 rfl (by decide) ?_
        refine R_callV_i (M' := mX5_isWord) 54 rfl dX5_takeLine_51 ml_X5_48 kmX5_isWord im_X5_isWord se_X5_isWord rfl ⟨by decide, rfl⟩ (c_X5_isWord 3 (.inr st) hΓ (by decide) hb hx0) rfl rfl ⟨Nat.le_of_ble_eq_true rfl, Nat.le_of_ble_eq_true rfl⟩ (Nat.le_of_ble_eq_true rfl) ⟨Nat.le_of_ble_eq_true rfl, Nat.le_of_ble_eq_true rfl⟩ ?_
        refine R_ifp_eq 57 79 rfl rfl dX5_takeLine_54 (fun h54 => ?_) (fun h54 => ?_)
        · refine R_aload_n 80 rfl dX5_takeLine_79 rfl ?_
          refine R_ldcS 4 82 rfl dX5_takeLine_80 rfl (by decide) ?_
          refine R_callV_i (M' := mX5_isWord) 85 rfl dX5_takeLine_82 ml_X5_48 kmX5_isWord im_X5_isWord se_X5_isWord rfl ⟨by decide, rfl⟩ (c_X5_isWord 4 (.inr st) hΓ (by decide) hb hx0) rfl rfl ⟨Nat.le_of_ble_eq_true rfl, Nat.le_of_ble_eq_true rfl⟩ (Nat.le_of_ble_eq_true rfl) ⟨Nat.le_of_ble_eq_true rfl, Nat.le_of_ble_eq_true rfl⟩ ?_
          refine R_ifp_eq 88 131 rfl rfl dX5_takeLine_85 (fun h85 => ?_) (fun h85 => ?_)
          · refine R_aload_n 132 rfl dX5_takeLine_131 rfl ?_
            refine R_ldcS 5 134 rfl dX5_takeLine_132 rfl (by decide) ?_
            refine R_callV_i (M' := mX5_isWord) 137 rfl dX5_takeLine_134 ml_X5_48 kmX5_isWord im_X5_isWord se_X5_isWord rfl ⟨by decide, rfl⟩ (c_X5_isWord 5 (.inr st) hΓ (by decide) hb hx0) rfl rfl ⟨Nat.le_of_ble_eq_true rfl, Nat.le_of_ble_eq_true rfl⟩ (Nat.le_of_ble_eq_true rfl) ⟨Nat.le_of_ble_eq_true rfl, Nat.le_of_ble_eq_true rfl⟩ ?_
            refine R_ifp_eq 140 163 rfl rfl dX5_takeLine_137 (fun h137 => ?_) (fun h137 => ?_)
            · refine R_aload_n 164 rfl dX5_takeLine_163 rfl ?_
              refine R_ldcS 6 166 rfl dX5_takeLine_164 rfl (by decide) ?_
              refine R_callV_i (M' := mX5_isWord) 169 rfl dX5_takeLine_166 ml_X5_48 kmX5_isWord im_X5_isWord se_X5_isWord rfl ⟨by decide, rfl⟩ (c_X5_isWord 6 (.inr st) hΓ (by decide) hb hx0) rfl rfl ⟨Nat.le_of_ble_eq_true rfl, Nat.le_of_ble_eq_true rfl⟩ (Nat.le_of_ble_eq_true rfl) ⟨Nat.le_of_ble_eq_true rfl, Nat.le_of_ble_eq_true rfl⟩ ?_
              refine R_ifp_eq 172 195 rfl rfl dX5_takeLine_169 (fun h169 => ?_) (fun h169 => ?_)
              · refine R_aload_n 196 rfl dX5_takeLine_195 rfl ?_
                refine R_iconst 197 rfl dX5_takeLine_196 ?_
                refine R_callV_V (M' := mX5_refuse) 200 rfl dX5_takeLine_197 ml_X5_93 kmX5_refuse im_X5_refuse se_X5_refuse rfl ⟨by decide, rfl⟩ (c_X5_refuse 2 _ hx0 (by omega)) rfl rfl ⟨Nat.le_of_ble_eq_true rfl, Nat.le_of_ble_eq_true rfl⟩ (Nat.le_of_ble_eq_true rfl) ⟨Nat.le_of_ble_eq_true rfl, Nat.le_of_ble_eq_true rfl⟩ ?_
                rintro m197 h197
                obtain ⟨f197, p197⟩ := h197
                have eb : bodyT T st = if isW T 0 st = true then parishT T st else if isW T 1 st = true then clerkT T st else if isW T 2 st = true then triedT T st else if isW T 3 st = true then ruleT T 1 5 20 2 st else if isW T 4 st = true then agesT T st else if isW T 5 st = true then ruleT T 4 0 999 5 st else if isW T 6 st = true then ruleT T 8 0 8 6 st else .inl (2, st.2.1) := rfl
                first
                | (rw [if_pos (show isW T 0 st = true from h6)] at eb
                   exact L200 _ f10 (by rw [eb]; exact p10))
                | (rw [if_neg (show ¬ isW T 0 st = true from h6), if_pos (show isW T 1 st = true from h22)] at eb
                   exact L200 _ f26 (by rw [eb]; exact p26))
                | (rw [if_neg (show ¬ isW T 0 st = true from h6), if_neg (show ¬ isW T 1 st = true from h22), if_pos (show isW T 2 st = true from h38)] at eb
                   exact L200 _ f42 (by rw [eb]; exact p42))
                | (rw [if_neg (show ¬ isW T 0 st = true from h6), if_neg (show ¬ isW T 1 st = true from h22), if_neg (show ¬ isW T 2 st = true from h38), if_pos (show isW T 3 st = true from h54)] at eb
                   exact L200 _ (((f59.tr f70).wk w3).set rfl) (by rw [eb, rule_x]; exact ps70))
                | (rw [if_neg (show ¬ isW T 0 st = true from h6), if_neg (show ¬ isW T 1 st = true from h22), if_neg (show ¬ isW T 2 st = true from h38), if_neg (show ¬ isW T 3 st = true from h54), if_pos (show isW T 4 st = true from h85)] at eb
                   exact L200 _ ((((((f90.tr f102).wk w3).set rfl).tr (f122.wk w3))).set rfl) (by rw [eb, ages_x]; exact PCx.stR p122 v122 (by decide) (fun k => by simp [setI]) (fun L hl => LdC.setF (j := 4) hl (Or.inl rfl) (by decide) (by decide))))
                | (rw [if_neg (show ¬ isW T 0 st = true from h6), if_neg (show ¬ isW T 1 st = true from h22), if_neg (show ¬ isW T 2 st = true from h38), if_neg (show ¬ isW T 3 st = true from h54), if_neg (show ¬ isW T 4 st = true from h85), if_pos (show isW T 5 st = true from h137)] at eb
                   exact L200 _ (((f142.tr f154).wk w3).set rfl) (by rw [eb, rule_x]; exact ps154))
                | (rw [if_neg (show ¬ isW T 0 st = true from h6), if_neg (show ¬ isW T 1 st = true from h22), if_neg (show ¬ isW T 2 st = true from h38), if_neg (show ¬ isW T 3 st = true from h54), if_neg (show ¬ isW T 4 st = true from h85), if_neg (show ¬ isW T 5 st = true from h137), if_pos (show isW T 6 st = true from h169)] at eb
                   exact L200 _ (((f175.tr f186).wk w3).set rfl) (by rw [eb, rule_x]; exact ps186))
                | (rw [if_neg (show ¬ isW T 0 st = true from h6), if_neg (show ¬ isW T 1 st = true from h22), if_neg (show ¬ isW T 2 st = true from h38), if_neg (show ¬ isW T 3 st = true from h54), if_neg (show ¬ isW T 4 st = true from h85), if_neg (show ¬ isW T 5 st = true from h137), if_neg (show ¬ isW T 6 st = true from h169)] at eb
                   exact L200 _ (f197.wk w3) (by rw [eb]; exact p197))
              · refine R_aload_n 173 rfl dX5_takeLine_172 rfl ?_
                refine R_bipush 175 rfl dX5_takeLine_173 (by decide) ?_
                refine R_top (b := ((8 : Nat) : Int)) rfl ?_
                refine R_callV_V (M' := mX5_takeOnce) 178 rfl dX5_takeLine_175 ml_X5_67 kmX5_takeOnce im_X5_takeOnce se_X5_takeOnce rfl ⟨by decide, rfl⟩ (c_X5_takeOnce 8 st (by decide) hb hx) rfl rfl ⟨Nat.le_of_ble_eq_true rfl, Nat.le_of_ble_eq_true rfl⟩ (Nat.le_of_ble_eq_true rfl) ⟨Nat.le_of_ble_eq_true rfl, Nat.le_of_ble_eq_true rfl⟩ ?_
                rintro m175 h175
                obtain ⟨f175, p175⟩ := h175
                have b175 := hb.fr f175 rfl rfl
                have hP := b175.1.2
                have hD := b175.2.2.2.2
                refine R_aload_n 179 rfl dX5_takeLine_178 rfl ?_
                refine R_getP 1 182 rfl dX5_takeLine_179 rfl rfl fl_X5_15 hD ?_
                refine R_aload_n 183 rfl dX5_takeLine_182 rfl ?_
                refine R_iconst 184 rfl dX5_takeLine_183 ?_
                refine R_bipush 186 rfl dX5_takeLine_184 (by decide) ?_
                refine R_callV_I (M' := mX5_takeNumber) 189 rfl dX5_takeLine_186 ml_X5_71 kmX5_takeNumber im_X5_takeNumber se_X5_takeNumber rfl ⟨by decide, rfl⟩ (c_X5_takeNumber_rg 0 8 (once T 8 st) b175 p175 ⟨by omega, by omega⟩ ⟨by omega, by omega⟩) rfl rfl ⟨Nat.le_of_ble_eq_true rfl, Nat.le_of_ble_eq_true rfl⟩ (Nat.le_of_ble_eq_true rfl) ⟨Nat.le_of_ble_eq_true rfl, Nat.le_of_ble_eq_true rfl⟩ ?_
                rintro z186 m186 h186
                obtain ⟨⟨f186, p186, v186⟩, r186⟩ := h186
                have b186 := b175.fr f186 rfl rfl
                have bs186 : PCb o 4 T (setI m186 4 6 z186) := b186.fr (P := fun a => decide (a = 4)) (Fr.rf.set rfl) rfl rfl
                have ps186 : PCx T 4 (setI m186 4 6 z186) (stR 6 (pb (once T 8 st) (num T 0 8))) := PCx.stR p186 v186 (by decide) (fun k => by simp [setI]) (fun L hl => LdC.setF (j := 6) hl (Or.inl rfl) (by decide) (by decide))
                clear hP hD
                have hP := b186.1.2
                have hD := b186.2.2.2.2
                refine R_putI 6 192 rfl dX5_takeLine_189 rfl rfl fl_X5_91 ?_
                refine R_goto 200 rfl dX5_takeLine_192 ?_
                have eb : bodyT T st = if isW T 0 st = true then parishT T st else if isW T 1 st = true then clerkT T st else if isW T 2 st = true then triedT T st else if isW T 3 st = true then ruleT T 1 5 20 2 st else if isW T 4 st = true then agesT T st else if isW T 5 st = true then ruleT T 4 0 999 5 st else if isW T 6 st = true then ruleT T 8 0 8 6 st else .inl (2, st.2.1) := rfl
                first
                | (rw [if_pos (show isW T 0 st = true from h6)] at eb
                   exact L200 _ f10 (by rw [eb]; exact p10))
                | (rw [if_neg (show ¬ isW T 0 st = true from h6), if_pos (show isW T 1 st = true from h22)] at eb
                   exact L200 _ f26 (by rw [eb]; exact p26))
                | (rw [if_neg (show ¬ isW T 0 st = true from h6), if_neg (show ¬ isW T 1 st = true from h22), if_pos (show isW T 2 st = true from h38)] at eb
                   exact L200 _ f42 (by rw [eb]; exact p42))
                | (rw [if_neg (show ¬ isW T 0 st = true from h6), if_neg (show ¬ isW T 1 st = true from h22), if_neg (show ¬ isW T 2 st = true from h38), if_pos (show isW T 3 st = true from h54)] at eb
                   exact L200 _ (((f59.tr f70).wk w3).set rfl) (by rw [eb, rule_x]; exact ps70))
                | (rw [if_neg (show ¬ isW T 0 st = true from h6), if_neg (show ¬ isW T 1 st = true from h22), if_neg (show ¬ isW T 2 st = true from h38), if_neg (show ¬ isW T 3 st = true from h54), if_pos (show isW T 4 st = true from h85)] at eb
                   exact L200 _ ((((((f90.tr f102).wk w3).set rfl).tr (f122.wk w3))).set rfl) (by rw [eb, ages_x]; exact PCx.stR p122 v122 (by decide) (fun k => by simp [setI]) (fun L hl => LdC.setF (j := 4) hl (Or.inl rfl) (by decide) (by decide))))
                | (rw [if_neg (show ¬ isW T 0 st = true from h6), if_neg (show ¬ isW T 1 st = true from h22), if_neg (show ¬ isW T 2 st = true from h38), if_neg (show ¬ isW T 3 st = true from h54), if_neg (show ¬ isW T 4 st = true from h85), if_pos (show isW T 5 st = true from h137)] at eb
                   exact L200 _ (((f142.tr f154).wk w3).set rfl) (by rw [eb, rule_x]; exact ps154))
                | (rw [if_neg (show ¬ isW T 0 st = true from h6), if_neg (show ¬ isW T 1 st = true from h22), if_neg (show ¬ isW T 2 st = true from h38), if_neg (show ¬ isW T 3 st = true from h54), if_neg (show ¬ isW T 4 st = true from h85), if_neg (show ¬ isW T 5 st = true from h137), if_pos (show isW T 6 st = true from h169)] at eb
                   exact L200 _ (((f175.tr f186).wk w3).set rfl) (by rw [eb, rule_x]; exact ps186))
                | (rw [if_neg (show ¬ isW T 0 st = true from h6), if_neg (show ¬ isW T 1 st = true from h22), if_neg (show ¬ isW T 2 st = true from h38), if_neg (show ¬ isW T 3 st = true from h54), if_neg (show ¬ isW T 4 st = true from h85), if_neg (show ¬ isW T 5 st = true from h137), if_neg (show ¬ isW T 6 st = true from h169)] at eb
                   exact L200 _ (f197.wk w3) (by rw [eb]; exact p197))
            · refine R_aload_n 141 rfl dX5_takeLine_140 rfl ?_
              refine R_iconst 142 rfl dX5_takeLine_141 ?_
              refine R_top (b := ((4 : Nat) : Int)) rfl ?_
              refine R_callV_V (M' := mX5_takeOnce) 145 rfl dX5_takeLine_142 ml_X5_67 kmX5_takeOnce im_X5_takeOnce se_X5_takeOnce rfl ⟨by decide, rfl⟩ (c_X5_takeOnce 4 st (by decide) hb hx) rfl rfl ⟨Nat.le_of_ble_eq_true rfl, Nat.le_of_ble_eq_true rfl⟩ (Nat.le_of_ble_eq_true rfl) ⟨Nat.le_of_ble_eq_true rfl, Nat.le_of_ble_eq_true rfl⟩ ?_
              rintro m142 h142
              obtain ⟨f142, p142⟩ := h142
              have b142 := hb.fr f142 rfl rfl
              have hP := b142.1.2
              have hD := b142.2.2.2.2
              refine R_aload_n 146 rfl dX5_takeLine_145 rfl ?_
              refine R_getP 1 149 rfl dX5_takeLine_146 rfl rfl fl_X5_15 hD ?_
              refine R_aload_n 150 rfl dX5_takeLine_149 rfl ?_
              refine R_iconst 151 rfl dX5_takeLine_150 ?_
              refine R_sipush 154 rfl dX5_takeLine_151 (by decide) ?_
              refine R_callV_I (M' := mX5_takeNumber) 157 rfl dX5_takeLine_154 ml_X5_71 kmX5_takeNumber im_X5_takeNumber se_X5_takeNumber rfl ⟨by decide, rfl⟩ (c_X5_takeNumber_rg 0 999 (once T 4 st) b142 p142 ⟨by omega, by omega⟩ ⟨by omega, by omega⟩) rfl rfl ⟨Nat.le_of_ble_eq_true rfl, Nat.le_of_ble_eq_true rfl⟩ (Nat.le_of_ble_eq_true rfl) ⟨Nat.le_of_ble_eq_true rfl, Nat.le_of_ble_eq_true rfl⟩ ?_
              rintro z154 m154 h154
              obtain ⟨⟨f154, p154, v154⟩, r154⟩ := h154
              have b154 := b142.fr f154 rfl rfl
              have bs154 : PCb o 4 T (setI m154 4 5 z154) := b154.fr (P := fun a => decide (a = 4)) (Fr.rf.set rfl) rfl rfl
              have ps154 : PCx T 4 (setI m154 4 5 z154) (stR 5 (pb (once T 4 st) (num T 0 999))) := PCx.stR p154 v154 (by decide) (fun k => by simp [setI]) (fun L hl => LdC.setF (j := 5) hl (Or.inl rfl) (by decide) (by decide))
              clear hP hD
              have hP := b154.1.2
              have hD := b154.2.2.2.2
              refine R_putI 5 160 rfl dX5_takeLine_157 rfl rfl fl_X5_87 ?_
              refine R_goto 200 rfl dX5_takeLine_160 ?_
              have eb : bodyT T st = if isW T 0 st = true then parishT T st else if isW T 1 st = true then clerkT T st else if isW T 2 st = true then triedT T st else if isW T 3 st = true then ruleT T 1 5 20 2 st else if isW T 4 st = true then agesT T st else if isW T 5 st = true then ruleT T 4 0 999 5 st else if isW T 6 st = true then ruleT T 8 0 8 6 st else .inl (2, st.2.1) := rfl
              first
              | (rw [if_pos (show isW T 0 st = true from h6)] at eb
                 exact L200 _ f10 (by rw [eb]; exact p10))
              | (rw [if_neg (show ¬ isW T 0 st = true from h6), if_pos (show isW T 1 st = true from h22)] at eb
                 exact L200 _ f26 (by rw [eb]; exact p26))
              | (rw [if_neg (show ¬ isW T 0 st = true from h6), if_neg (show ¬ isW T 1 st = true from h22), if_pos (show isW T 2 st = true from h38)] at eb
                 exact L200 _ f42 (by rw [eb]; exact p42))
              | (rw [if_neg (show ¬ isW T 0 st = true from h6), if_neg (show ¬ isW T 1 st = true from h22), if_neg (show ¬ isW T 2 st = true from h38), if_pos (show isW T 3 st = true from h54)] at eb
                 exact L200 _ (((f59.tr f70).wk w3).set rfl) (by rw [eb, rule_x]; exact ps70))
              | (rw [if_neg (show ¬ isW T 0 st = true from h6), if_neg (show ¬ isW T 1 st = true from h22), if_neg (show ¬ isW T 2 st = true from h38), if_neg (show ¬ isW T 3 st = true from h54), if_pos (show isW T 4 st = true from h85)] at eb
                 exact L200 _ ((((((f90.tr f102).wk w3).set rfl).tr (f122.wk w3))).set rfl) (by rw [eb, ages_x]; exact PCx.stR p122 v122 (by decide) (fun k => by simp [setI]) (fun L hl => LdC.setF (j := 4) hl (Or.inl rfl) (by decide) (by decide))))
              | (rw [if_neg (show ¬ isW T 0 st = true from h6), if_neg (show ¬ isW T 1 st = true from h22), if_neg (show ¬ isW T 2 st = true from h38), if_neg (show ¬ isW T 3 st = true from h54), if_neg (show ¬ isW T 4 st = true from h85), if_pos (show isW T 5 st = true from h137)] at eb
                 exact L200 _ (((f142.tr f154).wk w3).set rfl) (by rw [eb, rule_x]; exact ps154))
              | (rw [if_neg (show ¬ isW T 0 st = true from h6), if_neg (show ¬ isW T 1 st = true from h22), if_neg (show ¬ isW T 2 st = true from h38), if_neg (show ¬ isW T 3 st = true from h54), if_neg (show ¬ isW T 4 st = true from h85), if_neg (show ¬ isW T 5 st = true from h137), if_pos (show isW T 6 st = true from h169)] at eb
                 exact L200 _ (((f175.tr f186).wk w3).set rfl) (by rw [eb, rule_x]; exact ps186))
              | (rw [if_neg (show ¬ isW T 0 st = true from h6), if_neg (show ¬ isW T 1 st = true from h22), if_neg (show ¬ isW T 2 st = true from h38), if_neg (show ¬ isW T 3 st = true from h54), if_neg (show ¬ isW T 4 st = true from h85), if_neg (show ¬ isW T 5 st = true from h137), if_neg (show ¬ isW T 6 st = true from h169)] at eb
                 exact L200 _ (f197.wk w3) (by rw [eb]; exact p197))
          · refine R_aload_n 89 rfl dX5_takeLine_88 rfl ?_
            refine R_iconst 90 rfl dX5_takeLine_89 ?_
            refine R_top (b := ((2 : Nat) : Int)) rfl ?_
            refine R_callV_V (M' := mX5_takeOnce) 93 rfl dX5_takeLine_90 ml_X5_67 kmX5_takeOnce im_X5_takeOnce se_X5_takeOnce rfl ⟨by decide, rfl⟩ (c_X5_takeOnce 2 st (by decide) hb hx) rfl rfl ⟨Nat.le_of_ble_eq_true rfl, Nat.le_of_ble_eq_true rfl⟩ (Nat.le_of_ble_eq_true rfl) ⟨Nat.le_of_ble_eq_true rfl, Nat.le_of_ble_eq_true rfl⟩ ?_
            rintro m90 h90
            obtain ⟨f90, p90⟩ := h90
            have b90 := hb.fr f90 rfl rfl
            have hP := b90.1.2
            have hD := b90.2.2.2.2
            refine R_aload_n 94 rfl dX5_takeLine_93 rfl ?_
            refine R_getP 1 97 rfl dX5_takeLine_94 rfl rfl fl_X5_15 hD ?_
            refine R_aload_n 98 rfl dX5_takeLine_97 rfl ?_
            refine R_bipush 100 rfl dX5_takeLine_98 (by decide) ?_
            refine R_bipush 102 rfl dX5_takeLine_100 (by decide) ?_
            refine R_callV_I (M' := mX5_takeNumber) 105 rfl dX5_takeLine_102 ml_X5_71 kmX5_takeNumber im_X5_takeNumber se_X5_takeNumber rfl ⟨by decide, rfl⟩ (c_X5_takeNumber_rg 16 60 (once T 2 st) b90 p90 ⟨by omega, by omega⟩ ⟨by omega, by omega⟩) rfl rfl ⟨Nat.le_of_ble_eq_true rfl, Nat.le_of_ble_eq_true rfl⟩ (Nat.le_of_ble_eq_true rfl) ⟨Nat.le_of_ble_eq_true rfl, Nat.le_of_ble_eq_true rfl⟩ ?_
            rintro z102 m102 h102
            obtain ⟨⟨f102, p102, v102⟩, r102⟩ := h102
            have b102 := b90.fr f102 rfl rfl
            have bs102 : PCb o 4 T (setI m102 4 3 z102) := b102.fr (P := fun a => decide (a = 4)) (Fr.rf.set rfl) rfl rfl
            have ps102 : PCx T 4 (setI m102 4 3 z102) (stR 3 (pb (once T 2 st) (num T 16 60))) := PCx.stR p102 v102 (by decide) (fun k => by simp [setI]) (fun L hl => LdC.setF (j := 3) hl (Or.inl rfl) (by decide) (by decide))
            clear hP hD
            have hP := b102.1.2
            have hD := b102.2.2.2.2
            refine R_putI 3 108 rfl dX5_takeLine_105 rfl rfl fl_X5_79 ?_
            refine R_aload_n 109 rfl dX5_takeLine_108 rfl ?_
            refine R_getP 1 112 rfl dX5_takeLine_109 rfl rfl fl_X5_15 hD ?_
            refine R_aload_n 113 rfl dX5_takeLine_112 rfl ?_
            refine R_aload_n 114 rfl dX5_takeLine_113 rfl ?_
            refine R_getP 1 117 rfl dX5_takeLine_114 rfl rfl fl_X5_15 hD ?_
            refine R_getI 3 120 rfl dX5_takeLine_117 rfl rfl fl_X5_79 ?_
            refine R_top (b := z102) (by simp [setI]) ?_
            refine R_bipush 122 rfl dX5_takeLine_120 (by decide) ?_
            refine R_callV_I (M' := mX5_takeNumber) 125 rfl dX5_takeLine_122 ml_X5_71 kmX5_takeNumber im_X5_takeNumber se_X5_takeNumber rfl ⟨by decide, rfl⟩ (c_X5_takeNumber_rg z102 60 (stR 3 (pb (once T 2 st) (num T 16 60))) bs102 ps102 r102 ⟨by omega, by omega⟩) rfl rfl ⟨Nat.le_of_ble_eq_true rfl, Nat.le_of_ble_eq_true rfl⟩ (Nat.le_of_ble_eq_true rfl) ⟨Nat.le_of_ble_eq_true rfl, Nat.le_of_ble_eq_true rfl⟩ ?_
            rintro z122 m122 h122
            obtain ⟨⟨f122, p122, v122⟩, r122⟩ := h122
            rw [num_st (fun z => z) v102] at p122 v122
            have b122 := bs102.fr f122 rfl rfl
            clear hP hD
            have hP := b122.1.2
            have hD := b122.2.2.2.2
            refine R_putI 4 128 rfl dX5_takeLine_125 rfl rfl fl_X5_82 ?_
            refine R_goto 200 rfl dX5_takeLine_128 ?_
            have eb : bodyT T st = if isW T 0 st = true then parishT T st else if isW T 1 st = true then clerkT T st else if isW T 2 st = true then triedT T st else if isW T 3 st = true then ruleT T 1 5 20 2 st else if isW T 4 st = true then agesT T st else if isW T 5 st = true then ruleT T 4 0 999 5 st else if isW T 6 st = true then ruleT T 8 0 8 6 st else .inl (2, st.2.1) := rfl
            first
            | (rw [if_pos (show isW T 0 st = true from h6)] at eb
               exact L200 _ f10 (by rw [eb]; exact p10))
            | (rw [if_neg (show ¬ isW T 0 st = true from h6), if_pos (show isW T 1 st = true from h22)] at eb
               exact L200 _ f26 (by rw [eb]; exact p26))
            | (rw [if_neg (show ¬ isW T 0 st = true from h6), if_neg (show ¬ isW T 1 st = true from h22), if_pos (show isW T 2 st = true from h38)] at eb
               exact L200 _ f42 (by rw [eb]; exact p42))
            | (rw [if_neg (show ¬ isW T 0 st = true from h6), if_neg (show ¬ isW T 1 st = true from h22), if_neg (show ¬ isW T 2 st = true from h38), if_pos (show isW T 3 st = true from h54)] at eb
               exact L200 _ (((f59.tr f70).wk w3).set rfl) (by rw [eb, rule_x]; exact ps70))
            | (rw [if_neg (show ¬ isW T 0 st = true from h6), if_neg (show ¬ isW T 1 st = true from h22), if_neg (show ¬ isW T 2 st = true from h38), if_neg (show ¬ isW T 3 st = true from h54), if_pos (show isW T 4 st = true from h85)] at eb
               exact L200 _ ((((((f90.tr f102).wk w3).set rfl).tr (f122.wk w3))).set rfl) (by rw [eb, ages_x]; exact PCx.stR p122 v122 (by decide) (fun k => by simp [setI]) (fun L hl => LdC.setF (j := 4) hl (Or.inl rfl) (by decide) (by decide))))
            | (rw [if_neg (show ¬ isW T 0 st = true from h6), if_neg (show ¬ isW T 1 st = true from h22), if_neg (show ¬ isW T 2 st = true from h38), if_neg (show ¬ isW T 3 st = true from h54), if_neg (show ¬ isW T 4 st = true from h85), if_pos (show isW T 5 st = true from h137)] at eb
               exact L200 _ (((f142.tr f154).wk w3).set rfl) (by rw [eb, rule_x]; exact ps154))
            | (rw [if_neg (show ¬ isW T 0 st = true from h6), if_neg (show ¬ isW T 1 st = true from h22), if_neg (show ¬ isW T 2 st = true from h38), if_neg (show ¬ isW T 3 st = true from h54), if_neg (show ¬ isW T 4 st = true from h85), if_neg (show ¬ isW T 5 st = true from h137), if_pos (show isW T 6 st = true from h169)] at eb
               exact L200 _ (((f175.tr f186).wk w3).set rfl) (by rw [eb, rule_x]; exact ps186))
            | (rw [if_neg (show ¬ isW T 0 st = true from h6), if_neg (show ¬ isW T 1 st = true from h22), if_neg (show ¬ isW T 2 st = true from h38), if_neg (show ¬ isW T 3 st = true from h54), if_neg (show ¬ isW T 4 st = true from h85), if_neg (show ¬ isW T 5 st = true from h137), if_neg (show ¬ isW T 6 st = true from h169)] at eb
               exact L200 _ (f197.wk w3) (by rw [eb]; exact p197))
        · refine R_aload_n 58 rfl dX5_takeLine_57 rfl ?_
          refine R_iconst 59 rfl dX5_takeLine_58 ?_
          refine R_top (b := ((1 : Nat) : Int)) rfl ?_
          refine R_callV_V (M' := mX5_takeOnce) 62 rfl dX5_takeLine_59 ml_X5_67 kmX5_takeOnce im_X5_takeOnce se_X5_takeOnce rfl ⟨by decide, rfl⟩ (c_X5_takeOnce 1 st (by decide) hb hx) rfl rfl ⟨Nat.le_of_ble_eq_true rfl, Nat.le_of_ble_eq_true rfl⟩ (Nat.le_of_ble_eq_true rfl) ⟨Nat.le_of_ble_eq_true rfl, Nat.le_of_ble_eq_true rfl⟩ ?_
          rintro m59 h59
          obtain ⟨f59, p59⟩ := h59
          have b59 := hb.fr f59 rfl rfl
          have hP := b59.1.2
          have hD := b59.2.2.2.2
          refine R_aload_n 63 rfl dX5_takeLine_62 rfl ?_
          refine R_getP 1 66 rfl dX5_takeLine_63 rfl rfl fl_X5_15 hD ?_
          refine R_aload_n 67 rfl dX5_takeLine_66 rfl ?_
          refine R_iconst 68 rfl dX5_takeLine_67 ?_
          refine R_bipush 70 rfl dX5_takeLine_68 (by decide) ?_
          refine R_callV_I (M' := mX5_takeNumber) 73 rfl dX5_takeLine_70 ml_X5_71 kmX5_takeNumber im_X5_takeNumber se_X5_takeNumber rfl ⟨by decide, rfl⟩ (c_X5_takeNumber_rg 5 20 (once T 1 st) b59 p59 ⟨by omega, by omega⟩ ⟨by omega, by omega⟩) rfl rfl ⟨Nat.le_of_ble_eq_true rfl, Nat.le_of_ble_eq_true rfl⟩ (Nat.le_of_ble_eq_true rfl) ⟨Nat.le_of_ble_eq_true rfl, Nat.le_of_ble_eq_true rfl⟩ ?_
          rintro z70 m70 h70
          obtain ⟨⟨f70, p70, v70⟩, r70⟩ := h70
          have b70 := b59.fr f70 rfl rfl
          have bs70 : PCb o 4 T (setI m70 4 2 z70) := b70.fr (P := fun a => decide (a = 4)) (Fr.rf.set rfl) rfl rfl
          have ps70 : PCx T 4 (setI m70 4 2 z70) (stR 2 (pb (once T 1 st) (num T 5 20))) := PCx.stR p70 v70 (by decide) (fun k => by simp [setI]) (fun L hl => LdC.setF (j := 2) hl (Or.inl rfl) (by decide) (by decide))
          clear hP hD
          have hP := b70.1.2
          have hD := b70.2.2.2.2
          refine R_putI 2 76 rfl dX5_takeLine_73 rfl rfl fl_X5_75 ?_
          refine R_goto 200 rfl dX5_takeLine_76 ?_
          have eb : bodyT T st = if isW T 0 st = true then parishT T st else if isW T 1 st = true then clerkT T st else if isW T 2 st = true then triedT T st else if isW T 3 st = true then ruleT T 1 5 20 2 st else if isW T 4 st = true then agesT T st else if isW T 5 st = true then ruleT T 4 0 999 5 st else if isW T 6 st = true then ruleT T 8 0 8 6 st else .inl (2, st.2.1) := rfl
          first
          | (rw [if_pos (show isW T 0 st = true from h6)] at eb
             exact L200 _ f10 (by rw [eb]; exact p10))
          | (rw [if_neg (show ¬ isW T 0 st = true from h6), if_pos (show isW T 1 st = true from h22)] at eb
             exact L200 _ f26 (by rw [eb]; exact p26))
          | (rw [if_neg (show ¬ isW T 0 st = true from h6), if_neg (show ¬ isW T 1 st = true from h22), if_pos (show isW T 2 st = true from h38)] at eb
             exact L200 _ f42 (by rw [eb]; exact p42))
          | (rw [if_neg (show ¬ isW T 0 st = true from h6), if_neg (show ¬ isW T 1 st = true from h22), if_neg (show ¬ isW T 2 st = true from h38), if_pos (show isW T 3 st = true from h54)] at eb
             exact L200 _ (((f59.tr f70).wk w3).set rfl) (by rw [eb, rule_x]; exact ps70))
          | (rw [if_neg (show ¬ isW T 0 st = true from h6), if_neg (show ¬ isW T 1 st = true from h22), if_neg (show ¬ isW T 2 st = true from h38), if_neg (show ¬ isW T 3 st = true from h54), if_pos (show isW T 4 st = true from h85)] at eb
             exact L200 _ ((((((f90.tr f102).wk w3).set rfl).tr (f122.wk w3))).set rfl) (by rw [eb, ages_x]; exact PCx.stR p122 v122 (by decide) (fun k => by simp [setI]) (fun L hl => LdC.setF (j := 4) hl (Or.inl rfl) (by decide) (by decide))))
          | (rw [if_neg (show ¬ isW T 0 st = true from h6), if_neg (show ¬ isW T 1 st = true from h22), if_neg (show ¬ isW T 2 st = true from h38), if_neg (show ¬ isW T 3 st = true from h54), if_neg (show ¬ isW T 4 st = true from h85), if_pos (show isW T 5 st = true from h137)] at eb
             exact L200 _ (((f142.tr f154).wk w3).set rfl) (by rw [eb, rule_x]; exact ps154))
          | (rw [if_neg (show ¬ isW T 0 st = true from h6), if_neg (show ¬ isW T 1 st = true from h22), if_neg (show ¬ isW T 2 st = true from h38), if_neg (show ¬ isW T 3 st = true from h54), if_neg (show ¬ isW T 4 st = true from h85), if_neg (show ¬ isW T 5 st = true from h137), if_pos (show isW T 6 st = true from h169)] at eb
             exact L200 _ (((f175.tr f186).wk w3).set rfl) (by rw [eb, rule_x]; exact ps186))
          | (rw [if_neg (show ¬ isW T 0 st = true from h6), if_neg (show ¬ isW T 1 st = true from h22), if_neg (show ¬ isW T 2 st = true from h38), if_neg (show ¬ isW T 3 st = true from h54), if_neg (show ¬ isW T 4 st = true from h85), if_neg (show ¬ isW T 5 st = true from h137), if_neg (show ¬ isW T 6 st = true from h169)] at eb
             exact L200 _ (f197.wk w3) (by rw [eb]; exact p197))
      · refine R_aload_n 42 rfl dX5_takeLine_41 rfl ?_
        refine R_callV_V (M' := mX5_takeTried) 45 rfl dX5_takeLine_42 ml_X5_62 kmX5_takeTried im_X5_takeTried se_X5_takeTried rfl ⟨by decide, rfl⟩ (c_X5_takeTried4 st hΓ hb hx) rfl rfl ⟨Nat.le_of_ble_eq_true rfl, Nat.le_of_ble_eq_true rfl⟩ (Nat.le_of_ble_eq_true rfl) ⟨Nat.le_of_ble_eq_true rfl, Nat.le_of_ble_eq_true rfl⟩ ?_
        rintro m42 h42
        obtain ⟨f42, p42⟩ := h42
        refine R_goto 200 rfl dX5_takeLine_45 ?_
        have eb : bodyT T st = if isW T 0 st = true then parishT T st else if isW T 1 st = true then clerkT T st else if isW T 2 st = true then triedT T st else if isW T 3 st = true then ruleT T 1 5 20 2 st else if isW T 4 st = true then agesT T st else if isW T 5 st = true then ruleT T 4 0 999 5 st else if isW T 6 st = true then ruleT T 8 0 8 6 st else .inl (2, st.2.1) := rfl
        first
        | (rw [if_pos (show isW T 0 st = true from h6)] at eb
           exact L200 _ f10 (by rw [eb]; exact p10))
        | (rw [if_neg (show ¬ isW T 0 st = true from h6), if_pos (show isW T 1 st = true from h22)] at eb
           exact L200 _ f26 (by rw [eb]; exact p26))
        | (rw [if_neg (show ¬ isW T 0 st = true from h6), if_neg (show ¬ isW T 1 st = true from h22), if_pos (show isW T 2 st = true from h38)] at eb
           exact L200 _ f42 (by rw [eb]; exact p42))
        | (rw [if_neg (show ¬ isW T 0 st = true from h6), if_neg (show ¬ isW T 1 st = true from h22), if_neg (show ¬ isW T 2 st = true from h38), if_pos (show isW T 3 st = true from h54)] at eb
           exact L200 _ (((f59.tr f70).wk w3).set rfl) (by rw [eb, rule_x]; exact ps70))
        | (rw [if_neg (show ¬ isW T 0 st = true from h6), if_neg (show ¬ isW T 1 st = true from h22), if_neg (show ¬ isW T 2 st = true from h38), if_neg (show ¬ isW T 3 st = true from h54), if_pos (show isW T 4 st = true from h85)] at eb
           exact L200 _ ((((((f90.tr f102).wk w3).set rfl).tr (f122.wk w3))).set rfl) (by rw [eb, ages_x]; exact PCx.stR p122 v122 (by decide) (fun k => by simp [setI]) (fun L hl => LdC.setF (j := 4) hl (Or.inl rfl) (by decide) (by decide))))
        | (rw [if_neg (show ¬ isW T 0 st = true from h6), if_neg (show ¬ isW T 1 st = true from h22), if_neg (show ¬ isW T 2 st = true from h38), if_neg (show ¬ isW T 3 st = true from h54), if_neg (show ¬ isW T 4 st = true from h85), if_pos (show isW T 5 st = true from h137)] at eb
           exact L200 _ (((f142.tr f154).wk w3).set rfl) (by rw [eb, rule_x]; exact ps154))
        | (rw [if_neg (show ¬ isW T 0 st = true from h6), if_neg (show ¬ isW T 1 st = true from h22), if_neg (show ¬ isW T 2 st = true from h38), if_neg (show ¬ isW T 3 st = true from h54), if_neg (show ¬ isW T 4 st = true from h85), if_neg (show ¬ isW T 5 st = true from h137), if_pos (show isW T 6 st = true from h169)] at eb
           exact L200 _ (((f175.tr f186).wk w3).set rfl) (by rw [eb, rule_x]; exact ps186))
        | (rw [if_neg (show ¬ isW T 0 st = true from h6), if_neg (show ¬ isW T 1 st = true from h22), if_neg (show ¬ isW T 2 st = true from h38), if_neg (show ¬ isW T 3 st = true from h54), if_neg (show ¬ isW T 4 st = true from h85), if_neg (show ¬ isW T 5 st = true from h137), if_neg (show ¬ isW T 6 st = true from h169)] at eb
           exact L200 _ (f197.wk w3) (by rw [eb]; exact p197))
    · refine R_aload_n 26 rfl dX5_takeLine_25 rfl ?_
      refine R_callV_V (M' := mX5_takeClerk) 29 rfl dX5_takeLine_26 ml_X5_57 kmX5_takeClerk im_X5_takeClerk se_X5_takeClerk rfl ⟨by decide, rfl⟩ (c_X5_takeClerk4 st hb hx) rfl rfl ⟨Nat.le_of_ble_eq_true rfl, Nat.le_of_ble_eq_true rfl⟩ (Nat.le_of_ble_eq_true rfl) ⟨Nat.le_of_ble_eq_true rfl, Nat.le_of_ble_eq_true rfl⟩ ?_
      rintro m26 h26
      obtain ⟨f26, p26⟩ := h26
      refine R_goto 200 rfl dX5_takeLine_29 ?_
      have eb : bodyT T st = if isW T 0 st = true then parishT T st else if isW T 1 st = true then clerkT T st else if isW T 2 st = true then triedT T st else if isW T 3 st = true then ruleT T 1 5 20 2 st else if isW T 4 st = true then agesT T st else if isW T 5 st = true then ruleT T 4 0 999 5 st else if isW T 6 st = true then ruleT T 8 0 8 6 st else .inl (2, st.2.1) := rfl
      first
      | (rw [if_pos (show isW T 0 st = true from h6)] at eb
         exact L200 _ f10 (by rw [eb]; exact p10))
      | (rw [if_neg (show ¬ isW T 0 st = true from h6), if_pos (show isW T 1 st = true from h22)] at eb
         exact L200 _ f26 (by rw [eb]; exact p26))
      | (rw [if_neg (show ¬ isW T 0 st = true from h6), if_neg (show ¬ isW T 1 st = true from h22), if_pos (show isW T 2 st = true from h38)] at eb
         exact L200 _ f42 (by rw [eb]; exact p42))
      | (rw [if_neg (show ¬ isW T 0 st = true from h6), if_neg (show ¬ isW T 1 st = true from h22), if_neg (show ¬ isW T 2 st = true from h38), if_pos (show isW T 3 st = true from h54)] at eb
         exact L200 _ (((f59.tr f70).wk w3).set rfl) (by rw [eb, rule_x]; exact ps70))
      | (rw [if_neg (show ¬ isW T 0 st = true from h6), if_neg (show ¬ isW T 1 st = true from h22), if_neg (show ¬ isW T 2 st = true from h38), if_neg (show ¬ isW T 3 st = true from h54), if_pos (show isW T 4 st = true from h85)] at eb
         exact L200 _ ((((((f90.tr f102).wk w3).set rfl).tr (f122.wk w3))).set rfl) (by rw [eb, ages_x]; exact PCx.stR p122 v122 (by decide) (fun k => by simp [setI]) (fun L hl => LdC.setF (j := 4) hl (Or.inl rfl) (by decide) (by decide))))
      | (rw [if_neg (show ¬ isW T 0 st = true from h6), if_neg (show ¬ isW T 1 st = true from h22), if_neg (show ¬ isW T 2 st = true from h38), if_neg (show ¬ isW T 3 st = true from h54), if_neg (show ¬ isW T 4 st = true from h85), if_pos (show isW T 5 st = true from h137)] at eb
         exact L200 _ (((f142.tr f154).wk w3).set rfl) (by rw [eb, rule_x]; exact ps154))
      | (rw [if_neg (show ¬ isW T 0 st = true from h6), if_neg (show ¬ isW T 1 st = true from h22), if_neg (show ¬ isW T 2 st = true from h38), if_neg (show ¬ isW T 3 st = true from h54), if_neg (show ¬ isW T 4 st = true from h85), if_neg (show ¬ isW T 5 st = true from h137), if_pos (show isW T 6 st = true from h169)] at eb
         exact L200 _ (((f175.tr f186).wk w3).set rfl) (by rw [eb, rule_x]; exact ps186))
      | (rw [if_neg (show ¬ isW T 0 st = true from h6), if_neg (show ¬ isW T 1 st = true from h22), if_neg (show ¬ isW T 2 st = true from h38), if_neg (show ¬ isW T 3 st = true from h54), if_neg (show ¬ isW T 4 st = true from h85), if_neg (show ¬ isW T 5 st = true from h137), if_neg (show ¬ isW T 6 st = true from h169)] at eb
         exact L200 _ (f197.wk w3) (by rw [eb]; exact p197))
  · refine R_aload_n 10 rfl dX5_takeLine_9 rfl ?_
    refine R_callV_V (M' := mX5_takeParish) 13 rfl dX5_takeLine_10 ml_X5_52 kmX5_takeParish im_X5_takeParish se_X5_takeParish rfl ⟨by decide, rfl⟩ (c_X5_takeParish4 st hΓ hb hx) rfl rfl ⟨Nat.le_of_ble_eq_true rfl, Nat.le_of_ble_eq_true rfl⟩ (Nat.le_of_ble_eq_true rfl) ⟨Nat.le_of_ble_eq_true rfl, Nat.le_of_ble_eq_true rfl⟩ ?_
    rintro m10 h10
    obtain ⟨f10, p10⟩ := h10
    refine R_goto 200 rfl dX5_takeLine_13 ?_
    have eb : bodyT T st = if isW T 0 st = true then parishT T st else if isW T 1 st = true then clerkT T st else if isW T 2 st = true then triedT T st else if isW T 3 st = true then ruleT T 1 5 20 2 st else if isW T 4 st = true then agesT T st else if isW T 5 st = true then ruleT T 4 0 999 5 st else if isW T 6 st = true then ruleT T 8 0 8 6 st else .inl (2, st.2.1) := rfl
    first
    | (rw [if_pos (show isW T 0 st = true from h6)] at eb
       exact L200 _ f10 (by rw [eb]; exact p10))
    | (rw [if_neg (show ¬ isW T 0 st = true from h6), if_pos (show isW T 1 st = true from h22)] at eb
       exact L200 _ f26 (by rw [eb]; exact p26))
    | (rw [if_neg (show ¬ isW T 0 st = true from h6), if_neg (show ¬ isW T 1 st = true from h22), if_pos (show isW T 2 st = true from h38)] at eb
       exact L200 _ f42 (by rw [eb]; exact p42))
    | (rw [if_neg (show ¬ isW T 0 st = true from h6), if_neg (show ¬ isW T 1 st = true from h22), if_neg (show ¬ isW T 2 st = true from h38), if_pos (show isW T 3 st = true from h54)] at eb
       exact L200 _ (((f59.tr f70).wk w3).set rfl) (by rw [eb, rule_x]; exact ps70))
    | (rw [if_neg (show ¬ isW T 0 st = true from h6), if_neg (show ¬ isW T 1 st = true from h22), if_neg (show ¬ isW T 2 st = true from h38), if_neg (show ¬ isW T 3 st = true from h54), if_pos (show isW T 4 st = true from h85)] at eb
       exact L200 _ ((((((f90.tr f102).wk w3).set rfl).tr (f122.wk w3))).set rfl) (by rw [eb, ages_x]; exact PCx.stR p122 v122 (by decide) (fun k => by simp [setI]) (fun L hl => LdC.setF (j := 4) hl (Or.inl rfl) (by decide) (by decide))))
    | (rw [if_neg (show ¬ isW T 0 st = true from h6), if_neg (show ¬ isW T 1 st = true from h22), if_neg (show ¬ isW T 2 st = true from h38), if_neg (show ¬ isW T 3 st = true from h54), if_neg (show ¬ isW T 4 st = true from h85), if_pos (show isW T 5 st = true from h137)] at eb
       exact L200 _ (((f142.tr f154).wk w3).set rfl) (by rw [eb, rule_x]; exact ps154))
    | (rw [if_neg (show ¬ isW T 0 st = true from h6), if_neg (show ¬ isW T 1 st = true from h22), if_neg (show ¬ isW T 2 st = true from h38), if_neg (show ¬ isW T 3 st = true from h54), if_neg (show ¬ isW T 4 st = true from h85), if_neg (show ¬ isW T 5 st = true from h137), if_pos (show isW T 6 st = true from h169)] at eb
       exact L200 _ (((f175.tr f186).wk w3).set rfl) (by rw [eb, rule_x]; exact ps186))
    | (rw [if_neg (show ¬ isW T 0 st = true from h6), if_neg (show ¬ isW T 1 st = true from h22), if_neg (show ¬ isW T 2 st = true from h38), if_neg (show ¬ isW T 3 st = true from h54), if_neg (show ¬ isW T 4 st = true from h85), if_neg (show ¬ isW T 5 st = true from h137), if_neg (show ¬ isW T 6 st = true from h169)] at eb
       exact L200 _ (f197.wk w3) (by rw [eb]; exact p197))
theorem c_X5_takeLine17 (st : St) (hΓ : GOk Γ) (hb : PCb o 17 T m) (hx : PCa T 17 m st) : C Γ mX5_takeLine 7 280 0 0 [vr 3] SH m (QV SH (fun m' => Fr (isRD 17) m m' ∧ PCx T 17 m' (lineT T st))) := by
  refine C_of_R rfl (Nat.le_of_ble_eq_true rfl) ?_
  have w3 : ∀ a, isRD 17 a = false → is3 a = false := fun a h => by simp [isRD] at h; simp [is3]; omega
  have r1 : isRD 17 1 = false := rfl
  have r2 : isRD 17 2 = false := rfl
  have hx0 : PCx T 17 m (.inr st) := hx
  have L200 : ∀ m1, Fr (isRD 17) m m1 → PCx T 17 m1 (bodyT T st) → R Γ mX5_takeLine { frames := 7, cells := 0, slots := 0, locals := 280 } 0 0 (QV SH (fun m' => Fr (isRD 17) m m' ∧ PCx T 17 m' (lineT T st))) 0 0 200 [some (vr 3)] [] SH m1 := by
    intro m1 fm pm
    refine R_aload_n 201 rfl dX5_takeLine_200 rfl ?_
    refine R_callV_V (M' := mX5_takeStop) 204 rfl dX5_takeLine_201 ml_X5_96 kmX5_takeStop im_X5_takeStop se_X5_takeStop rfl ⟨by decide, rfl⟩ (c_X5_takeStop (bodyT T st) (hb.fr fm r1 r2) pm) rfl rfl ⟨Nat.le_of_ble_eq_true rfl, Nat.le_of_ble_eq_true rfl⟩ (Nat.le_of_ble_eq_true rfl) ⟨Nat.le_of_ble_eq_true rfl, Nat.le_of_ble_eq_true rfl⟩ ?_
    rintro m201 h201
    obtain ⟨f201, p201⟩ := h201
    refine R_return dX5_takeLine_204 rfl ?_
    exact QV_mk ⟨fm.tr (f201.wk w3), p201⟩
  refine R_aload_n 1 rfl dX5_takeLine_0 rfl ?_
  refine R_ldcS 0 3 rfl dX5_takeLine_1 rfl (by decide) ?_
  refine R_callV_i (M' := mX5_isWord) 6 rfl dX5_takeLine_3 ml_X5_48 kmX5_isWord im_X5_isWord se_X5_isWord rfl ⟨by decide, rfl⟩ (c_X5_isWord 0 (.inr st) hΓ (by decide) hb hx0) rfl rfl ⟨Nat.le_of_ble_eq_true rfl, Nat.le_of_ble_eq_true rfl⟩ (Nat.le_of_ble_eq_true rfl) ⟨Nat.le_of_ble_eq_true rfl, Nat.le_of_ble_eq_true rfl⟩ ?_
  refine R_ifp_eq 9 16 rfl rfl dX5_takeLine_6 (fun h6 => ?_) (fun h6 => ?_)
  · refine R_aload_n 17 rfl dX5_takeLine_16 rfl ?_
    refine R_ldcS 1 19 rfl dX5_takeLine_17 rfl (by decide) ?_
    refine R_callV_i (M' := mX5_isWord) 22 rfl dX5_takeLine_19 ml_X5_48 kmX5_isWord im_X5_isWord se_X5_isWord rfl ⟨by decide, rfl⟩ (c_X5_isWord 1 (.inr st) hΓ (by decide) hb hx0) rfl rfl ⟨Nat.le_of_ble_eq_true rfl, Nat.le_of_ble_eq_true rfl⟩ (Nat.le_of_ble_eq_true rfl) ⟨Nat.le_of_ble_eq_true rfl, Nat.le_of_ble_eq_true rfl⟩ ?_
    refine R_ifp_eq 25 32 rfl rfl dX5_takeLine_22 (fun h22 => ?_) (fun h22 => ?_)
    · refine R_aload_n 33 rfl dX5_takeLine_32 rfl ?_
      refine R_ldcS 2 35 rfl dX5_takeLine_33 rfl (by decide) ?_
      refine R_callV_i (M' := mX5_isWord) 38 rfl dX5_takeLine_35 ml_X5_48 kmX5_isWord im_X5_isWord se_X5_isWord rfl ⟨by decide, rfl⟩ (c_X5_isWord 2 (.inr st) hΓ (by decide) hb hx0) rfl rfl ⟨Nat.le_of_ble_eq_true rfl, Nat.le_of_ble_eq_true rfl⟩ (Nat.le_of_ble_eq_true rfl) ⟨Nat.le_of_ble_eq_true rfl, Nat.le_of_ble_eq_true rfl⟩ ?_
      refine R_ifp_eq 41 48 rfl rfl dX5_takeLine_38 (fun h38 => ?_) (fun h38 => ?_)
      · refine R_aload_n 49 rfl dX5_takeLine_48 rfl ?_
        refine R_ldcS 3 51 rfl dX5_takeLine_49 rfl (by decide) ?_
        refine R_callV_i (M' := mX5_isWord) 54 rfl dX5_takeLine_51 ml_X5_48 kmX5_isWord im_X5_isWord se_X5_isWord rfl ⟨by decide, rfl⟩ (c_X5_isWord 3 (.inr st) hΓ (by decide) hb hx0) rfl rfl ⟨Nat.le_of_ble_eq_true rfl, Nat.le_of_ble_eq_true rfl⟩ (Nat.le_of_ble_eq_true rfl) ⟨Nat.le_of_ble_eq_true rfl, Nat.le_of_ble_eq_true rfl⟩ ?_
        refine R_ifp_eq 57 79 rfl rfl dX5_takeLine_54 (fun h54 => ?_) (fun h54 => ?_)
        · refine R_aload_n 80 rfl dX5_takeLine_79 rfl ?_
          refine R_ldcS 4 82 rfl dX5_takeLine_80 rfl (by decide) ?_
          refine R_callV_i (M' := mX5_isWord) 85 rfl dX5_takeLine_82 ml_X5_48 kmX5_isWord im_X5_isWord se_X5_isWord rfl ⟨by decide, rfl⟩ (c_X5_isWord 4 (.inr st) hΓ (by decide) hb hx0) rfl rfl ⟨Nat.le_of_ble_eq_true rfl, Nat.le_of_ble_eq_true rfl⟩ (Nat.le_of_ble_eq_true rfl) ⟨Nat.le_of_ble_eq_true rfl, Nat.le_of_ble_eq_true rfl⟩ ?_
          refine R_ifp_eq 88 131 rfl rfl dX5_takeLine_85 (fun h85 => ?_) (fun h85 => ?_)
          · refine R_aload_n 132 rfl dX5_takeLine_131 rfl ?_
            refine R_ldcS 5 134 rfl dX5_takeLine_132 rfl (by decide) ?_
            refine R_callV_i (M' := mX5_isWord) 137 rfl dX5_takeLine_134 ml_X5_48 kmX5_isWord im_X5_isWord se_X5_isWord rfl ⟨by decide, rfl⟩ (c_X5_isWord 5 (.inr st) hΓ (by decide) hb hx0) rfl rfl ⟨Nat.le_of_ble_eq_true rfl, Nat.le_of_ble_eq_true rfl⟩ (Nat.le_of_ble_eq_true rfl) ⟨Nat.le_of_ble_eq_true rfl, Nat.le_of_ble_eq_true rfl⟩ ?_
            refine R_ifp_eq 140 163 rfl rfl dX5_takeLine_137 (fun h137 => ?_) (fun h137 => ?_)
            · refine R_aload_n 164 rfl dX5_takeLine_163 rfl ?_
              refine R_ldcS 6 166 rfl dX5_takeLine_164 rfl (by decide) ?_
              refine R_callV_i (M' := mX5_isWord) 169 rfl dX5_takeLine_166 ml_X5_48 kmX5_isWord im_X5_isWord se_X5_isWord rfl ⟨by decide, rfl⟩ (c_X5_isWord 6 (.inr st) hΓ (by decide) hb hx0) rfl rfl ⟨Nat.le_of_ble_eq_true rfl, Nat.le_of_ble_eq_true rfl⟩ (Nat.le_of_ble_eq_true rfl) ⟨Nat.le_of_ble_eq_true rfl, Nat.le_of_ble_eq_true rfl⟩ ?_
              refine R_ifp_eq 172 195 rfl rfl dX5_takeLine_169 (fun h169 => ?_) (fun h169 => ?_)
              · refine R_aload_n 196 rfl dX5_takeLine_195 rfl ?_
                refine R_iconst 197 rfl dX5_takeLine_196 ?_
                refine R_callV_V (M' := mX5_refuse) 200 rfl dX5_takeLine_197 ml_X5_93 kmX5_refuse im_X5_refuse se_X5_refuse rfl ⟨by decide, rfl⟩ (c_X5_refuse 2 _ hx0 (by omega)) rfl rfl ⟨Nat.le_of_ble_eq_true rfl, Nat.le_of_ble_eq_true rfl⟩ (Nat.le_of_ble_eq_true rfl) ⟨Nat.le_of_ble_eq_true rfl, Nat.le_of_ble_eq_true rfl⟩ ?_
                rintro m197 h197
                obtain ⟨f197, p197⟩ := h197
                have eb : bodyT T st = if isW T 0 st = true then parishT T st else if isW T 1 st = true then clerkT T st else if isW T 2 st = true then triedT T st else if isW T 3 st = true then ruleT T 1 5 20 2 st else if isW T 4 st = true then agesT T st else if isW T 5 st = true then ruleT T 4 0 999 5 st else if isW T 6 st = true then ruleT T 8 0 8 6 st else .inl (2, st.2.1) := rfl
                first
                | (rw [if_pos (show isW T 0 st = true from h6)] at eb
                   exact L200 _ f10 (by rw [eb]; exact p10))
                | (rw [if_neg (show ¬ isW T 0 st = true from h6), if_pos (show isW T 1 st = true from h22)] at eb
                   exact L200 _ f26 (by rw [eb]; exact p26))
                | (rw [if_neg (show ¬ isW T 0 st = true from h6), if_neg (show ¬ isW T 1 st = true from h22), if_pos (show isW T 2 st = true from h38)] at eb
                   exact L200 _ f42 (by rw [eb]; exact p42))
                | (rw [if_neg (show ¬ isW T 0 st = true from h6), if_neg (show ¬ isW T 1 st = true from h22), if_neg (show ¬ isW T 2 st = true from h38), if_pos (show isW T 3 st = true from h54)] at eb
                   exact L200 _ (((f59.tr f70).wk w3).set rfl) (by rw [eb, rule_x]; exact ps70))
                | (rw [if_neg (show ¬ isW T 0 st = true from h6), if_neg (show ¬ isW T 1 st = true from h22), if_neg (show ¬ isW T 2 st = true from h38), if_neg (show ¬ isW T 3 st = true from h54), if_pos (show isW T 4 st = true from h85)] at eb
                   exact L200 _ ((((((f90.tr f102).wk w3).set rfl).tr (f122.wk w3))).set rfl) (by rw [eb, ages_x]; exact PCx.stR p122 v122 (by decide) (fun k => by simp [setI]) (fun L hl => LdC.setF (j := 4) hl (Or.inr rfl) (by decide) (by decide))))
                | (rw [if_neg (show ¬ isW T 0 st = true from h6), if_neg (show ¬ isW T 1 st = true from h22), if_neg (show ¬ isW T 2 st = true from h38), if_neg (show ¬ isW T 3 st = true from h54), if_neg (show ¬ isW T 4 st = true from h85), if_pos (show isW T 5 st = true from h137)] at eb
                   exact L200 _ (((f142.tr f154).wk w3).set rfl) (by rw [eb, rule_x]; exact ps154))
                | (rw [if_neg (show ¬ isW T 0 st = true from h6), if_neg (show ¬ isW T 1 st = true from h22), if_neg (show ¬ isW T 2 st = true from h38), if_neg (show ¬ isW T 3 st = true from h54), if_neg (show ¬ isW T 4 st = true from h85), if_neg (show ¬ isW T 5 st = true from h137), if_pos (show isW T 6 st = true from h169)] at eb
                   exact L200 _ (((f175.tr f186).wk w3).set rfl) (by rw [eb, rule_x]; exact ps186))
                | (rw [if_neg (show ¬ isW T 0 st = true from h6), if_neg (show ¬ isW T 1 st = true from h22), if_neg (show ¬ isW T 2 st = true from h38), if_neg (show ¬ isW T 3 st = true from h54), if_neg (show ¬ isW T 4 st = true from h85), if_neg (show ¬ isW T 5 st = true from h137), if_neg (show ¬ isW T 6 st = true from h169)] at eb
                   exact L200 _ (f197.wk w3) (by rw [eb]; exact p197))
              · refine R_aload_n 173 rfl dX5_takeLine_172 rfl ?_
                refine R_bipush 175 rfl dX5_takeLine_173 (by decide) ?_
                refine R_top (b := ((8 : Nat) : Int)) rfl ?_
                refine R_callV_V (M' := mX5_takeOnce) 178 rfl dX5_takeLine_175 ml_X5_67 kmX5_takeOnce im_X5_takeOnce se_X5_takeOnce rfl ⟨by decide, rfl⟩ (c_X5_takeOnce 8 st (by decide) hb hx) rfl rfl ⟨Nat.le_of_ble_eq_true rfl, Nat.le_of_ble_eq_true rfl⟩ (Nat.le_of_ble_eq_true rfl) ⟨Nat.le_of_ble_eq_true rfl, Nat.le_of_ble_eq_true rfl⟩ ?_
                rintro m175 h175
                obtain ⟨f175, p175⟩ := h175
                have b175 := hb.fr f175 rfl rfl
                have hP := b175.1.2
                have hD := b175.2.2.2.2
                refine R_aload_n 179 rfl dX5_takeLine_178 rfl ?_
                refine R_getP 1 182 rfl dX5_takeLine_179 rfl rfl fl_X5_15 hD ?_
                refine R_aload_n 183 rfl dX5_takeLine_182 rfl ?_
                refine R_iconst 184 rfl dX5_takeLine_183 ?_
                refine R_bipush 186 rfl dX5_takeLine_184 (by decide) ?_
                refine R_callV_I (M' := mX5_takeNumber) 189 rfl dX5_takeLine_186 ml_X5_71 kmX5_takeNumber im_X5_takeNumber se_X5_takeNumber rfl ⟨by decide, rfl⟩ (c_X5_takeNumber_rg 0 8 (once T 8 st) b175 p175 ⟨by omega, by omega⟩ ⟨by omega, by omega⟩) rfl rfl ⟨Nat.le_of_ble_eq_true rfl, Nat.le_of_ble_eq_true rfl⟩ (Nat.le_of_ble_eq_true rfl) ⟨Nat.le_of_ble_eq_true rfl, Nat.le_of_ble_eq_true rfl⟩ ?_
                rintro z186 m186 h186
                obtain ⟨⟨f186, p186, v186⟩, r186⟩ := h186
                have b186 := b175.fr f186 rfl rfl
                have bs186 : PCb o 17 T (setI m186 17 6 z186) := b186.fr (P := fun a => decide (a = 17)) (Fr.rf.set rfl) rfl rfl
                have ps186 : PCx T 17 (setI m186 17 6 z186) (stR 6 (pb (once T 8 st) (num T 0 8))) := PCx.stR p186 v186 (by decide) (fun k => by simp [setI]) (fun L hl => LdC.setF (j := 6) hl (Or.inr rfl) (by decide) (by decide))
                clear hP hD
                have hP := b186.1.2
                have hD := b186.2.2.2.2
                refine R_putI 6 192 rfl dX5_takeLine_189 rfl rfl fl_X5_91 ?_
                refine R_goto 200 rfl dX5_takeLine_192 ?_
                have eb : bodyT T st = if isW T 0 st = true then parishT T st else if isW T 1 st = true then clerkT T st else if isW T 2 st = true then triedT T st else if isW T 3 st = true then ruleT T 1 5 20 2 st else if isW T 4 st = true then agesT T st else if isW T 5 st = true then ruleT T 4 0 999 5 st else if isW T 6 st = true then ruleT T 8 0 8 6 st else .inl (2, st.2.1) := rfl
                first
                | (rw [if_pos (show isW T 0 st = true from h6)] at eb
                   exact L200 _ f10 (by rw [eb]; exact p10))
                | (rw [if_neg (show ¬ isW T 0 st = true from h6), if_pos (show isW T 1 st = true from h22)] at eb
                   exact L200 _ f26 (by rw [eb]; exact p26))
                | (rw [if_neg (show ¬ isW T 0 st = true from h6), if_neg (show ¬ isW T 1 st = true from h22), if_pos (show isW T 2 st = true from h38)] at eb
                   exact L200 _ f42 (by rw [eb]; exact p42))
                | (rw [if_neg (show ¬ isW T 0 st = true from h6), if_neg (show ¬ isW T 1 st = true from h22), if_neg (show ¬ isW T 2 st = true from h38), if_pos (show isW T 3 st = true from h54)] at eb
                   exact L200 _ (((f59.tr f70).wk w3).set rfl) (by rw [eb, rule_x]; exact ps70))
                | (rw [if_neg (show ¬ isW T 0 st = true from h6), if_neg (show ¬ isW T 1 st = true from h22), if_neg (show ¬ isW T 2 st = true from h38), if_neg (show ¬ isW T 3 st = true from h54), if_pos (show isW T 4 st = true from h85)] at eb
                   exact L200 _ ((((((f90.tr f102).wk w3).set rfl).tr (f122.wk w3))).set rfl) (by rw [eb, ages_x]; exact PCx.stR p122 v122 (by decide) (fun k => by simp [setI]) (fun L hl => LdC.setF (j := 4) hl (Or.inr rfl) (by decide) (by decide))))
                | (rw [if_neg (show ¬ isW T 0 st = true from h6), if_neg (show ¬ isW T 1 st = true from h22), if_neg (show ¬ isW T 2 st = true from h38), if_neg (show ¬ isW T 3 st = true from h54), if_neg (show ¬ isW T 4 st = true from h85), if_pos (show isW T 5 st = true from h137)] at eb
                   exact L200 _ (((f142.tr f154).wk w3).set rfl) (by rw [eb, rule_x]; exact ps154))
                | (rw [if_neg (show ¬ isW T 0 st = true from h6), if_neg (show ¬ isW T 1 st = true from h22), if_neg (show ¬ isW T 2 st = true from h38), if_neg (show ¬ isW T 3 st = true from h54), if_neg (show ¬ isW T 4 st = true from h85), if_neg (show ¬ isW T 5 st = true from h137), if_pos (show isW T 6 st = true from h169)] at eb
                   exact L200 _ (((f175.tr f186).wk w3).set rfl) (by rw [eb, rule_x]; exact ps186))
                | (rw [if_neg (show ¬ isW T 0 st = true from h6), if_neg (show ¬ isW T 1 st = true from h22), if_neg (show ¬ isW T 2 st = true from h38), if_neg (show ¬ isW T 3 st = true from h54), if_neg (show ¬ isW T 4 st = true from h85), if_neg (show ¬ isW T 5 st = true from h137), if_neg (show ¬ isW T 6 st = true from h169)] at eb
                   exact L200 _ (f197.wk w3) (by rw [eb]; exact p197))
            · refine R_aload_n 141 rfl dX5_takeLine_140 rfl ?_
              refine R_iconst 142 rfl dX5_takeLine_141 ?_
              refine R_top (b := ((4 : Nat) : Int)) rfl ?_
              refine R_callV_V (M' := mX5_takeOnce) 145 rfl dX5_takeLine_142 ml_X5_67 kmX5_takeOnce im_X5_takeOnce se_X5_takeOnce rfl ⟨by decide, rfl⟩ (c_X5_takeOnce 4 st (by decide) hb hx) rfl rfl ⟨Nat.le_of_ble_eq_true rfl, Nat.le_of_ble_eq_true rfl⟩ (Nat.le_of_ble_eq_true rfl) ⟨Nat.le_of_ble_eq_true rfl, Nat.le_of_ble_eq_true rfl⟩ ?_
              rintro m142 h142
              obtain ⟨f142, p142⟩ := h142
              have b142 := hb.fr f142 rfl rfl
              have hP := b142.1.2
              have hD := b142.2.2.2.2
              refine R_aload_n 146 rfl dX5_takeLine_145 rfl ?_
              refine R_getP 1 149 rfl dX5_takeLine_146 rfl rfl fl_X5_15 hD ?_
              refine R_aload_n 150 rfl dX5_takeLine_149 rfl ?_
              refine R_iconst 151 rfl dX5_takeLine_150 ?_
              refine R_sipush 154 rfl dX5_takeLine_151 (by decide) ?_
              refine R_callV_I (M' := mX5_takeNumber) 157 rfl dX5_takeLine_154 ml_X5_71 kmX5_takeNumber im_X5_takeNumber se_X5_takeNumber rfl ⟨by decide, rfl⟩ (c_X5_takeNumber_rg 0 999 (once T 4 st) b142 p142 ⟨by omega, by omega⟩ ⟨by omega, by omega⟩) rfl rfl ⟨Nat.le_of_ble_eq_true rfl, Nat.le_of_ble_eq_true rfl⟩ (Nat.le_of_ble_eq_true rfl) ⟨Nat.le_of_ble_eq_true rfl, Nat.le_of_ble_eq_true rfl⟩ ?_
              rintro z154 m154 h154
              obtain ⟨⟨f154, p154, v154⟩, r154⟩ := h154
              have b154 := b142.fr f154 rfl rfl
              have bs154 : PCb o 17 T (setI m154 17 5 z154) := b154.fr (P := fun a => decide (a = 17)) (Fr.rf.set rfl) rfl rfl
              have ps154 : PCx T 17 (setI m154 17 5 z154) (stR 5 (pb (once T 4 st) (num T 0 999))) := PCx.stR p154 v154 (by decide) (fun k => by simp [setI]) (fun L hl => LdC.setF (j := 5) hl (Or.inr rfl) (by decide) (by decide))
              clear hP hD
              have hP := b154.1.2
              have hD := b154.2.2.2.2
              refine R_putI 5 160 rfl dX5_takeLine_157 rfl rfl fl_X5_87 ?_
              refine R_goto 200 rfl dX5_takeLine_160 ?_
              have eb : bodyT T st = if isW T 0 st = true then parishT T st else if isW T 1 st = true then clerkT T st else if isW T 2 st = true then triedT T st else if isW T 3 st = true then ruleT T 1 5 20 2 st else if isW T 4 st = true then agesT T st else if isW T 5 st = true then ruleT T 4 0 999 5 st else if isW T 6 st = true then ruleT T 8 0 8 6 st else .inl (2, st.2.1) := rfl
              first
              | (rw [if_pos (show isW T 0 st = true from h6)] at eb
                 exact L200 _ f10 (by rw [eb]; exact p10))
              | (rw [if_neg (show ¬ isW T 0 st = true from h6), if_pos (show isW T 1 st = true from h22)] at eb
                 exact L200 _ f26 (by rw [eb]; exact p26))
              | (rw [if_neg (show ¬ isW T 0 st = true from h6), if_neg (show ¬ isW T 1 st = true from h22), if_pos (show isW T 2 st = true from h38)] at eb
                 exact L200 _ f42 (by rw [eb]; exact p42))
              | (rw [if_neg (show ¬ isW T 0 st = true from h6), if_neg (show ¬ isW T 1 st = true from h22), if_neg (show ¬ isW T 2 st = true from h38), if_pos (show isW T 3 st = true from h54)] at eb
                 exact L200 _ (((f59.tr f70).wk w3).set rfl) (by rw [eb, rule_x]; exact ps70))
              | (rw [if_neg (show ¬ isW T 0 st = true from h6), if_neg (show ¬ isW T 1 st = true from h22), if_neg (show ¬ isW T 2 st = true from h38), if_neg (show ¬ isW T 3 st = true from h54), if_pos (show isW T 4 st = true from h85)] at eb
                 exact L200 _ ((((((f90.tr f102).wk w3).set rfl).tr (f122.wk w3))).set rfl) (by rw [eb, ages_x]; exact PCx.stR p122 v122 (by decide) (fun k => by simp [setI]) (fun L hl => LdC.setF (j := 4) hl (Or.inr rfl) (by decide) (by decide))))
              | (rw [if_neg (show ¬ isW T 0 st = true from h6), if_neg (show ¬ isW T 1 st = true from h22), if_neg (show ¬ isW T 2 st = true from h38), if_neg (show ¬ isW T 3 st = true from h54), if_neg (show ¬ isW T 4 st = true from h85), if_pos (show isW T 5 st = true from h137)] at eb
                 exact L200 _ (((f142.tr f154).wk w3).set rfl) (by rw [eb, rule_x]; exact ps154))
              | (rw [if_neg (show ¬ isW T 0 st = true from h6), if_neg (show ¬ isW T 1 st = true from h22), if_neg (show ¬ isW T 2 st = true from h38), if_neg (show ¬ isW T 3 st = true from h54), if_neg (show ¬ isW T 4 st = true from h85), if_neg (show ¬ isW T 5 st = true from h137), if_pos (show isW T 6 st = true from h169)] at eb
                 exact L200 _ (((f175.tr f186).wk w3).set rfl) (by rw [eb, rule_x]; exact ps186))
              | (rw [if_neg (show ¬ isW T 0 st = true from h6), if_neg (show ¬ isW T 1 st = true from h22), if_neg (show ¬ isW T 2 st = true from h38), if_neg (show ¬ isW T 3 st = true from h54), if_neg (show ¬ isW T 4 st = true from h85), if_neg (show ¬ isW T 5 st = true from h137), if_neg (show ¬ isW T 6 st = true from h169)] at eb
                 exact L200 _ (f197.wk w3) (by rw [eb]; exact p197))
          · refine R_aload_n 89 rfl dX5_takeLine_88 rfl ?_
            refine R_iconst 90 rfl dX5_takeLine_89 ?_
            refine R_top (b := ((2 : Nat) : Int)) rfl ?_
            refine R_callV_V (M' := mX5_takeOnce) 93 rfl dX5_takeLine_90 ml_X5_67 kmX5_takeOnce im_X5_takeOnce se_X5_takeOnce rfl ⟨by decide, rfl⟩ (c_X5_takeOnce 2 st (by decide) hb hx) rfl rfl ⟨Nat.le_of_ble_eq_true rfl, Nat.le_of_ble_eq_true rfl⟩ (Nat.le_of_ble_eq_true rfl) ⟨Nat.le_of_ble_eq_true rfl, Nat.le_of_ble_eq_true rfl⟩ ?_
            rintro m90 h90
            obtain ⟨f90, p90⟩ := h90
            have b90 := hb.fr f90 rfl rfl
            have hP := b90.1.2
            have hD := b90.2.2.2.2
            refine R_aload_n 94 rfl dX5_takeLine_93 rfl ?_
            refine R_getP 1 97 rfl dX5_takeLine_94 rfl rfl fl_X5_15 hD ?_
            refine R_aload_n 98 rfl dX5_takeLine_97 rfl ?_
            refine R_bipush 100 rfl dX5_takeLine_98 (by decide) ?_
            refine R_bipush 102 rfl dX5_takeLine_100 (by decide) ?_
            refine R_callV_I (M' := mX5_takeNumber) 105 rfl dX5_takeLine_102 ml_X5_71 kmX5_takeNumber im_X5_takeNumber se_X5_takeNumber rfl ⟨by decide, rfl⟩ (c_X5_takeNumber_rg 16 60 (once T 2 st) b90 p90 ⟨by omega, by omega⟩ ⟨by omega, by omega⟩) rfl rfl ⟨Nat.le_of_ble_eq_true rfl, Nat.le_of_ble_eq_true rfl⟩ (Nat.le_of_ble_eq_true rfl) ⟨Nat.le_of_ble_eq_true rfl, Nat.le_of_ble_eq_true rfl⟩ ?_
            rintro z102 m102 h102
            obtain ⟨⟨f102, p102, v102⟩, r102⟩ := h102
            have b102 := b90.fr f102 rfl rfl
            have bs102 : PCb o 17 T (setI m102 17 3 z102) := b102.fr (P := fun a => decide (a = 17)) (Fr.rf.set rfl) rfl rfl
            have ps102 : PCx T 17 (setI m102 17 3 z102) (stR 3 (pb (once T 2 st) (num T 16 60))) := PCx.stR p102 v102 (by decide) (fun k => by simp [setI]) (fun L hl => LdC.setF (j := 3) hl (Or.inr rfl) (by decide) (by decide))
            clear hP hD
            have hP := b102.1.2
            have hD := b102.2.2.2.2
            refine R_putI 3 108 rfl dX5_takeLine_105 rfl rfl fl_X5_79 ?_
            refine R_aload_n 109 rfl dX5_takeLine_108 rfl ?_
            refine R_getP 1 112 rfl dX5_takeLine_109 rfl rfl fl_X5_15 hD ?_
            refine R_aload_n 113 rfl dX5_takeLine_112 rfl ?_
            refine R_aload_n 114 rfl dX5_takeLine_113 rfl ?_
            refine R_getP 1 117 rfl dX5_takeLine_114 rfl rfl fl_X5_15 hD ?_
            refine R_getI 3 120 rfl dX5_takeLine_117 rfl rfl fl_X5_79 ?_
            refine R_top (b := z102) (by simp [setI]) ?_
            refine R_bipush 122 rfl dX5_takeLine_120 (by decide) ?_
            refine R_callV_I (M' := mX5_takeNumber) 125 rfl dX5_takeLine_122 ml_X5_71 kmX5_takeNumber im_X5_takeNumber se_X5_takeNumber rfl ⟨by decide, rfl⟩ (c_X5_takeNumber_rg z102 60 (stR 3 (pb (once T 2 st) (num T 16 60))) bs102 ps102 r102 ⟨by omega, by omega⟩) rfl rfl ⟨Nat.le_of_ble_eq_true rfl, Nat.le_of_ble_eq_true rfl⟩ (Nat.le_of_ble_eq_true rfl) ⟨Nat.le_of_ble_eq_true rfl, Nat.le_of_ble_eq_true rfl⟩ ?_
            rintro z122 m122 h122
            obtain ⟨⟨f122, p122, v122⟩, r122⟩ := h122
            rw [num_st (fun z => z) v102] at p122 v122
            have b122 := bs102.fr f122 rfl rfl
            clear hP hD
            have hP := b122.1.2
            have hD := b122.2.2.2.2
            refine R_putI 4 128 rfl dX5_takeLine_125 rfl rfl fl_X5_82 ?_
            refine R_goto 200 rfl dX5_takeLine_128 ?_
            have eb : bodyT T st = if isW T 0 st = true then parishT T st else if isW T 1 st = true then clerkT T st else if isW T 2 st = true then triedT T st else if isW T 3 st = true then ruleT T 1 5 20 2 st else if isW T 4 st = true then agesT T st else if isW T 5 st = true then ruleT T 4 0 999 5 st else if isW T 6 st = true then ruleT T 8 0 8 6 st else .inl (2, st.2.1) := rfl
            first
            | (rw [if_pos (show isW T 0 st = true from h6)] at eb
               exact L200 _ f10 (by rw [eb]; exact p10))
            | (rw [if_neg (show ¬ isW T 0 st = true from h6), if_pos (show isW T 1 st = true from h22)] at eb
               exact L200 _ f26 (by rw [eb]; exact p26))
            | (rw [if_neg (show ¬ isW T 0 st = true from h6), if_neg (show ¬ isW T 1 st = true from h22), if_pos (show isW T 2 st = true from h38)] at eb
               exact L200 _ f42 (by rw [eb]; exact p42))
            | (rw [if_neg (show ¬ isW T 0 st = true from h6), if_neg (show ¬ isW T 1 st = true from h22), if_neg (show ¬ isW T 2 st = true from h38), if_pos (show isW T 3 st = true from h54)] at eb
               exact L200 _ (((f59.tr f70).wk w3).set rfl) (by rw [eb, rule_x]; exact ps70))
            | (rw [if_neg (show ¬ isW T 0 st = true from h6), if_neg (show ¬ isW T 1 st = true from h22), if_neg (show ¬ isW T 2 st = true from h38), if_neg (show ¬ isW T 3 st = true from h54), if_pos (show isW T 4 st = true from h85)] at eb
               exact L200 _ ((((((f90.tr f102).wk w3).set rfl).tr (f122.wk w3))).set rfl) (by rw [eb, ages_x]; exact PCx.stR p122 v122 (by decide) (fun k => by simp [setI]) (fun L hl => LdC.setF (j := 4) hl (Or.inr rfl) (by decide) (by decide))))
            | (rw [if_neg (show ¬ isW T 0 st = true from h6), if_neg (show ¬ isW T 1 st = true from h22), if_neg (show ¬ isW T 2 st = true from h38), if_neg (show ¬ isW T 3 st = true from h54), if_neg (show ¬ isW T 4 st = true from h85), if_pos (show isW T 5 st = true from h137)] at eb
               exact L200 _ (((f142.tr f154).wk w3).set rfl) (by rw [eb, rule_x]; exact ps154))
            | (rw [if_neg (show ¬ isW T 0 st = true from h6), if_neg (show ¬ isW T 1 st = true from h22), if_neg (show ¬ isW T 2 st = true from h38), if_neg (show ¬ isW T 3 st = true from h54), if_neg (show ¬ isW T 4 st = true from h85), if_neg (show ¬ isW T 5 st = true from h137), if_pos (show isW T 6 st = true from h169)] at eb
               exact L200 _ (((f175.tr f186).wk w3).set rfl) (by rw [eb, rule_x]; exact ps186))
            | (rw [if_neg (show ¬ isW T 0 st = true from h6), if_neg (show ¬ isW T 1 st = true from h22), if_neg (show ¬ isW T 2 st = true from h38), if_neg (show ¬ isW T 3 st = true from h54), if_neg (show ¬ isW T 4 st = true from h85), if_neg (show ¬ isW T 5 st = true from h137), if_neg (show ¬ isW T 6 st = true from h169)] at eb
               exact L200 _ (f197.wk w3) (by rw [eb]; exact p197))
        · refine R_aload_n 58 rfl dX5_takeLine_57 rfl ?_
          refine R_iconst 59 rfl dX5_takeLine_58 ?_
          refine R_top (b := ((1 : Nat) : Int)) rfl ?_
          refine R_callV_V (M' := mX5_takeOnce) 62 rfl dX5_takeLine_59 ml_X5_67 kmX5_takeOnce im_X5_takeOnce se_X5_takeOnce rfl ⟨by decide, rfl⟩ (c_X5_takeOnce 1 st (by decide) hb hx) rfl rfl ⟨Nat.le_of_ble_eq_true rfl, Nat.le_of_ble_eq_true rfl⟩ (Nat.le_of_ble_eq_true rfl) ⟨Nat.le_of_ble_eq_true rfl, Nat.le_of_ble_eq_true rfl⟩ ?_
          rintro m59 h59
          obtain ⟨f59, p59⟩ := h59
          have b59 := hb.fr f59 rfl rfl
          have hP := b59.1.2
          have hD := b59.2.2.2.2
          refine R_aload_n 63 rfl dX5_takeLine_62 rfl ?_
          refine R_getP 1 66 rfl dX5_takeLine_63 rfl rfl fl_X5_15 hD ?_
          refine R_aload_n 67 rfl dX5_takeLine_66 rfl ?_
          refine R_iconst 68 rfl dX5_takeLine_67 ?_
          refine R_bipush 70 rfl dX5_takeLine_68 (by decide) ?_
          refine R_callV_I (M' := mX5_takeNumber) 73 rfl dX5_takeLine_70 ml_X5_71 kmX5_takeNumber im_X5_takeNumber se_X5_takeNumber rfl ⟨by decide, rfl⟩ (c_X5_takeNumber_rg 5 20 (once T 1 st) b59 p59 ⟨by omega, by omega⟩ ⟨by omega, by omega⟩) rfl rfl ⟨Nat.le_of_ble_eq_true rfl, Nat.le_of_ble_eq_true rfl⟩ (Nat.le_of_ble_eq_true rfl) ⟨Nat.le_of_ble_eq_true rfl, Nat.le_of_ble_eq_true rfl⟩ ?_
          rintro z70 m70 h70
          obtain ⟨⟨f70, p70, v70⟩, r70⟩ := h70
          have b70 := b59.fr f70 rfl rfl
          have bs70 : PCb o 17 T (setI m70 17 2 z70) := b70.fr (P := fun a => decide (a = 17)) (Fr.rf.set rfl) rfl rfl
          have ps70 : PCx T 17 (setI m70 17 2 z70) (stR 2 (pb (once T 1 st) (num T 5 20))) := PCx.stR p70 v70 (by decide) (fun k => by simp [setI]) (fun L hl => LdC.setF (j := 2) hl (Or.inr rfl) (by decide) (by decide))
          clear hP hD
          have hP := b70.1.2
          have hD := b70.2.2.2.2
          refine R_putI 2 76 rfl dX5_takeLine_73 rfl rfl fl_X5_75 ?_
          refine R_goto 200 rfl dX5_takeLine_76 ?_
          have eb : bodyT T st = if isW T 0 st = true then parishT T st else if isW T 1 st = true then clerkT T st else if isW T 2 st = true then triedT T st else if isW T 3 st = true then ruleT T 1 5 20 2 st else if isW T 4 st = true then agesT T st else if isW T 5 st = true then ruleT T 4 0 999 5 st else if isW T 6 st = true then ruleT T 8 0 8 6 st else .inl (2, st.2.1) := rfl
          first
          | (rw [if_pos (show isW T 0 st = true from h6)] at eb
             exact L200 _ f10 (by rw [eb]; exact p10))
          | (rw [if_neg (show ¬ isW T 0 st = true from h6), if_pos (show isW T 1 st = true from h22)] at eb
             exact L200 _ f26 (by rw [eb]; exact p26))
          | (rw [if_neg (show ¬ isW T 0 st = true from h6), if_neg (show ¬ isW T 1 st = true from h22), if_pos (show isW T 2 st = true from h38)] at eb
             exact L200 _ f42 (by rw [eb]; exact p42))
          | (rw [if_neg (show ¬ isW T 0 st = true from h6), if_neg (show ¬ isW T 1 st = true from h22), if_neg (show ¬ isW T 2 st = true from h38), if_pos (show isW T 3 st = true from h54)] at eb
             exact L200 _ (((f59.tr f70).wk w3).set rfl) (by rw [eb, rule_x]; exact ps70))
          | (rw [if_neg (show ¬ isW T 0 st = true from h6), if_neg (show ¬ isW T 1 st = true from h22), if_neg (show ¬ isW T 2 st = true from h38), if_neg (show ¬ isW T 3 st = true from h54), if_pos (show isW T 4 st = true from h85)] at eb
             exact L200 _ ((((((f90.tr f102).wk w3).set rfl).tr (f122.wk w3))).set rfl) (by rw [eb, ages_x]; exact PCx.stR p122 v122 (by decide) (fun k => by simp [setI]) (fun L hl => LdC.setF (j := 4) hl (Or.inr rfl) (by decide) (by decide))))
          | (rw [if_neg (show ¬ isW T 0 st = true from h6), if_neg (show ¬ isW T 1 st = true from h22), if_neg (show ¬ isW T 2 st = true from h38), if_neg (show ¬ isW T 3 st = true from h54), if_neg (show ¬ isW T 4 st = true from h85), if_pos (show isW T 5 st = true from h137)] at eb
             exact L200 _ (((f142.tr f154).wk w3).set rfl) (by rw [eb, rule_x]; exact ps154))
          | (rw [if_neg (show ¬ isW T 0 st = true from h6), if_neg (show ¬ isW T 1 st = true from h22), if_neg (show ¬ isW T 2 st = true from h38), if_neg (show ¬ isW T 3 st = true from h54), if_neg (show ¬ isW T 4 st = true from h85), if_neg (show ¬ isW T 5 st = true from h137), if_pos (show isW T 6 st = true from h169)] at eb
             exact L200 _ (((f175.tr f186).wk w3).set rfl) (by rw [eb, rule_x]; exact ps186))
          | (rw [if_neg (show ¬ isW T 0 st = true from h6), if_neg (show ¬ isW T 1 st = true from h22), if_neg (show ¬ isW T 2 st = true from h38), if_neg (show ¬ isW T 3 st = true from h54), if_neg (show ¬ isW T 4 st = true from h85), if_neg (show ¬ isW T 5 st = true from h137), if_neg (show ¬ isW T 6 st = true from h169)] at eb
             exact L200 _ (f197.wk w3) (by rw [eb]; exact p197))
      · refine R_aload_n 42 rfl dX5_takeLine_41 rfl ?_
        refine R_callV_V (M' := mX5_takeTried) 45 rfl dX5_takeLine_42 ml_X5_62 kmX5_takeTried im_X5_takeTried se_X5_takeTried rfl ⟨by decide, rfl⟩ (c_X5_takeTried17 st hΓ hb hx) rfl rfl ⟨Nat.le_of_ble_eq_true rfl, Nat.le_of_ble_eq_true rfl⟩ (Nat.le_of_ble_eq_true rfl) ⟨Nat.le_of_ble_eq_true rfl, Nat.le_of_ble_eq_true rfl⟩ ?_
        rintro m42 h42
        obtain ⟨f42, p42⟩ := h42
        refine R_goto 200 rfl dX5_takeLine_45 ?_
        have eb : bodyT T st = if isW T 0 st = true then parishT T st else if isW T 1 st = true then clerkT T st else if isW T 2 st = true then triedT T st else if isW T 3 st = true then ruleT T 1 5 20 2 st else if isW T 4 st = true then agesT T st else if isW T 5 st = true then ruleT T 4 0 999 5 st else if isW T 6 st = true then ruleT T 8 0 8 6 st else .inl (2, st.2.1) := rfl
        first
        | (rw [if_pos (show isW T 0 st = true from h6)] at eb
           exact L200 _ f10 (by rw [eb]; exact p10))
        | (rw [if_neg (show ¬ isW T 0 st = true from h6), if_pos (show isW T 1 st = true from h22)] at eb
           exact L200 _ f26 (by rw [eb]; exact p26))
        | (rw [if_neg (show ¬ isW T 0 st = true from h6), if_neg (show ¬ isW T 1 st = true from h22), if_pos (show isW T 2 st = true from h38)] at eb
           exact L200 _ f42 (by rw [eb]; exact p42))
        | (rw [if_neg (show ¬ isW T 0 st = true from h6), if_neg (show ¬ isW T 1 st = true from h22), if_neg (show ¬ isW T 2 st = true from h38), if_pos (show isW T 3 st = true from h54)] at eb
           exact L200 _ (((f59.tr f70).wk w3).set rfl) (by rw [eb, rule_x]; exact ps70))
        | (rw [if_neg (show ¬ isW T 0 st = true from h6), if_neg (show ¬ isW T 1 st = true from h22), if_neg (show ¬ isW T 2 st = true from h38), if_neg (show ¬ isW T 3 st = true from h54), if_pos (show isW T 4 st = true from h85)] at eb
           exact L200 _ ((((((f90.tr f102).wk w3).set rfl).tr (f122.wk w3))).set rfl) (by rw [eb, ages_x]; exact PCx.stR p122 v122 (by decide) (fun k => by simp [setI]) (fun L hl => LdC.setF (j := 4) hl (Or.inr rfl) (by decide) (by decide))))
        | (rw [if_neg (show ¬ isW T 0 st = true from h6), if_neg (show ¬ isW T 1 st = true from h22), if_neg (show ¬ isW T 2 st = true from h38), if_neg (show ¬ isW T 3 st = true from h54), if_neg (show ¬ isW T 4 st = true from h85), if_pos (show isW T 5 st = true from h137)] at eb
           exact L200 _ (((f142.tr f154).wk w3).set rfl) (by rw [eb, rule_x]; exact ps154))
        | (rw [if_neg (show ¬ isW T 0 st = true from h6), if_neg (show ¬ isW T 1 st = true from h22), if_neg (show ¬ isW T 2 st = true from h38), if_neg (show ¬ isW T 3 st = true from h54), if_neg (show ¬ isW T 4 st = true from h85), if_neg (show ¬ isW T 5 st = true from h137), if_pos (show isW T 6 st = true from h169)] at eb
           exact L200 _ (((f175.tr f186).wk w3).set rfl) (by rw [eb, rule_x]; exact ps186))
        | (rw [if_neg (show ¬ isW T 0 st = true from h6), if_neg (show ¬ isW T 1 st = true from h22), if_neg (show ¬ isW T 2 st = true from h38), if_neg (show ¬ isW T 3 st = true from h54), if_neg (show ¬ isW T 4 st = true from h85), if_neg (show ¬ isW T 5 st = true from h137), if_neg (show ¬ isW T 6 st = true from h169)] at eb
           exact L200 _ (f197.wk w3) (by rw [eb]; exact p197))
    · refine R_aload_n 26 rfl dX5_takeLine_25 rfl ?_
      refine R_callV_V (M' := mX5_takeClerk) 29 rfl dX5_takeLine_26 ml_X5_57 kmX5_takeClerk im_X5_takeClerk se_X5_takeClerk rfl ⟨by decide, rfl⟩ (c_X5_takeClerk17 st hb hx) rfl rfl ⟨Nat.le_of_ble_eq_true rfl, Nat.le_of_ble_eq_true rfl⟩ (Nat.le_of_ble_eq_true rfl) ⟨Nat.le_of_ble_eq_true rfl, Nat.le_of_ble_eq_true rfl⟩ ?_
      rintro m26 h26
      obtain ⟨f26, p26⟩ := h26
      refine R_goto 200 rfl dX5_takeLine_29 ?_
      have eb : bodyT T st = if isW T 0 st = true then parishT T st else if isW T 1 st = true then clerkT T st else if isW T 2 st = true then triedT T st else if isW T 3 st = true then ruleT T 1 5 20 2 st else if isW T 4 st = true then agesT T st else if isW T 5 st = true then ruleT T 4 0 999 5 st else if isW T 6 st = true then ruleT T 8 0 8 6 st else .inl (2, st.2.1) := rfl
      first
      | (rw [if_pos (show isW T 0 st = true from h6)] at eb
         exact L200 _ f10 (by rw [eb]; exact p10))
      | (rw [if_neg (show ¬ isW T 0 st = true from h6), if_pos (show isW T 1 st = true from h22)] at eb
         exact L200 _ f26 (by rw [eb]; exact p26))
      | (rw [if_neg (show ¬ isW T 0 st = true from h6), if_neg (show ¬ isW T 1 st = true from h22), if_pos (show isW T 2 st = true from h38)] at eb
         exact L200 _ f42 (by rw [eb]; exact p42))
      | (rw [if_neg (show ¬ isW T 0 st = true from h6), if_neg (show ¬ isW T 1 st = true from h22), if_neg (show ¬ isW T 2 st = true from h38), if_pos (show isW T 3 st = true from h54)] at eb
         exact L200 _ (((f59.tr f70).wk w3).set rfl) (by rw [eb, rule_x]; exact ps70))
      | (rw [if_neg (show ¬ isW T 0 st = true from h6), if_neg (show ¬ isW T 1 st = true from h22), if_neg (show ¬ isW T 2 st = true from h38), if_neg (show ¬ isW T 3 st = true from h54), if_pos (show isW T 4 st = true from h85)] at eb
         exact L200 _ ((((((f90.tr f102).wk w3).set rfl).tr (f122.wk w3))).set rfl) (by rw [eb, ages_x]; exact PCx.stR p122 v122 (by decide) (fun k => by simp [setI]) (fun L hl => LdC.setF (j := 4) hl (Or.inr rfl) (by decide) (by decide))))
      | (rw [if_neg (show ¬ isW T 0 st = true from h6), if_neg (show ¬ isW T 1 st = true from h22), if_neg (show ¬ isW T 2 st = true from h38), if_neg (show ¬ isW T 3 st = true from h54), if_neg (show ¬ isW T 4 st = true from h85), if_pos (show isW T 5 st = true from h137)] at eb
         exact L200 _ (((f142.tr f154).wk w3).set rfl) (by rw [eb, rule_x]; exact ps154))
      | (rw [if_neg (show ¬ isW T 0 st = true from h6), if_neg (show ¬ isW T 1 st = true from h22), if_neg (show ¬ isW T 2 st = true from h38), if_neg (show ¬ isW T 3 st = true from h54), if_neg (show ¬ isW T 4 st = true from h85), if_neg (show ¬ isW T 5 st = true from h137), if_pos (show isW T 6 st = true from h169)] at eb
         exact L200 _ (((f175.tr f186).wk w3).set rfl) (by rw [eb, rule_x]; exact ps186))
      | (rw [if_neg (show ¬ isW T 0 st = true from h6), if_neg (show ¬ isW T 1 st = true from h22), if_neg (show ¬ isW T 2 st = true from h38), if_neg (show ¬ isW T 3 st = true from h54), if_neg (show ¬ isW T 4 st = true from h85), if_neg (show ¬ isW T 5 st = true from h137), if_neg (show ¬ isW T 6 st = true from h169)] at eb
         exact L200 _ (f197.wk w3) (by rw [eb]; exact p197))
  · refine R_aload_n 10 rfl dX5_takeLine_9 rfl ?_
    refine R_callV_V (M' := mX5_takeParish) 13 rfl dX5_takeLine_10 ml_X5_52 kmX5_takeParish im_X5_takeParish se_X5_takeParish rfl ⟨by decide, rfl⟩ (c_X5_takeParish17 st hΓ hb hx) rfl rfl ⟨Nat.le_of_ble_eq_true rfl, Nat.le_of_ble_eq_true rfl⟩ (Nat.le_of_ble_eq_true rfl) ⟨Nat.le_of_ble_eq_true rfl, Nat.le_of_ble_eq_true rfl⟩ ?_
    rintro m10 h10
    obtain ⟨f10, p10⟩ := h10
    refine R_goto 200 rfl dX5_takeLine_13 ?_
    have eb : bodyT T st = if isW T 0 st = true then parishT T st else if isW T 1 st = true then clerkT T st else if isW T 2 st = true then triedT T st else if isW T 3 st = true then ruleT T 1 5 20 2 st else if isW T 4 st = true then agesT T st else if isW T 5 st = true then ruleT T 4 0 999 5 st else if isW T 6 st = true then ruleT T 8 0 8 6 st else .inl (2, st.2.1) := rfl
    first
    | (rw [if_pos (show isW T 0 st = true from h6)] at eb
       exact L200 _ f10 (by rw [eb]; exact p10))
    | (rw [if_neg (show ¬ isW T 0 st = true from h6), if_pos (show isW T 1 st = true from h22)] at eb
       exact L200 _ f26 (by rw [eb]; exact p26))
    | (rw [if_neg (show ¬ isW T 0 st = true from h6), if_neg (show ¬ isW T 1 st = true from h22), if_pos (show isW T 2 st = true from h38)] at eb
       exact L200 _ f42 (by rw [eb]; exact p42))
    | (rw [if_neg (show ¬ isW T 0 st = true from h6), if_neg (show ¬ isW T 1 st = true from h22), if_neg (show ¬ isW T 2 st = true from h38), if_pos (show isW T 3 st = true from h54)] at eb
       exact L200 _ (((f59.tr f70).wk w3).set rfl) (by rw [eb, rule_x]; exact ps70))
    | (rw [if_neg (show ¬ isW T 0 st = true from h6), if_neg (show ¬ isW T 1 st = true from h22), if_neg (show ¬ isW T 2 st = true from h38), if_neg (show ¬ isW T 3 st = true from h54), if_pos (show isW T 4 st = true from h85)] at eb
       exact L200 _ ((((((f90.tr f102).wk w3).set rfl).tr (f122.wk w3))).set rfl) (by rw [eb, ages_x]; exact PCx.stR p122 v122 (by decide) (fun k => by simp [setI]) (fun L hl => LdC.setF (j := 4) hl (Or.inr rfl) (by decide) (by decide))))
    | (rw [if_neg (show ¬ isW T 0 st = true from h6), if_neg (show ¬ isW T 1 st = true from h22), if_neg (show ¬ isW T 2 st = true from h38), if_neg (show ¬ isW T 3 st = true from h54), if_neg (show ¬ isW T 4 st = true from h85), if_pos (show isW T 5 st = true from h137)] at eb
       exact L200 _ (((f142.tr f154).wk w3).set rfl) (by rw [eb, rule_x]; exact ps154))
    | (rw [if_neg (show ¬ isW T 0 st = true from h6), if_neg (show ¬ isW T 1 st = true from h22), if_neg (show ¬ isW T 2 st = true from h38), if_neg (show ¬ isW T 3 st = true from h54), if_neg (show ¬ isW T 4 st = true from h85), if_neg (show ¬ isW T 5 st = true from h137), if_pos (show isW T 6 st = true from h169)] at eb
       exact L200 _ (((f175.tr f186).wk w3).set rfl) (by rw [eb, rule_x]; exact ps186))
    | (rw [if_neg (show ¬ isW T 0 st = true from h6), if_neg (show ¬ isW T 1 st = true from h22), if_neg (show ¬ isW T 2 st = true from h38), if_neg (show ¬ isW T 3 st = true from h54), if_neg (show ¬ isW T 4 st = true from h85), if_neg (show ¬ isW T 5 st = true from h137), if_neg (show ¬ isW T 6 st = true from h169)] at eb
       exact L200 _ (f197.wk w3) (by rw [eb]; exact p197))
end
