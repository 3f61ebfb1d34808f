section
variable {Γ : GX} {m m' m'' : Mem} {T : Tp} {L : Ld} {x : PX St}
theorem bt_cases (hO : TpOk T) (a : Nat) : (btA T a = -4 ∧ srA T a = 0 ∧ T.1 ≤ a) ∨ (a < T.1 ∧ ((97 ≤ btA T a ∧ btA T a ≤ 122 ∧ srA T a = 1) ∨ (48 ≤ btA T a ∧ btA T a ≤ 57 ∧ srA T a = 2) ∨ (btA T a = 32 ∧ srA T a = 4) ∨ (btA T a = 59 ∧ srA T a = 3) ∨ (0 ≤ btA T a ∧ btA T a ≤ 255 ∧ (btA T a < 97 ∨ 122 < btA T a) ∧ (btA T a < 48 ∨ 57 < btA T a) ∧ btA T a ≠ 32 ∧ btA T a ≠ 59 ∧ srA T a = 5))) := by
  by_cases q : a < T.1
  · right
    refine ⟨q, ?_⟩
    have h := hO.2 a q
    rw [btA_in q, srA_in q]
    unfold srt5
    generalize T.2 a = b at h ⊢
    by_cases c1 : 97 ≤ b ∧ b ≤ 122
    · rw [if_pos c1]; omega
    · rw [if_neg c1]
      by_cases c2 : 48 ≤ b ∧ b ≤ 57
      · rw [if_pos c2]; omega
      · rw [if_neg c2]
        by_cases c3 : b = 32
        · rw [if_pos c3]; omega
        · rw [if_neg c3]
          by_cases c4 : b = 59
          · rw [if_pos c4]; omega
          · rw [if_neg c4]; omega
  · left
    exact ⟨btA_out (by omega), srA_out (by omega), by omega⟩
theorem c_X11_next2a (st : St) (hb : MB T m) (h3 : m.1 96 3 = 0) (h5 : m.1 96 5 = (st.1 : Int)) (h18 : m.1 96 18 = (spd st.2.2.2.1 : Int)) (h1 : st.1 ≤ T.1) (hs : st.2.2.2.1 < 64) (hL : MLd m (sL st)) (hB : LdB (sL st)) : C Γ mX11_next2 1 40 0 0 [vr 96] SH m (QV SH (fun m' => Fn m m' ∧ MCx T m' (adv T st))) := by
  refine C_of_R rfl (Nat.le_of_ble_eq_true rfl) ?_
  have hl := hb.2.2.2.1.1
  have hO := hb.2.2.2.1
  have fin : ∀ a m2, rE T 4 st.1 = a → Fn m m2 → (∀ s, adv T st = .inr s → m2.1 96 3 = 0 ∧ m2.1 96 5 = (s.1 : Int) ∧ m2.1 96 6 = (s.2.1 : Int) ∧ m2.1 96 7 = (s.2.2.1 : Int) ∧ (s.2.2.1 = 2 → m2.1 96 8 = nv T s.2.1 (s.1 - s.2.1))) → (∀ e, adv T st = .inl e → m2.1 96 3 = 1 ∧ m2.1 96 4 = (a : Int)) → Fn m m2 ∧ MCx T m2 (adv T st) := by
    intro a m2 ep f2 kr ki
    refine ⟨f2, ?_⟩
    cases hx : adv T st with
    | inl e =>
      have q := ki e hx
      have q2 := adv_er hx
      rw [ep] at q2
      subst q2
      exact ⟨q.1, q.2, (by decide : (1 : Int) ≤ 1), (by decide : (1 : Int) ≤ 5)⟩
    | inr s =>
      have q := kr s hx
      obtain ⟨v, -, v2⟩ := adv_sp h1 hs hx
      have e1 : sL s = sL st := by unfold sL; rw [v2]
      refine ⟨q.1, q.2.1, q.2.2.1, q.2.2.2.1, q.2.2.2.2, ?_, v, ?_, ?_⟩
      · rw [v2, f2.1 _ _ (by omega)]; exact h18
      · rw [e1]; exact hL.fn f2
      · rw [e1]; exact hB
  have ad : ∀ a, rE T 4 st.1 = a → adv T st = if srA T a = 0 then .inr (a, a, 0, st.2.2.2) else if srA T a = 5 then .inl (1, a) else if srA T a = 3 then .inr (a + 1, a, 3, st.2.2.2) else if srA T a = 1 then .inr (rE T 1 a, a, 1, st.2.2.2) else if 3 < rE T 2 a - a then .inl (1, a) else .inr (rE T 2 a, a, 2, st.2.2.2) := fun a ep => by unfold adv; rw [ep]
  have Lw : ∀ a, rE T 4 st.1 = a → srA T a = 1 → ∀ c, c ≤ T.1 → a ≤ c → ∀ m2 y, Fn m m2 → m2.1 96 3 = 0 → m2.1 96 5 = (c : Int) → m2.1 96 6 = (a : Int) → rE T 1 c = rE T 1 a → R Γ mX11_next2 { frames := 1, cells := 0, slots := 0, locals := 40 } 0 0 (QV SH (fun m' => Fn m m' ∧ MCx T m' (adv T st))) 0 0 84 [some (vr 96), some (vi y)] [] SH m2 := by
    intro a ep e1
    refine up_ind T.1 (fun c hc ih hac m2 y hf g3 g5 g6 he => ?_)
    have hb2 := hb.fn hf
    have hP := hb2.1
    have bc := bt_cases hO c
    refine R_aload_n 85 rfl dX11_next2_84 rfl ?_
    refine R_aload_n 86 rfl dX11_next2_85 rfl ?_
    refine R_getI 5 89 rfl dX11_next2_86 rfl rfl fl_X11_79 ?_
    refine R_callV_i (M' := mX11_byteAt) 92 rfl dX11_next2_89 ml_X11_82 kmX11_byteAt im_X11_byteAt se_X11_byteAt rfl ⟨by decide, rfl⟩ (c_X11_byteAt _ c hb2 g5 (by omega)) rfl rfl ⟨Nat.le_of_ble_eq_true rfl, Nat.le_of_ble_eq_true rfl⟩ (Nat.le_of_ble_eq_true rfl) ⟨Nat.le_of_ble_eq_true rfl, Nat.le_of_ble_eq_true rfl⟩ ?_
    refine R_i2l 93 rfl dX11_next2_92 (by first | assumption | exact ⟨by omega, by omega⟩) ?_
    refine R_ldc2 (97) 96 rfl dX11_next2_93 kl_X11_89 (by decide) ?_
    refine R_ldc2 (122) 99 rfl dX11_next2_96 kl_X11_91 (by decide) ?_
    refine R_callS_i (M' := mX11_in) 102 rfl dX11_next2_99 ml_X11_63 kmX11_in st_X11_in (c_X11_in _ _ _ (by first | assumption | exact ⟨by omega, by omega⟩ | exact rg_L (by assumption)) (by first | assumption | exact ⟨by omega, by omega⟩ | exact rg_L (by assumption)) (by first | assumption | exact ⟨by omega, by omega⟩ | exact rg_L (by assumption))) rfl rfl ⟨Nat.le_of_ble_eq_true rfl, Nat.le_of_ble_eq_true rfl⟩ (Nat.le_of_ble_eq_true rfl) ⟨Nat.le_of_ble_eq_true rfl, Nat.le_of_ble_eq_true rfl⟩ ?_
    refine R_ifp_eq 105 118 rfl rfl dX11_next2_102 (fun h102 => ?_) (fun h102 => ?_)
    · refine R_aload_n 119 rfl dX11_next2_118 rfl ?_
      refine R_iconst 120 rfl dX11_next2_119 ?_
      refine R_putI 7 123 rfl dX11_next2_120 rfl rfl fl_X11_76 ?_
      refine R_goto 269 rfl dX11_next2_123 ?_
      refine R_return dX11_next2_269 rfl ?_
      have en : rE T 1 c = c := rE_n (by omega)
      have aw := ad a ep
      rw [if_neg (by omega), if_neg (by omega), if_neg (by omega), if_pos e1] at aw
      refine QV_mk (fin a _ ep (hf.set (by omega)) (fun s hx => ?_) (fun e hx => ?_))
      · rw [aw] at hx
        cases hx
        exact ⟨by simp [setI]; exact g3, by simp [setI]; rw [← he, en]; exact g5, by simp [setI]; exact g6, by simp [setI], fun q => by simp at q⟩
      · rw [aw] at hx
        cases hx
    · refine R_aload_n 106 rfl dX11_next2_105 rfl ?_
      refine R_dup 107 rfl dX11_next2_106 rfl ?_
      refine R_getI 5 110 rfl dX11_next2_107 rfl rfl fl_X11_79 ?_
      refine R_iconst 111 rfl dX11_next2_110 ?_
      refine R_iadd 112 rfl dX11_next2_111 ?_
      refine R_putI 5 115 rfl dX11_next2_112 rfl rfl fl_X11_79 ?_
      refine R_goto 84 rfl dX11_next2_115 ?_
      have ey := rE_y (T := T) (c := 1) (a := c) (by decide) (by omega)
      exact ih (by omega) (by omega) _ _ (hf.set (by omega)) (by simp [setI]; exact g3) (by simp [setI]; omega) (by simp [setI]; exact g6) (by rw [← ey]; exact he)
  have Ld : ∀ a, rE T 4 st.1 = a → srA T a = 2 → ∀ c, c ≤ T.1 → a ≤ c → ∀ m2 y, Fn m m2 → m2.1 96 3 = 0 → m2.1 96 5 = (c : Int) → m2.1 96 6 = (a : Int) → (c - a ≤ 3 → m2.1 96 8 = nv T a (c - a)) → rE T 2 c = rE T 2 a → R Γ mX11_next2 { frames := 1, cells := 0, slots := 0, locals := 40 } 0 0 (QV SH (fun m' => Fn m m' ∧ MCx T m' (adv T st))) 0 0 140 [some (vr 96), some (vi y)] [] SH m2 := by
    intro a ep e1
    refine up_ind T.1 (fun c hc ih hac m2 y hf g3 g5 g6 g8 he => ?_)
    have hb2 := hb.fn hf
    have hP := hb2.1
    have bc := bt_cases hO c
    refine R_aload_n 141 rfl dX11_next2_140 rfl ?_
    refine R_aload_n 142 rfl dX11_next2_141 rfl ?_
    refine R_getI 5 145 rfl dX11_next2_142 rfl rfl fl_X11_79 ?_
    refine R_callV_i (M' := mX11_byteAt) 148 rfl dX11_next2_145 ml_X11_82 kmX11_byteAt im_X11_byteAt se_X11_byteAt rfl ⟨by decide, rfl⟩ (c_X11_byteAt _ c hb2 g5 (by omega)) rfl rfl ⟨Nat.le_of_ble_eq_true rfl, Nat.le_of_ble_eq_true rfl⟩ (Nat.le_of_ble_eq_true rfl) ⟨Nat.le_of_ble_eq_true rfl, Nat.le_of_ble_eq_true rfl⟩ ?_
    refine R_i2l 149 rfl dX11_next2_148 (by first | assumption | exact ⟨by omega, by omega⟩) ?_
    refine R_ldc2 (48) 152 rfl dX11_next2_149 kl_X11_93 (by decide) ?_
    refine R_ldc2 (57) 155 rfl dX11_next2_152 kl_X11_95 (by decide) ?_
    refine R_callS_i (M' := mX11_in) 158 rfl dX11_next2_155 ml_X11_63 kmX11_in st_X11_in (c_X11_in _ _ _ (by first | assumption | exact ⟨by omega, by omega⟩ | exact rg_L (by assumption)) (by first | assumption | exact ⟨by omega, by omega⟩ | exact rg_L (by assumption)) (by first | assumption | exact ⟨by omega, by omega⟩ | exact rg_L (by assumption))) rfl rfl ⟨Nat.le_of_ble_eq_true rfl, Nat.le_of_ble_eq_true rfl⟩ (Nat.le_of_ble_eq_true rfl) ⟨Nat.le_of_ble_eq_true rfl, Nat.le_of_ble_eq_true rfl⟩ ?_
    refine R_ifp_eq 161 217 rfl rfl dX11_next2_158 (fun h158 => ?_) (fun h158 => ?_)
    · refine R_aload_n 218 rfl dX11_next2_217 rfl ?_
      refine R_iconst 219 rfl dX11_next2_218 ?_
      refine R_putI 7 222 rfl dX11_next2_219 rfl rfl fl_X11_76 ?_
      have en : rE T 2 c = c := rE_n (by omega)
      refine R_aload_n 223 rfl dX11_next2_222 rfl ?_
      refine R_getI 5 226 rfl dX11_next2_223 rfl rfl fl_X11_79 ?_
      refine R_top (b := (c : Int)) (by simp [setI]; exact g5) ?_
      refine R_aload_n 227 rfl dX11_next2_226 rfl ?_
      refine R_getI 6 230 rfl dX11_next2_227 rfl rfl fl_X11_70 ?_
      refine R_top (b := (a : Int)) (by simp [setI]; exact g6) ?_
      refine R_isub 231 rfl dX11_next2_230 ?_
      refine R_iconst 232 rfl dX11_next2_231 ?_
      refine R_icmp_le 235 269 rfl rfl dX11_next2_232 (by first | assumption | exact ⟨by omega, by omega⟩) (by first | assumption | exact ⟨by omega, by omega⟩) (fun h232 => ?_) (fun h232 => ?_)
      · refine R_return dX11_next2_269 rfl ?_
        have aw := ad a ep
        rw [if_neg (by omega), if_neg (by omega), if_neg (by omega), if_neg (by omega)] at aw
        first
        | (rw [if_pos (by omega)] at aw
           refine QV_mk (fin a _ ep (((hf.set (by omega)).set (by omega)).set (by omega)) (fun s hx => ?_) (fun e hx => ⟨by simp [setI], by simp [setI]; exact g6⟩))
           rw [aw] at hx
           cases hx)
        | (rw [if_neg (by omega)] at aw
           refine QV_mk (fin a _ ep (hf.set (by omega)) (fun s hx => ?_) (fun e hx => ?_))
           · rw [aw] at hx
             cases hx
             refine ⟨by simp [setI]; exact g3, by simp [setI]; rw [← he, en]; exact g5, by simp [setI]; exact g6, by simp [setI], fun _ => ?_⟩
             show (setI m2 96 7 2).1 96 8 = nv T a (rE T 2 a - a)
             rw [← he, en]
             simp [setI]
             exact g8 (by omega)
           · rw [aw] at hx
             cases hx)
      · refine R_aload_n 236 rfl dX11_next2_235 rfl ?_
        refine R_iconst 237 rfl dX11_next2_236 ?_
        refine R_callV_v (M' := mX11_fails) 240 rfl dX11_next2_237 ml_X11_97 kmX11_fails im_X11_fails se_X11_fails rfl ⟨by decide, rfl⟩ (c_X11_fails0 _ (by simp [setI]; exact g3)) rfl rfl ⟨Nat.le_of_ble_eq_true rfl, Nat.le_of_ble_eq_true rfl⟩ (Nat.le_of_ble_eq_true rfl) ⟨Nat.le_of_ble_eq_true rfl, Nat.le_of_ble_eq_true rfl⟩ ?_
        refine R_goto 269 rfl dX11_next2_240 ?_
        refine R_return dX11_next2_269 rfl ?_
        have aw := ad a ep
        rw [if_neg (by omega), if_neg (by omega), if_neg (by omega), if_neg (by omega)] at aw
        first
        | (rw [if_pos (by omega)] at aw
           refine QV_mk (fin a _ ep (((hf.set (by omega)).set (by omega)).set (by omega)) (fun s hx => ?_) (fun e hx => ⟨by simp [setI], by simp [setI]; exact g6⟩))
           rw [aw] at hx
           cases hx)
        | (rw [if_neg (by omega)] at aw
           refine QV_mk (fin a _ ep (hf.set (by omega)) (fun s hx => ?_) (fun e hx => ?_))
           · rw [aw] at hx
             cases hx
             refine ⟨by simp [setI]; exact g3, by simp [setI]; rw [← he, en]; exact g5, by simp [setI]; exact g6, by simp [setI], fun _ => ?_⟩
             show (setI m2 96 7 2).1 96 8 = nv T a (rE T 2 a - a)
             rw [← he, en]
             simp [setI]
             exact g8 (by omega)
           · rw [aw] at hx
             cases hx)
    · refine R_aload_n 162 rfl dX11_next2_161 rfl ?_
      refine R_aload_n 163 rfl dX11_next2_162 rfl ?_
      refine R_getI 5 166 rfl dX11_next2_163 rfl rfl fl_X11_79 ?_
      refine R_aload_n 167 rfl dX11_next2_166 rfl ?_
      refine R_getI 6 170 rfl dX11_next2_167 rfl rfl fl_X11_70 ?_
      refine R_isub 171 rfl dX11_next2_170 ?_
      refine R_iconst 172 rfl dX11_next2_171 ?_
      refine R_icmp_ge 175 197 rfl rfl dX11_next2_172 (by first | assumption | exact ⟨by omega, by omega⟩) (by first | assumption | exact ⟨by omega, by omega⟩) (fun h172 => ?_) (fun h172 => ?_)
      · refine R_aload_n 198 rfl dX11_next2_197 rfl ?_
        refine R_getI 8 201 rfl dX11_next2_198 rfl rfl fl_X11_86 ?_
        refine R_putI 8 204 rfl dX11_next2_201 rfl rfl fl_X11_86 ?_
        refine R_aload_n 205 rfl dX11_next2_204 rfl ?_
        refine R_dup 206 rfl dX11_next2_205 rfl ?_
        refine R_getI 5 209 rfl dX11_next2_206 rfl rfl fl_X11_79 ?_
        refine R_iconst 210 rfl dX11_next2_209 ?_
        refine R_iadd 211 rfl dX11_next2_210 ?_
        refine R_putI 5 214 rfl dX11_next2_211 rfl rfl fl_X11_79 ?_
        refine R_goto 140 rfl dX11_next2_214 ?_
        have ey := rE_y (T := T) (c := 2) (a := c) (by decide) (by omega)
        refine ih (by omega) (by omega) _ _ ((hf.set (by omega)).set (by omega)) (by simp [setI]; exact g3) (by simp [setI]; omega) (by simp [setI]; exact g6) (fun q => ?_) (by rw [← ey]; exact he)
        have nn : nv T a (c + 1 - a) = nv T a (c - a) * 10 + (T.2 (a + (c - a)) - 48) := by rw [show c + 1 - a = (c - a) + 1 by omega]; rfl
        rw [show a + (c - a) = c by omega, ← g8 (by omega), ← btA_in (T := T) (i := c) (by omega)] at nn
        simp only [setI]
        rw [if_neg (by omega), if_pos ⟨trivial, trivial⟩]
        omega
      · refine R_bipush 177 rfl dX11_next2_175 (by decide) ?_
        refine R_aload_n 178 rfl dX11_next2_177 rfl ?_
        refine R_getI 8 181 rfl dX11_next2_178 rfl rfl fl_X11_86 ?_
        refine R_imul 182 rfl dX11_next2_181 ?_
        refine R_aload_n 183 rfl dX11_next2_182 rfl ?_
        refine R_aload_n 184 rfl dX11_next2_183 rfl ?_
        refine R_getI 5 187 rfl dX11_next2_184 rfl rfl fl_X11_79 ?_
        refine R_callV_i (M' := mX11_byteAt) 190 rfl dX11_next2_187 ml_X11_82 kmX11_byteAt im_X11_byteAt se_X11_byteAt rfl ⟨by decide, rfl⟩ (c_X11_byteAt _ c hb2 g5 (by omega)) rfl rfl ⟨Nat.le_of_ble_eq_true rfl, Nat.le_of_ble_eq_true rfl⟩ (Nat.le_of_ble_eq_true rfl) ⟨Nat.le_of_ble_eq_true rfl, Nat.le_of_ble_eq_true rfl⟩ ?_
        refine R_iadd 191 rfl dX11_next2_190 ?_
        refine R_bipush 193 rfl dX11_next2_191 (by decide) ?_
        refine R_isub 194 rfl dX11_next2_193 ?_
        refine R_goto 201 rfl dX11_next2_194 ?_
        refine R_putI 8 204 rfl dX11_next2_201 rfl rfl fl_X11_86 ?_
        refine R_aload_n 205 rfl dX11_next2_204 rfl ?_
        refine R_dup 206 rfl dX11_next2_205 rfl ?_
        refine R_getI 5 209 rfl dX11_next2_206 rfl rfl fl_X11_79 ?_
        refine R_iconst 210 rfl dX11_next2_209 ?_
        refine R_iadd 211 rfl dX11_next2_210 ?_
        refine R_putI 5 214 rfl dX11_next2_211 rfl rfl fl_X11_79 ?_
        refine R_goto 140 rfl dX11_next2_214 ?_
        have ey := rE_y (T := T) (c := 2) (a := c) (by decide) (by omega)
        refine ih (by omega) (by omega) _ _ ((hf.set (by omega)).set (by omega)) (by simp [setI]; exact g3) (by simp [setI]; omega) (by simp [setI]; exact g6) (fun q => ?_) (by rw [← ey]; exact he)
        have nn : nv T a (c + 1 - a) = nv T a (c - a) * 10 + (T.2 (a + (c - a)) - 48) := by rw [show c + 1 - a = (c - a) + 1 by omega]; rfl
        rw [show a + (c - a) = c by omega, ← g8 (by omega), ← btA_in (T := T) (i := c) (by omega)] at nn
        simp only [setI]
        rw [if_neg (by omega), if_pos ⟨trivial, trivial⟩]
        omega
  have Lp : ∀ a, a ≤ T.1 → st.1 ≤ a → ∀ m1 y, Fn m m1 → m1.1 96 3 = 0 → m1.1 96 5 = (a : Int) → rE T 4 a = rE T 4 st.1 → R Γ mX11_next2 { frames := 1, cells := 0, slots := 0, locals := 40 } 0 0 (QV SH (fun m' => Fn m m' ∧ MCx T m' (adv T st))) 0 0 8 [some (vr 96), y] [] SH m1 := by
    refine up_ind T.1 (fun a ha ih hsa m1 y hf g3 g5 he => ?_)
    have hb1 := hb.fn hf
    have hP := hb1.1
    have bc := bt_cases hO a
    have b2 : ∀ z, MB T (setI m1 96 6 z) := fun z => hb1.fn (Fn.rf.set (by omega))
    refine R_aload_n 9 rfl dX11_next2_8 rfl ?_
    refine R_aload_n 10 rfl dX11_next2_9 rfl ?_
    refine R_getI 5 13 rfl dX11_next2_10 rfl rfl fl_X11_79 ?_
    refine R_callV_i (M' := mX11_byteAt) 16 rfl dX11_next2_13 ml_X11_82 kmX11_byteAt im_X11_byteAt se_X11_byteAt rfl ⟨by decide, rfl⟩ (c_X11_byteAt _ a hb1 g5 (by omega)) rfl rfl ⟨Nat.le_of_ble_eq_true rfl, Nat.le_of_ble_eq_true rfl⟩ (Nat.le_of_ble_eq_true rfl) ⟨Nat.le_of_ble_eq_true rfl, Nat.le_of_ble_eq_true rfl⟩ ?_
    refine R_bipush 18 rfl dX11_next2_16 (by decide) ?_
    refine R_icmp_ne 21 34 rfl rfl dX11_next2_18 (by first | assumption | exact ⟨by omega, by omega⟩) (by first | assumption | exact ⟨by omega, by omega⟩) (fun h18 => ?_) (fun h18 => ?_)
    · have ep : rE T 4 st.1 = a := he.symm.trans (rE_n (by omega))
      have aw := ad a ep
      refine R_aload_n 35 rfl dX11_next2_34 rfl ?_
      refine R_aload_n 36 rfl dX11_next2_35 rfl ?_
      refine R_getI 5 39 rfl dX11_next2_36 rfl rfl fl_X11_79 ?_
      rw [g5]
      refine R_putI 6 42 rfl dX11_next2_39 rfl rfl fl_X11_70 ?_
      refine R_aload_n 43 rfl dX11_next2_42 rfl ?_
      refine R_aload_n 44 rfl dX11_next2_43 rfl ?_
      refine R_getI 5 47 rfl dX11_next2_44 rfl rfl fl_X11_79 ?_
      refine R_callV_i (M' := mX11_byteAt) 50 rfl dX11_next2_47 ml_X11_82 kmX11_byteAt im_X11_byteAt se_X11_byteAt rfl ⟨by decide, rfl⟩ (c_X11_byteAt _ a (b2 _) (by simp [setI]; exact g5) (by omega)) rfl rfl ⟨Nat.le_of_ble_eq_true rfl, Nat.le_of_ble_eq_true rfl⟩ (Nat.le_of_ble_eq_true rfl) ⟨Nat.le_of_ble_eq_true rfl, Nat.le_of_ble_eq_true rfl⟩ ?_
      refine R_istore_n [_, _] 51 rfl dX11_next2_50 rfl (by decide) ?_
      refine R_aload_n 52 rfl dX11_next2_51 rfl ?_
      refine R_iconst 53 rfl dX11_next2_52 ?_
      refine R_putI 8 56 rfl dX11_next2_53 rfl rfl fl_X11_86 ?_
      refine R_iload_n 57 rfl dX11_next2_56 rfl ?_
      refine R_bipush 59 rfl dX11_next2_57 (by decide) ?_
      refine R_icmp_ne 62 70 rfl rfl dX11_next2_59 (by first | assumption | exact ⟨by omega, by omega⟩) (by first | assumption | exact ⟨by omega, by omega⟩) (fun h59 => ?_) (fun h59 => ?_)
      · refine R_iload_n 71 rfl dX11_next2_70 rfl ?_
        refine R_i2l 72 rfl dX11_next2_71 (by first | assumption | exact ⟨by omega, by omega⟩) ?_
        refine R_ldc2 (97) 75 rfl dX11_next2_72 kl_X11_89 (by decide) ?_
        refine R_ldc2 (122) 78 rfl dX11_next2_75 kl_X11_91 (by decide) ?_
        refine R_callS_i (M' := mX11_in) 81 rfl dX11_next2_78 ml_X11_63 kmX11_in st_X11_in (c_X11_in _ _ _ (by first | assumption | exact ⟨by omega, by omega⟩ | exact rg_L (by assumption)) (by first | assumption | exact ⟨by omega, by omega⟩ | exact rg_L (by assumption)) (by first | assumption | exact ⟨by omega, by omega⟩ | exact rg_L (by assumption))) rfl rfl ⟨Nat.le_of_ble_eq_true rfl, Nat.le_of_ble_eq_true rfl⟩ (Nat.le_of_ble_eq_true rfl) ⟨Nat.le_of_ble_eq_true rfl, Nat.le_of_ble_eq_true rfl⟩ ?_
        refine R_ifp_eq 84 126 rfl rfl dX11_next2_81 (fun h81 => ?_) (fun h81 => ?_)
        · refine R_iload_n 127 rfl dX11_next2_126 rfl ?_
          refine R_i2l 128 rfl dX11_next2_127 (by first | assumption | exact ⟨by omega, by omega⟩) ?_
          refine R_ldc2 (48) 131 rfl dX11_next2_128 kl_X11_93 (by decide) ?_
          refine R_ldc2 (57) 134 rfl dX11_next2_131 kl_X11_95 (by decide) ?_
          refine R_callS_i (M' := mX11_in) 137 rfl dX11_next2_134 ml_X11_63 kmX11_in st_X11_in (c_X11_in _ _ _ (by first | assumption | exact ⟨by omega, by omega⟩ | exact rg_L (by assumption)) (by first | assumption | exact ⟨by omega, by omega⟩ | exact rg_L (by assumption)) (by first | assumption | exact ⟨by omega, by omega⟩ | exact rg_L (by assumption))) rfl rfl ⟨Nat.le_of_ble_eq_true rfl, Nat.le_of_ble_eq_true rfl⟩ (Nat.le_of_ble_eq_true rfl) ⟨Nat.le_of_ble_eq_true rfl, Nat.le_of_ble_eq_true rfl⟩ ?_
          refine R_ifp_eq 140 243 rfl rfl dX11_next2_137 (fun h137 => ?_) (fun h137 => ?_)
          · refine R_aload_n 244 rfl dX11_next2_243 rfl ?_
            refine R_iconst 245 rfl dX11_next2_244 ?_
            refine R_putI 7 248 rfl dX11_next2_245 rfl rfl fl_X11_76 ?_
            refine R_aload_n 249 rfl dX11_next2_248 rfl ?_
            refine R_dup 250 rfl dX11_next2_249 rfl ?_
            refine R_getI 5 253 rfl dX11_next2_250 rfl rfl fl_X11_79 ?_
            refine R_top (b := (a : Int)) (by simp [setI]; exact g5) ?_
            refine R_iconst 254 rfl dX11_next2_253 ?_
            refine R_iadd 255 rfl dX11_next2_254 ?_
            refine R_putI 5 258 rfl dX11_next2_255 rfl rfl fl_X11_79 ?_
            refine R_iload_n 259 rfl dX11_next2_258 rfl ?_
            refine R_bipush 261 rfl dX11_next2_259 (by decide) ?_
            refine R_icmp_eq 264 269 rfl rfl dX11_next2_261 (by first | assumption | exact ⟨by omega, by omega⟩) (by first | assumption | exact ⟨by omega, by omega⟩) (fun h261 => ?_) (fun h261 => ?_)
            · refine R_return dX11_next2_269 rfl ?_
              first
              | (rw [if_pos (by omega)] at aw
                 refine QV_mk (fin a _ ep (((hf.set (by omega)).set (by omega)).set (by omega)) (fun s hx => ?_) (fun e hx => ?_))
                 · rw [aw] at hx
                   cases hx
                   exact ⟨by simp [setI]; exact g3, by simp [setI]; exact g5, by simp [setI], by simp [setI], fun q => by simp at q⟩
                 · rw [aw] at hx
                   cases hx)
              | (rw [if_neg (by omega), if_pos (by omega)] at aw
                 refine QV_mk (fin a _ ep ((((((hf.set (by omega)).set (by omega)).set (by omega)).set (by omega)).set (by omega)).set (by omega)) (fun s hx => ?_) (fun e hx => ⟨by simp [setI], by simp [setI]⟩))
                 rw [aw] at hx
                 cases hx)
              | (rw [if_neg (by omega), if_neg (by omega), if_pos (by omega)] at aw
                 refine QV_mk (fin a _ ep ((((hf.set (by omega)).set (by omega)).set (by omega)).set (by omega)) (fun s hx => ?_) (fun e hx => ?_))
                 · rw [aw] at hx
                   cases hx
                   exact ⟨by simp [setI]; exact g3, by simp [setI], by simp [setI], by simp [setI], fun q => by simp at q⟩
                 · rw [aw] at hx
                   cases hx)
            · refine R_aload_n 265 rfl dX11_next2_264 rfl ?_
              refine R_iconst 266 rfl dX11_next2_265 ?_
              refine R_callV_v (M' := mX11_fails) 269 rfl dX11_next2_266 ml_X11_97 kmX11_fails im_X11_fails se_X11_fails rfl ⟨by decide, rfl⟩ (c_X11_fails0 _ (by simp [setI]; exact g3)) rfl rfl ⟨Nat.le_of_ble_eq_true rfl, Nat.le_of_ble_eq_true rfl⟩ (Nat.le_of_ble_eq_true rfl) ⟨Nat.le_of_ble_eq_true rfl, Nat.le_of_ble_eq_true rfl⟩ ?_
              refine R_return dX11_next2_269 rfl ?_
              first
              | (rw [if_pos (by omega)] at aw
                 refine QV_mk (fin a _ ep (((hf.set (by omega)).set (by omega)).set (by omega)) (fun s hx => ?_) (fun e hx => ?_))
                 · rw [aw] at hx
                   cases hx
                   exact ⟨by simp [setI]; exact g3, by simp [setI]; exact g5, by simp [setI], by simp [setI], fun q => by simp at q⟩
                 · rw [aw] at hx
                   cases hx)
              | (rw [if_neg (by omega), if_pos (by omega)] at aw
                 refine QV_mk (fin a _ ep ((((((hf.set (by omega)).set (by omega)).set (by omega)).set (by omega)).set (by omega)).set (by omega)) (fun s hx => ?_) (fun e hx => ⟨by simp [setI], by simp [setI]⟩))
                 rw [aw] at hx
                 cases hx)
              | (rw [if_neg (by omega), if_neg (by omega), if_pos (by omega)] at aw
                 refine QV_mk (fin a _ ep ((((hf.set (by omega)).set (by omega)).set (by omega)).set (by omega)) (fun s hx => ?_) (fun e hx => ?_))
                 · rw [aw] at hx
                   cases hx
                   exact ⟨by simp [setI]; exact g3, by simp [setI], by simp [setI], by simp [setI], fun q => by simp at q⟩
                 · rw [aw] at hx
                   cases hx)
          · exact Ld a ep (by omega) a (by omega) (Nat.le_refl _) _ _ ((hf.set (by omega)).set (by omega)) (by simp [setI]; exact g3) (by simp [setI]; exact g5) (by simp [setI]) (fun _ => by rw [Nat.sub_self]; simp [setI, nv]) rfl
        · exact Lw a ep (by omega) a (by omega) (Nat.le_refl _) _ _ ((hf.set (by omega)).set (by omega)) (by simp [setI]; exact g3) (by simp [setI]; exact g5) (by simp [setI]) rfl
      · refine R_aload_n 63 rfl dX11_next2_62 rfl ?_
        refine R_iconst 64 rfl dX11_next2_63 ?_
        refine R_putI 7 67 rfl dX11_next2_64 rfl rfl fl_X11_76 ?_
        refine R_goto 269 rfl dX11_next2_67 ?_
        refine R_return dX11_next2_269 rfl ?_
        first
        | (rw [if_pos (by omega)] at aw
           refine QV_mk (fin a _ ep (((hf.set (by omega)).set (by omega)).set (by omega)) (fun s hx => ?_) (fun e hx => ?_))
           · rw [aw] at hx
             cases hx
             exact ⟨by simp [setI]; exact g3, by simp [setI]; exact g5, by simp [setI], by simp [setI], fun q => by simp at q⟩
           · rw [aw] at hx
             cases hx)
        | (rw [if_neg (by omega), if_pos (by omega)] at aw
           refine QV_mk (fin a _ ep ((((((hf.set (by omega)).set (by omega)).set (by omega)).set (by omega)).set (by omega)).set (by omega)) (fun s hx => ?_) (fun e hx => ⟨by simp [setI], by simp [setI]⟩))
           rw [aw] at hx
           cases hx)
        | (rw [if_neg (by omega), if_neg (by omega), if_pos (by omega)] at aw
           refine QV_mk (fin a _ ep ((((hf.set (by omega)).set (by omega)).set (by omega)).set (by omega)) (fun s hx => ?_) (fun e hx => ?_))
           · rw [aw] at hx
             cases hx
             exact ⟨by simp [setI]; exact g3, by simp [setI], by simp [setI], by simp [setI], fun q => by simp at q⟩
           · rw [aw] at hx
             cases hx)
    · refine R_aload_n 22 rfl dX11_next2_21 rfl ?_
      refine R_dup 23 rfl dX11_next2_22 rfl ?_
      refine R_getI 5 26 rfl dX11_next2_23 rfl rfl fl_X11_79 ?_
      refine R_iconst 27 rfl dX11_next2_26 ?_
      refine R_iadd 28 rfl dX11_next2_27 ?_
      refine R_putI 5 31 rfl dX11_next2_28 rfl rfl fl_X11_79 ?_
      refine R_goto 8 rfl dX11_next2_31 ?_
      have ey := rE_y (T := T) (c := 4) (a := a) (by decide) (by omega)
      exact ih (by omega) (by omega) _ _ (hf.set (by omega)) (by simp [setI]; exact g3) (by simp [setI]; omega) (by rw [← ey]; exact he)
  refine R_aload_n 1 rfl dX11_next2_0 rfl ?_
  refine R_getI 3 4 rfl dX11_next2_1 rfl rfl fl_X11_67 ?_
  refine R_if_le 7 8 rfl rfl dX11_next2_4 (by first | assumption | exact ⟨by omega, by omega⟩) (fun h4 => ?_) (fun h4 => ?_)
  · exact Lp st.1 h1 (Nat.le_refl _) m _ Fn.rf h3 h5 rfl
  · refine R_return dX11_next2_7 rfl ?_
    exfalso; omega
theorem c_X11_next2 (x : PX St) (hb : MB T m) (hx : MCx T m x) : C Γ mX11_next2 1 40 0 0 [vr 96] SH m (QV SH (fun m' => Fn m m' ∧ MCx T m' (pb x (adv T)))) := by
  cases x with
  | inl e =>
    refine C_of_R rfl (Nat.le_of_ble_eq_true rfl) ?_
    have g3 := hx.1
    have g1 := hx.2.2
    refine R_aload_n 1 rfl dX11_next2_0 rfl ?_
    refine R_getI 3 4 rfl dX11_next2_1 rfl rfl fl_X11_67 ?_
    refine R_if_le 7 8 rfl rfl dX11_next2_4 (by first | assumption | exact ⟨by omega, by omega⟩) (fun h4 => ?_) (fun h4 => ?_)
    · exfalso; omega
    · refine R_return dX11_next2_7 rfl ?_
      exact QV_mk ⟨Fn.rf, hx⟩
  | inr st =>
    obtain ⟨g3, g5, g6, g7, g8, g18, v, hL, hB⟩ := hx
    exact c_X11_next2a st hb g3 g5 g18 v.2.1 v.2.2.2.2.1 hL hB
end
