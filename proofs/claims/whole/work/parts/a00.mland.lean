def is101 (a : Nat) : Bool := decide (a = 101)
def is102 (a : Nat) : Bool := decide (a = 102)
def is103 (a : Nat) : Bool := decide (a = 103)
def is104 (a : Nat) : Bool := decide (a = 104)
theorem npN_eq (L : Ld) : npN L = (L.1 0).toNat := rfl
section
variable {Γ : GX} {m m' : Mem} {B : Bk} {L : Ld} {ch : Cs} {T : Tp} {F N : Int} {I : Nat → Im} {S : Nat → Sht}
theorem chA_ok {L : Ld} (h : LdOk L) : ChOk (chA L) := fun c hc => by
  have hab := allB_rg h
  exact ⟨hab.1, by show allB L < 4096; omega, (show (0 : Int) ≤ 0 by decide), (show (0 : Int) ≤ 89 by decide), (show (0 : Int) ≤ 89 by decide), (show (89 : Int) ≤ 89 by decide), (show (0 : Int) ≤ 3 by decide), (show (3 : Int) ≤ 3 by decide), (show (0 : Int) ≤ 255 by decide), (show (255 : Int) ≤ 255 by decide)⟩
theorem c_X11_land (hR : RS L B ch m) (hX : RX T F I S N m) : C Γ mX11_land 6 240 0 0 [vr 96] SH m (QR (ldL T L) (ldB T B) (ldC T ch) TpZ (ldF T) I S N m (a_land T)) := by
  refine C_of_R rfl (Nat.le_of_ble_eq_true rfl) ?_
  have hP := hR.1
  have hO := hX.1.1
  have L71d : ∀ e m1 y1 y2, Fy m m1 → MCd m1 e → landT T = .inl e → R Γ mX11_land { frames := 6, cells := 0, slots := 0, locals := 240 } 0 0 (QR (ldL T L) (ldB T B) (ldC T ch) TpZ (ldF T) I S N m (a_land T)) 0 0 71 [some (vr 96), y1, y2] [] SH m1 := by
    intro e m1 y1 y2 f1 p1 hl
    obtain ⟨p3, p4, pe⟩ := p1
    refine R_aload_n 72 rfl dX11_land_71 rfl ?_
    refine R_iconst 73 rfl dX11_land_72 ?_
    refine R_putI 1 76 rfl dX11_land_73 rfl rfl fl_X11_59 ?_
    refine R_aload_n 77 rfl dX11_land_76 rfl ?_
    refine R_aload_n 78 rfl dX11_land_77 rfl ?_
    refine R_getI 3 81 rfl dX11_land_78 rfl rfl fl_X11_67 ?_
    refine R_top (b := e.1) (by simp [setI]; exact p3) ?_
    refine R_putI 2 84 rfl dX11_land_81 rfl rfl fl_X11_135 ?_
    refine R_aload_n 85 rfl dX11_land_84 rfl ?_
    refine R_getI 3 88 rfl dX11_land_85 rfl rfl fl_X11_67 ?_
    refine R_top (b := e.1) (by simp [setI]; exact p3) ?_
    refine R_if_le 91 99 rfl rfl dX11_land_88 (by first | assumption | exact ⟨by omega, by omega⟩) (fun h88 => ?_) (fun h88 => ?_)
    · exfalso; omega
    · refine R_bipush 93 rfl dX11_land_91 (by decide) ?_
      refine R_aload_n 94 rfl dX11_land_93 rfl ?_
      refine R_getI 4 97 rfl dX11_land_94 rfl rfl fl_X11_73 ?_
      refine R_top (b := (e.2 : Int)) (by simp [setI]; exact p4) ?_
      refine R_isub 98 rfl dX11_land_97 ?_
      refine R_ireturn dX11_land_98 rfl ?_
      have key : ∀ a k, a ≠ 96 ∨ (k ≠ 1 ∧ k ≠ 2) → (setI (setI m1 96 1 0) 96 2 e.1).1 a k = m1.1 a k := fun a k q => by
        simp only [setI]
        rw [if_neg (by omega), if_neg (by omega)]
      unfold ldL ldB ldC ldF a_land
      rw [hl]
      refine QI_mk ⟨rfl, ⟨fun a k q => (key a k (by omega)).trans (f1.1 a k (by omega) (by omega)), f1.2⟩, hR.cell (fun a k q => (key a k (by omega)).trans (f1.1 a k (by omega) (by omega))) f1.2, hX.tz (fun a k q => (key a k (by omega)).trans (f1.1 a k (by omega) (by omega))) (by simp [setI]) (by simp [setI]) (show 0 ≤ e.1 ∧ e.1 ≤ 5 by omega)⟩
  have L71a : ∀ (n : Nat) s m1 zn y2, zn = (n : Int) → Fy m m1 → MCa T m1 s → landT T = .inr (n, s) → R Γ mX11_land { frames := 6, cells := 0, slots := 0, locals := 240 } 0 0 (QR (ldL T L) (ldB T B) (ldC T ch) TpZ (ldF T) I S N m (a_land T)) 0 0 71 [some (vr 96), some (vi zn), y2] [] SH m1 := by
    intro n s m1 zn y2 hzn f1 p1 hl
    obtain ⟨p3, p5, p6, p7, p8, p18, pv, pL, pB⟩ := p1
    have hok : LdOk (sL s) := land_ok (n := n) (s := s) hl
    have hab := allB_rg hok
    have l0 := hok.1.1
    have l1 := hok.1.2.1
    have l2 := hok.1.2.2.1
    have l3 := hok.1.2.2.2.1
    have hP1 : ∀ m2, m2.2 = m1.2 → RP m2 := fun m2 q a k r w => by rw [q, f1.2]; exact hR.1 a k r w
    have k1 : ∀ a k, a ≠ 96 → (setI (setI m1 96 1 0) 96 2 0).1 a k = m1.1 a k := fun a k q => by
      simp only [setI]
      rw [if_neg (by omega), if_neg (by omega)]
    have L177 : ∀ m4 y, m4.2 = m1.2 → (∀ a k, a < 101 ∨ 103 < a → m4.1 a k = (setI (setI m1 96 1 0) 96 2 0).1 a k) → (∀ j, j < 11 → m4.1 101 j = m1.1 104 j) → (∀ j, j < 48 → m4.1 102 j = m1.1 105 j) → (∀ j, j < 40 → m4.1 103 j = m1.1 106 j) → R Γ mX11_land { frames := 6, cells := 0, slots := 0, locals := 240 } 0 0 (QR (ldL T L) (ldB T B) (ldC T ch) TpZ (ldF T) I S N m (a_land T)) 0 0 177 [some (vr 96), some (vi zn), y] [] SH m4 := by
      intro m4 y e2 ef e101 e102 e103
      clear hP
      have hP := hP1 m4 e2
      have q0 : m4.1 101 0 = (sL s).1 0 := (e101 0 (by omega)).trans (pL.1 0 (by omega))
      have a0 : (setI m4 107 650 0).1 101 0 = (sL s).1 0 := by simp [setI]; exact q0
      have ab : 1 * 2 ^ ((sL s).1 0).toNat - 1 = allB (sL s) := by show _ = (2 : Int) ^ npN (sL s) - 1; rw [npN_eq]; omega
      have a1 : (scM (setI m4 107 650 0) 0 (allB (sL s)) 0 89 3 255).1 101 0 = (sL s).1 0 := by rw [scM_n ⟨by omega, by omega⟩]; exact a0
      have key : ∀ a k, (a ≠ 107 ∨ k < 640 ∨ 650 < k) → (a ≠ 96 ∨ k ≠ 20) → (scM (scM (setI m4 107 650 0) 0 (allB (sL s)) 0 89 3 255) 1 (allB (sL s)) 0 89 3 255).1 a k = m4.1 a k := fun a k q1 q2 => by
        rw [scM_n ⟨by omega, by omega⟩, scM_n ⟨by omega, by omega⟩]
        simp only [setI]
        rw [if_neg (by omega)]
      have kf : ∀ a k, a < 96 ∨ (97 ≤ a ∧ a ≤ 100) ∨ 109 ≤ a ∨ (a = 107 ∧ 660 ≤ k) ∨ (a = 96 ∧ k = 34) → (scM (scM (setI m4 107 650 0) 0 (allB (sL s)) 0 89 3 255) 1 (allB (sL s)) 0 89 3 255).1 a k = m.1 a k := fun a k q => by
        rw [key a k (by omega) (by omega), ef a k (by omega)]
        simp only [setI]
        rw [if_neg (by omega), if_neg (by omega)]
        exact f1.1 a k (by omega) (by omega)
      have y1 := scM_y (m := scM (setI m4 107 650 0) 0 (allB (sL s)) 0 89 3 255) (c := 1) (p := allB (sL s)) (f := 0) (t := 89) (s := 3) (r := 255)
      have y0 := scM_y (m := setI m4 107 650 0) (c := 0) (p := allB (sL s)) (f := 0) (t := 89) (s := 3) (r := 255)
      have L188b : R Γ mX11_land { frames := 6, cells := 0, slots := 0, locals := 240 } 0 0 (QR (ldL T L) (ldB T B) (ldC T ch) TpZ (ldF T) I S N m (a_land T)) 0 0 188 [some (vr 96), some (vi zn), some (vi (0 + 1))] [] SH (scM (setI m4 107 650 0) 0 (allB (sL s)) 0 89 3 255) := by
        refine R_iload_n 189 rfl dX11_land_188 rfl ?_
        refine R_iconst 190 rfl dX11_land_189 ?_
        refine R_icmp_ge 193 221 rfl rfl dX11_land_190 (by first | assumption | exact ⟨by omega, by omega⟩) (by first | assumption | exact ⟨by omega, by omega⟩) (fun h190 => ?_) (fun h190 => ?_)
        · exact absurd h190 (by omega)
        refine R_aload_n 194 rfl dX11_land_193 rfl ?_
        refine R_iload_n 195 rfl dX11_land_194 rfl ?_
        refine R_iconst 196 rfl dX11_land_195 ?_
        refine R_aload_n 197 rfl dX11_land_196 rfl ?_
        refine R_getP 12 200 rfl dX11_land_197 rfl rfl fl_X11_22 (hP _ _ _ rfl) ?_
        refine R_iconst 201 rfl dX11_land_200 ?_
        refine R_iald 0 202 rfl dX11_land_201 rfl (by first | rfl | omega) (by decide) (by decide) ?_
        rw [a1]
        refine R_ishl 203 rfl dX11_land_202 (by omega) (by omega) ?_
        refine R_iconst 204 rfl dX11_land_203 ?_
        refine R_isub 205 rfl dX11_land_204 ?_
        rw [ab]
        refine R_iconst 206 rfl dX11_land_205 ?_
        refine R_bipush 208 rfl dX11_land_206 (by decide) ?_
        refine R_iconst 209 rfl dX11_land_208 ?_
        refine R_sipush 212 rfl dX11_land_209 (by decide) ?_
        refine R_callV_v (M' := mX11_setChoice) 215 rfl dX11_land_212 ml_X11_138 kmX11_setChoice im_X11_setChoice se_X11_setChoice rfl ⟨by decide, rfl⟩ (c_X11_setChoice _ _ _ _ _ _ 1 (hP1 _ e2) rfl (by decide)) rfl rfl ⟨Nat.le_of_ble_eq_true rfl, Nat.le_of_ble_eq_true rfl⟩ (Nat.le_of_ble_eq_true rfl) ⟨Nat.le_of_ble_eq_true rfl, Nat.le_of_ble_eq_true rfl⟩ ?_
        refine R_iinc [_, _, _] 218 rfl dX11_land_215 rfl rfl (by decide) ?_
        refine R_goto 188 rfl dX11_land_218 ?_
        refine R_iload_n 189 rfl dX11_land_188 rfl ?_
        refine R_iconst 190 rfl dX11_land_189 ?_
        refine R_icmp_ge 193 221 rfl rfl dX11_land_190 (by first | assumption | exact ⟨by omega, by omega⟩) (by first | assumption | exact ⟨by omega, by omega⟩) (fun h190 => ?_) (fun h190 => ?_)
        rotate_left
        · exact absurd h190 (by omega)
        refine R_iload_n 222 rfl dX11_land_221 rfl ?_
        refine R_ireturn dX11_land_222 rfl ?_
        unfold ldL ldB ldC ldF a_land
        rw [hl]
        refine QI_mk ⟨hzn, ⟨fun a k q => kf a k (by omega), e2.trans f1.2⟩, ⟨hP1 _ e2, ⟨fun j hj => by rw [key _ _ (by omega) (by omega), e101 j hj]; exact pL.1 j hj, fun p hp w hw => by have hp2 : (p : Int) < (sL s).1 0 := hp; rw [key _ _ (by omega) (by omega), e102 _ (by omega)]; exact pL.2.1 p hp w hw, fun p hp w hw => by have hp2 : (p : Int) < (sL s).1 1 := hp; rw [key _ _ (by omega) (by omega), e103 _ (by omega)]; exact pL.2.2 p hp w hw⟩, hok, ⟨?_, fun k hk => by have : k < 0 := hk; omega, fun k hk => by have : k < 2 * 0 := hk; omega⟩, ⟨by show 0 ≤ 40; decide, fun k hk => by have : k < 0 := hk; omega, fun k hk => by have : k < 2 * 0 := hk; omega⟩, Or.inl ⟨y1.1, fun c hc j hj => ?_⟩, chA_ok hok⟩, hX.tz (fun a k q => kf a k (by omega)) ?_ ?_ (show (0 : Int) ≤ 0 ∧ (0 : Int) ≤ 5 by decide)⟩
        · show _ = ((0 : Nat) : Int)
          rw [scM_n ⟨by omega, by omega⟩, scM_n ⟨by omega, by omega⟩]
          simp [setI]
        · rcases (show c = 0 ∨ c = 1 by omega) with rfl | rfl
          · rw [scM_n ⟨by omega, by omega⟩]
            rcases (show j = 0 ∨ j = 1 ∨ j = 2 ∨ j = 3 ∨ j = 4 by omega) with rfl | rfl | rfl | rfl | rfl
            · exact y0.2.1
            · exact y0.2.2.1
            · exact y0.2.2.2.1
            · exact y0.2.2.2.2.1
            · exact y0.2.2.2.2.2
          · rcases (show j = 0 ∨ j = 1 ∨ j = 2 ∨ j = 3 ∨ j = 4 by omega) with rfl | rfl | rfl | rfl | rfl
            · exact y1.2.1
            · exact y1.2.2.1
            · exact y1.2.2.2.1
            · exact y1.2.2.2.2.1
            · exact y1.2.2.2.2.2
        · rw [key _ _ (by omega) (by omega), ef _ _ (by omega)]
          simp [setI]
        · rw [key _ _ (by omega) (by omega), ef _ _ (by omega)]
          simp [setI]
      have L188a : R Γ mX11_land { frames := 6, cells := 0, slots := 0, locals := 240 } 0 0 (QR (ldL T L) (ldB T B) (ldC T ch) TpZ (ldF T) I S N m (a_land T)) 0 0 188 [some (vr 96), some (vi zn), some (vi 0)] [] SH (setI m4 107 650 0) := by
        refine R_iload_n 189 rfl dX11_land_188 rfl ?_
        refine R_iconst 190 rfl dX11_land_189 ?_
        refine R_icmp_ge 193 221 rfl rfl dX11_land_190 (by first | assumption | exact ⟨by omega, by omega⟩) (by first | assumption | exact ⟨by omega, by omega⟩) (fun h190 => ?_) (fun h190 => ?_)
        · exact absurd h190 (by omega)
        refine R_aload_n 194 rfl dX11_land_193 rfl ?_
        refine R_iload_n 195 rfl dX11_land_194 rfl ?_
        refine R_iconst 196 rfl dX11_land_195 ?_
        refine R_aload_n 197 rfl dX11_land_196 rfl ?_
        refine R_getP 12 200 rfl dX11_land_197 rfl rfl fl_X11_22 (hP _ _ _ rfl) ?_
        refine R_iconst 201 rfl dX11_land_200 ?_
        refine R_iald 0 202 rfl dX11_land_201 rfl (by first | rfl | omega) (by decide) (by decide) ?_
        rw [a0]
        refine R_ishl 203 rfl dX11_land_202 (by omega) (by omega) ?_
        refine R_iconst 204 rfl dX11_land_203 ?_
        refine R_isub 205 rfl dX11_land_204 ?_
        rw [ab]
        refine R_iconst 206 rfl dX11_land_205 ?_
        refine R_bipush 208 rfl dX11_land_206 (by decide) ?_
        refine R_iconst 209 rfl dX11_land_208 ?_
        refine R_sipush 212 rfl dX11_land_209 (by decide) ?_
        refine R_callV_v (M' := mX11_setChoice) 215 rfl dX11_land_212 ml_X11_138 kmX11_setChoice im_X11_setChoice se_X11_setChoice rfl ⟨by decide, rfl⟩ (c_X11_setChoice _ _ _ _ _ _ 0 (hP1 _ e2) rfl (by decide)) rfl rfl ⟨Nat.le_of_ble_eq_true rfl, Nat.le_of_ble_eq_true rfl⟩ (Nat.le_of_ble_eq_true rfl) ⟨Nat.le_of_ble_eq_true rfl, Nat.le_of_ble_eq_true rfl⟩ ?_
        refine R_iinc [_, _, _] 218 rfl dX11_land_215 rfl rfl (by decide) ?_
        refine R_goto 188 rfl dX11_land_218 ?_
        exact L188b
      refine R_aload_n 178 rfl dX11_land_177 rfl ?_
      refine R_getP 19 181 rfl dX11_land_178 rfl rfl fl_X11_40 (hP _ _ _ rfl) ?_
      refine R_sipush 184 rfl dX11_land_181 (by decide) ?_
      refine R_iconst 185 rfl dX11_land_184 ?_
      refine R_iast 650 186 rfl dX11_land_185 rfl (by first | rfl | omega) (by decide) (by decide) ?_
      refine R_iconst 187 rfl dX11_land_186 ?_
      refine R_istore_n [_, _, _] 188 rfl dX11_land_187 rfl (by decide) ?_
      exact L188a
    have L153 : ∀ m3, m3.2 = m1.2 → (∀ a k, a < 101 ∨ 102 < a → m3.1 a k = (setI (setI m1 96 1 0) 96 2 0).1 a k) → (∀ j, j < 11 → m3.1 101 j = m1.1 104 j) → (∀ j, j < 48 → m3.1 102 j = m1.1 105 j) → ∀ i : Nat, i ≤ 40 → ∀ m4 z, z = (i : Int) → Fr is103 m3 m4 → (∀ j, j < i → m4.1 103 j = m1.1 106 j) → R Γ mX11_land { frames := 6, cells := 0, slots := 0, locals := 240 } 0 0 (QR (ldL T L) (ldB T B) (ldC T ch) TpZ (ldF T) I S N m (a_land T)) 0 0 153 [some (vr 96), some (vi zn), some (vi z)] [] SH m4 := by
      intro m3 e2 ef e101 e102
      refine up_ind 40 (fun i hi ih m4 z hz fr hc => ?_)
      clear hP
      have hP := hP1 m4 (fr.2.trans e2)
      refine R_iload_n 154 rfl dX11_land_153 rfl ?_
      refine R_bipush 156 rfl dX11_land_154 (by decide) ?_
      refine R_icmp_ge 159 177 rfl rfl dX11_land_156 (by first | assumption | exact ⟨by omega, by omega⟩) (by first | assumption | exact ⟨by omega, by omega⟩) (fun h156 => ?_) (fun h156 => ?_)
      · exact L177 m4 _ (fr.2.trans e2) (fun a k q => (fr.1 a k (by simp [is103]; omega)).trans (ef a k (by omega))) (fun j hj => (fr.1 _ _ rfl).trans (e101 j hj)) (fun j hj => (fr.1 _ _ rfl).trans (e102 j hj)) (fun j hj => hc j (by omega))
      · refine R_aload_n 160 rfl dX11_land_159 rfl ?_
        refine R_getP 14 163 rfl dX11_land_160 rfl rfl fl_X11_28 (hP _ _ _ rfl) ?_
        refine R_iload_n 164 rfl dX11_land_163 rfl ?_
        refine R_aload_n 165 rfl dX11_land_164 rfl ?_
        refine R_getP 17 168 rfl dX11_land_165 rfl rfl fl_X11_37 (hP _ _ _ rfl) ?_
        refine R_iload_n 169 rfl dX11_land_168 rfl ?_
        refine R_iald i 170 rfl dX11_land_169 rfl (by first | rfl | omega) (by omega) (by decide) ?_
        refine R_iast i 171 rfl dX11_land_170 rfl (by first | rfl | omega) (by omega) (by decide) ?_
        refine R_iinc [_, _, _] 174 rfl dX11_land_171 rfl rfl (by decide) ?_
        refine R_goto 153 rfl dX11_land_174 ?_
        refine ih (by omega) _ _ (by omega) (fr.set rfl) (fun j hj => ?_)
        simp only [setI]
        by_cases q : j = i
        · rw [if_pos ⟨trivial, q⟩, fr.1 106 i rfl, ef 106 i (by omega), k1 106 i (by omega), q]
        · rw [if_neg (by omega)]; exact hc j (by omega)
    have L127 : ∀ m3, m3.2 = m1.2 → (∀ a k, a < 101 ∨ 101 < a → m3.1 a k = (setI (setI m1 96 1 0) 96 2 0).1 a k) → (∀ j, j < 11 → m3.1 101 j = m1.1 104 j) → ∀ i : Nat, i ≤ 48 → ∀ m4 z, z = (i : Int) → Fr is102 m3 m4 → (∀ j, j < i → m4.1 102 j = m1.1 105 j) → R Γ mX11_land { frames := 6, cells := 0, slots := 0, locals := 240 } 0 0 (QR (ldL T L) (ldB T B) (ldC T ch) TpZ (ldF T) I S N m (a_land T)) 0 0 127 [some (vr 96), some (vi zn), some (vi z)] [] SH m4 := by
      intro m3 e2 ef e101
      refine up_ind 48 (fun i hi ih m4 z hz fr hc => ?_)
      clear hP
      have hP := hP1 m4 (fr.2.trans e2)
      refine R_iload_n 128 rfl dX11_land_127 rfl ?_
      refine R_bipush 130 rfl dX11_land_128 (by decide) ?_
      refine R_icmp_ge 133 151 rfl rfl dX11_land_130 (by first | assumption | exact ⟨by omega, by omega⟩) (by first | assumption | exact ⟨by omega, by omega⟩) (fun h130 => ?_) (fun h130 => ?_)
      · refine R_iconst 152 rfl dX11_land_151 ?_
        refine R_istore_n [_, _, _] 153 rfl dX11_land_152 rfl (by decide) ?_
        exact L153 m4 (fr.2.trans e2) (fun a k q => (fr.1 a k (by simp [is102]; omega)).trans (ef a k (by omega))) (fun j hj => (fr.1 _ _ rfl).trans (e101 j hj)) (fun j hj => hc j (by omega)) 0 (by omega) _ _ rfl Fr.rf (fun j hj => absurd hj (by omega))
      · refine R_aload_n 134 rfl dX11_land_133 rfl ?_
        refine R_getP 13 137 rfl dX11_land_134 rfl rfl fl_X11_25 (hP _ _ _ rfl) ?_
        refine R_iload_n 138 rfl dX11_land_137 rfl ?_
        refine R_aload_n 139 rfl dX11_land_138 rfl ?_
        refine R_getP 16 142 rfl dX11_land_139 rfl rfl fl_X11_34 (hP _ _ _ rfl) ?_
        refine R_iload_n 143 rfl dX11_land_142 rfl ?_
        refine R_iald i 144 rfl dX11_land_143 rfl (by first | rfl | omega) (by omega) (by decide) ?_
        refine R_iast i 145 rfl dX11_land_144 rfl (by first | rfl | omega) (by omega) (by decide) ?_
        refine R_iinc [_, _, _] 148 rfl dX11_land_145 rfl rfl (by decide) ?_
        refine R_goto 127 rfl dX11_land_148 ?_
        refine ih (by omega) _ _ (by omega) (fr.set rfl) (fun j hj => ?_)
        simp only [setI]
        by_cases q : j = i
        · rw [if_pos ⟨trivial, q⟩, fr.1 105 i rfl, ef 105 i (by omega), k1 105 i (by omega), q]
        · rw [if_neg (by omega)]; exact hc j (by omega)
    have L101 : ∀ i : Nat, i ≤ 11 → ∀ m4 z, z = (i : Int) → Fr is101 (setI (setI m1 96 1 0) 96 2 0) m4 → (∀ j, j < i → m4.1 101 j = m1.1 104 j) → R Γ mX11_land { frames := 6, cells := 0, slots := 0, locals := 240 } 0 0 (QR (ldL T L) (ldB T B) (ldC T ch) TpZ (ldF T) I S N m (a_land T)) 0 0 101 [some (vr 96), some (vi zn), some (vi z)] [] SH m4 := by
      refine up_ind 11 (fun i hi ih m4 z hz fr hc => ?_)
      clear hP
      have hP := hP1 m4 fr.2
      refine R_iload_n 102 rfl dX11_land_101 rfl ?_
      refine R_bipush 104 rfl dX11_land_102 (by decide) ?_
      refine R_icmp_ge 107 125 rfl rfl dX11_land_104 (by first | assumption | exact ⟨by omega, by omega⟩) (by first | assumption | exact ⟨by omega, by omega⟩) (fun h104 => ?_) (fun h104 => ?_)
      · refine R_iconst 126 rfl dX11_land_125 ?_
        refine R_istore_n [_, _, _] 127 rfl dX11_land_126 rfl (by decide) ?_
        exact L127 m4 fr.2 (fun a k q => fr.1 a k (by simp [is101]; omega)) (fun j hj => hc j (by omega)) 0 (by omega) _ _ rfl Fr.rf (fun j hj => absurd hj (by omega))
      · refine R_aload_n 108 rfl dX11_land_107 rfl ?_
        refine R_getP 12 111 rfl dX11_land_108 rfl rfl fl_X11_22 (hP _ _ _ rfl) ?_
        refine R_iload_n 112 rfl dX11_land_111 rfl ?_
        refine R_aload_n 113 rfl dX11_land_112 rfl ?_
        refine R_getP 15 116 rfl dX11_land_113 rfl rfl fl_X11_31 (hP _ _ _ rfl) ?_
        refine R_iload_n 117 rfl dX11_land_116 rfl ?_
        refine R_iald i 118 rfl dX11_land_117 rfl (by first | rfl | omega) (by omega) (by decide) ?_
        refine R_iast i 119 rfl dX11_land_118 rfl (by first | rfl | omega) (by omega) (by decide) ?_
        refine R_iinc [_, _, _] 122 rfl dX11_land_119 rfl rfl (by decide) ?_
        refine R_goto 101 rfl dX11_land_122 ?_
        refine ih (by omega) _ _ (by omega) (fr.set rfl) (fun j hj => ?_)
        simp only [setI]
        by_cases q : j = i
        · rw [if_pos ⟨trivial, q⟩, fr.1 104 i rfl, k1 104 i (by omega), q]
        · rw [if_neg (by omega)]; exact hc j (by omega)
    refine R_aload_n 72 rfl dX11_land_71 rfl ?_
    refine R_iconst 73 rfl dX11_land_72 ?_
    refine R_putI 1 76 rfl dX11_land_73 rfl rfl fl_X11_59 ?_
    refine R_aload_n 77 rfl dX11_land_76 rfl ?_
    refine R_aload_n 78 rfl dX11_land_77 rfl ?_
    refine R_getI 3 81 rfl dX11_land_78 rfl rfl fl_X11_67 ?_
    refine R_top (b := 0) (by simp [setI]; exact p3) ?_
    refine R_putI 2 84 rfl dX11_land_81 rfl rfl fl_X11_135 ?_
    refine R_aload_n 85 rfl dX11_land_84 rfl ?_
    refine R_getI 3 88 rfl dX11_land_85 rfl rfl fl_X11_67 ?_
    refine R_top (b := 0) (by simp [setI]; exact p3) ?_
    refine R_if_le 91 99 rfl rfl dX11_land_88 (by first | assumption | exact ⟨by omega, by omega⟩) (fun h88 => ?_) (fun h88 => ?_)
    · refine R_iconst 100 rfl dX11_land_99 ?_
      refine R_istore_n [_, _, _] 101 rfl dX11_land_100 rfl (by decide) ?_
      exact L101 0 (by omega) _ _ rfl Fr.rf (fun j hj => absurd hj (by omega))
    · exfalso; omega
  have Lp : ∀ f n : Nat, n + f = 320 → ∀ zn : Int, zn = (n : Int) → ∀ m1 x y2, Fy m m1 → MB T m1 → MCx T m1 x → (∀ s, x = .inr s → LdOk (sL s) ∧ (s.2.2.1 ≠ 0 → n ≤ s.2.1)) → landT T = lns T f n x → R Γ mX11_land { frames := 6, cells := 0, slots := 0, locals := 240 } 0 0 (QR (ldL T L) (ldB T B) (ldC T ch) TpZ (ldF T) I S N m (a_land T)) 0 0 47 [some (vr 96), some (vi zn), y2] [] SH m1 := by
    intro f
    induction f with
    | zero =>
      intro n hn zn hz m1 x y2 hf hb hx hi he
      cases x with
      | inl e =>
        have e0 : landT T = .inl e := he
        have g3 := hx.1
        have g1 := hx.2.2
        refine R_aload_n 48 rfl dX11_land_47 rfl ?_
        refine R_getI 3 51 rfl dX11_land_48 rfl rfl fl_X11_67 ?_
        refine R_if_ne 54 71 rfl rfl dX11_land_51 (by first | assumption | exact ⟨by omega, by omega⟩) (fun h51 => ?_) (fun h51 => ?_)
        · exact L71d e _ _ _ hf hx e0
        · exfalso; omega
      | inr s =>
        have e0 : landT T = .inr (n, s) := he
        have g3 := hx.1
        have g7 := hx.2.2.2.1
        have v := hx.2.2.2.2.2.2.1
        have v2 := v.2.1
        have v3 := v.2.2.1
        have v4 := v.2.2.2.1
        have hl := hO.1
        have i2 := (hi s rfl).2
        refine R_aload_n 48 rfl dX11_land_47 rfl ?_
        refine R_getI 3 51 rfl dX11_land_48 rfl rfl fl_X11_67 ?_
        refine R_if_ne 54 71 rfl rfl dX11_land_51 (by first | assumption | exact ⟨by omega, by omega⟩) (fun h51 => ?_) (fun h51 => ?_)
        · first | (exfalso; omega) | exact L71a n s _ _ _ hz hf hx e0
        · refine R_aload_n 55 rfl dX11_land_54 rfl ?_
          refine R_getI 7 58 rfl dX11_land_55 rfl rfl fl_X11_76 ?_
          refine R_if_eq 61 71 rfl rfl dX11_land_58 (by first | assumption | exact ⟨by omega, by omega⟩) (fun h58 => ?_) (fun h58 => ?_)
          · first | (exfalso; omega) | exact L71a n s _ _ _ hz hf hx e0
          · exfalso
            have w1 := v3 (by omega)
            have w2 := i2 (by omega)
            omega
    | succ f ih =>
      intro n hn zn hz m1 x y2 hf hb hx hi he
      cases x with
      | inl e =>
        have e0 : landT T = .inl e := he
        have g3 := hx.1
        have g1 := hx.2.2
        refine R_aload_n 48 rfl dX11_land_47 rfl ?_
        refine R_getI 3 51 rfl dX11_land_48 rfl rfl fl_X11_67 ?_
        refine R_if_ne 54 71 rfl rfl dX11_land_51 (by first | assumption | exact ⟨by omega, by omega⟩) (fun h51 => ?_) (fun h51 => ?_)
        · exact L71d e _ _ _ hf hx e0
        · exfalso; omega
      | inr s =>
        have e0 : landT T = if s.2.2.1 = 0 then .inr (n, s) else lns T f (n + 1) (lineT T s) := he
        have g3 := hx.1
        have g7 := hx.2.2.2.1
        have v := hx.2.2.2.2.2.2.1
        have v4 := v.2.2.2.1
        have i1 := hi s rfl
        refine R_aload_n 48 rfl dX11_land_47 rfl ?_
        refine R_getI 3 51 rfl dX11_land_48 rfl rfl fl_X11_67 ?_
        refine R_if_ne 54 71 rfl rfl dX11_land_51 (by first | assumption | exact ⟨by omega, by omega⟩) (fun h51 => ?_) (fun h51 => ?_)
        · first
          | (exfalso; omega)
          | (rw [if_pos (by omega)] at e0
             exact L71a n s _ _ _ hz hf hx e0)
        · refine R_aload_n 55 rfl dX11_land_54 rfl ?_
          refine R_getI 7 58 rfl dX11_land_55 rfl rfl fl_X11_76 ?_
          refine R_if_eq 61 71 rfl rfl dX11_land_58 (by first | assumption | exact ⟨by omega, by omega⟩) (fun h58 => ?_) (fun h58 => ?_)
          · first
            | (exfalso; omega)
            | (rw [if_pos (by omega)] at e0
               exact L71a n s _ _ _ hz hf hx e0)
          · refine R_aload_n 62 rfl dX11_land_61 rfl ?_
            refine R_callV_V (M' := mX11_readLine) 65 rfl dX11_land_62 ml_X11_132 kmX11_readLine im_X11_readLine se_X11_readLine rfl ⟨by decide, rfl⟩ (c_X11_readLine s hb hx) rfl rfl ⟨Nat.le_of_ble_eq_true rfl, Nat.le_of_ble_eq_true rfl⟩ (Nat.le_of_ble_eq_true rfl) ⟨Nat.le_of_ble_eq_true rfl, Nat.le_of_ble_eq_true rfl⟩ ?_
            rintro m62 h62
            obtain ⟨f62, p62⟩ := h62
            refine R_iinc [_, _, _] 68 rfl dX11_land_65 rfl rfl (by decide) ?_
            refine R_goto 47 rfl dX11_land_68 ?_
            rw [if_neg (by omega)] at e0
            refine ih (n + 1) (by omega) _ (by omega) _ _ _ (hf.tr f62) (hb.fy f62) p62 (fun s' h' => ?_) e0
            have ok := line_ok v i1.1 h'
            have pl := line_pl v i1.1 h'
            have w2 := i1.2 (by omega)
            exact ⟨ok.2, fun _ => by omega⟩
  have L19 : ∀ i : Nat, i ≤ 11 → ∀ m1 z, z = (i : Int) → Fr is104 (setI (setI (setI m 96 3 0) 96 5 0) 96 18 0) m1 → (∀ j, j < i → m1.1 104 j = plL.getD j 0) → R Γ mX11_land { frames := 6, cells := 0, slots := 0, locals := 240 } 0 0 (QR (ldL T L) (ldB T B) (ldC T ch) TpZ (ldF T) I S N m (a_land T)) 0 0 19 [some (vr 96), some (vi 0), some (vi z)] [] SH m1 := by
    refine up_ind 11 (fun i hi ih m1 z hz fr hc => ?_)
    have k0 : ∀ a k, a ≠ 96 → a ≠ 104 → m1.1 a k = m.1 a k := fun a k q1 q2 => by
      rw [fr.1 a k (by simp [is104]; omega)]
      simp only [setI]
      rw [if_neg (by omega), if_neg (by omega), if_neg (by omega)]
    have hP0 : RP m1 := fun a k r w => by rw [fr.2]; exact hR.1 a k r w
    have fy : Fy m m1 := ⟨fun a k q1 q2 => by
      rw [fr.1 a k (by simp [is104]; omega)]
      simp only [setI]
      rw [if_neg (by omega), if_neg (by omega), if_neg (by omega)], fr.2⟩
    have hb : MB T m1 := by
      obtain ⟨q1, q2⟩ := hX.2.1
      obtain ⟨r1, r2, r3⟩ := hX.2.2.2.2.2.2
      exact ⟨hP0, by rw [fy.1 96 1 (by omega) (by omega)]; exact q1, fun k hk => by rw [fy.1 97 k (by omega) (by omega)]; exact q2 k hk, hO, fun j hj => by rw [fy.1 100 j (by omega) (by omega)]; exact r1 j hj, fun j hj => by rw [fy.1 98 j (by omega) (by omega)]; exact r2 j hj, fun j hj => by rw [fy.1 99 j (by omega) (by omega)]; exact r3 j hj⟩
    clear hP
    have hP := hP0
    have pl := hX.2.2.2.2.2.2.1
    refine R_iload_n 20 rfl dX11_land_19 rfl ?_
    refine R_bipush 22 rfl dX11_land_20 (by decide) ?_
    refine R_icmp_ge 25 43 rfl rfl dX11_land_22 (by first | assumption | exact ⟨by omega, by omega⟩) (by first | assumption | exact ⟨by omega, by omega⟩) (fun h22 => ?_) (fun h22 => ?_)
    · refine R_aload_n 44 rfl dX11_land_43 rfl ?_
      refine R_callV_V (M' := mX11_next2) 47 rfl dX11_land_44 ml_X11_101 kmX11_next2 im_X11_next2 se_X11_next2 rfl ⟨by decide, rfl⟩ (c_X11_next2a (0, 0, 0, 0, L0) hb (by rw [fr.1 96 3 rfl]; simp [setI]) (by rw [fr.1 96 5 rfl]; simp [setI]) (by rw [fr.1 96 18 rfl]; simp [setI, spd]) (Nat.zero_le _) (by show 0 < 64; decide) ⟨fun j hj => hc j (by omega), fun p hp => by have : (p : Int) < 0 := hp; omega, fun p hp => by have : (p : Int) < 0 := hp; omega⟩ ⟨by decide, by decide, by decide, by decide⟩) rfl rfl ⟨Nat.le_of_ble_eq_true rfl, Nat.le_of_ble_eq_true rfl⟩ (Nat.le_of_ble_eq_true rfl) ⟨Nat.le_of_ble_eq_true rfl, Nat.le_of_ble_eq_true rfl⟩ ?_
      rintro m44 h44
      obtain ⟨f44, p44⟩ := h44
      refine Lp 320 0 rfl _ rfl _ _ _ (fy.tr f44.y) (hb.fn f44) p44 (fun s h => ?_) rfl
      obtain ⟨a, b, c⟩ := adv_sp (st := (0, 0, 0, 0, L0)) (Nat.zero_le _) (by show 0 < 64; decide) h
      exact ⟨by unfold sL; rw [c]; exact L0_ok, fun _ => Nat.zero_le _⟩
    · refine R_aload_n 26 rfl dX11_land_25 rfl ?_
      refine R_getP 15 29 rfl dX11_land_26 rfl rfl fl_X11_31 (hP _ _ _ rfl) ?_
      refine R_iload_n 30 rfl dX11_land_29 rfl ?_
      refine R_aload_n 31 rfl dX11_land_30 rfl ?_
      refine R_getP 11 34 rfl dX11_land_31 rfl rfl fl_X11_19 (hP _ _ _ rfl) ?_
      refine R_iload_n 35 rfl dX11_land_34 rfl ?_
      refine R_iald i 36 rfl dX11_land_35 rfl (by first | rfl | omega) (by omega) (by decide) ?_
      refine R_iast i 37 rfl dX11_land_36 rfl (by first | rfl | omega) (by omega) (by decide) ?_
      refine R_iinc [_, _, _] 40 rfl dX11_land_37 rfl rfl (by decide) ?_
      refine R_goto 19 rfl dX11_land_40 ?_
      refine ih (by omega) _ _ (by omega) (fr.set rfl) (fun j hj => ?_)
      simp only [setI]
      by_cases q : j = i
      · rw [if_pos ⟨trivial, q⟩, k0 100 i (by omega) (by omega), q]; exact pl i (by omega)
      · rw [if_neg (by omega)]; exact hc j (by omega)
  refine R_aload_n 1 rfl dX11_land_0 rfl ?_
  refine R_iconst 2 rfl dX11_land_1 ?_
  refine R_putI 3 5 rfl dX11_land_2 rfl rfl fl_X11_67 ?_
  refine R_aload_n 6 rfl dX11_land_5 rfl ?_
  refine R_iconst 7 rfl dX11_land_6 ?_
  refine R_putI 5 10 rfl dX11_land_7 rfl rfl fl_X11_79 ?_
  refine R_aload_n 11 rfl dX11_land_10 rfl ?_
  refine R_iconst 12 rfl dX11_land_11 ?_
  refine R_putI 18 15 rfl dX11_land_12 rfl rfl fl_X11_115 ?_
  refine R_iconst 16 rfl dX11_land_15 ?_
  refine R_istore_n [_, _, _] 17 rfl dX11_land_16 rfl (by decide) ?_
  refine R_iconst 18 rfl dX11_land_17 ?_
  refine R_istore_n [_, _, _] 19 rfl dX11_land_18 rfl (by decide) ?_
  exact L19 0 (by omega) _ _ rfl Fr.rf (fun j hj => absurd hj (by omega))
end
