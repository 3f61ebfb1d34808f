theorem popU_pcn (x : Nat) : ∀ n, popU x n = pcn x n
  | 0 => rfl
  | n + 1 => by
    have ih := popU_pcn x n
    show popU x n + x / 2 ^ n % 2 = cnt _ (n + 1)
    by_cases h : x.testBit n = true
    · rw [cnt_y h, ih]
      rw [Nat.testBit_eq_decide_div_mod_eq, decide_eq_true_eq] at h
      rw [h]; rfl
    · rw [cnt_n h, ih]
      rw [Nat.testBit_eq_decide_div_mod_eq, decide_eq_true_eq] at h
      have : x / 2 ^ n % 2 = 0 := by generalize x / 2 ^ n = d at h ⊢; omega
      rw [this]; rfl
theorem pop_pcn {x n : Nat} (hn : n ≤ 12) (hx : x < 2 ^ n) : pop x = pcn x n := by
  unfold pop
  rw [popU_pcn]
  have key : ∀ k, pcn x (n + k) = pcn x n := by
    intro k
    induction k with
    | zero => rfl
    | succ k ih =>
      rw [← ih]
      exact cnt_n (p := fun p => x.testBit p) (n := n + k) (by show ¬ x.testBit (n + k) = true; rw [Nat.testBit_lt_two_pow (i := n + k) (Nat.lt_of_lt_of_le hx (Nat.pow_le_pow_right (by omega) (by omega)))]; simp)
  have := key (12 - n)
  rw [show n + (12 - n) = 12 by omega] at this
  exact this
def lft (w : Nat → Int) (x : Nat) (k : Nat) : Int := sumN (fun p => if x.testBit p = true then 0 else w p) k
theorem lft_w (w : Nat → Int) (x : Nat) : ∀ n, lft w x n + wS w (fun p => x.testBit p) n = sumN w n
  | 0 => rfl
  | n + 1 => by
    have ih := lft_w w x n
    rw [wS_s]
    show lft w x n + (if x.testBit n = true then 0 else w n) + _ = sumN w n + w n
    by_cases h : x.testBit n = true
    · rw [if_pos h, if_pos h]; omega
    · rw [if_neg h, if_neg h]; omega
theorem need_iff {W a b l s : Int} (hb : 0 < b) (e : l + s = W) : l * b ≤ a * W ↔ needd W a b ≤ s := by
  unfold needd
  have h : l ≤ W * a / b ↔ l * b ≤ W * a := Int.le_ediv_iff_mul_le hb
  rw [Int.mul_comm a W, ← h]
  omega
def bIv (mk w : Nat → Int) (n : Nat) (nd : Int) (x : Nat) (be : Int) : Prop := (be = -4 ∧ ∀ z, z < x → ¬ vMk mk w n nd z) ∨ (∃ y : Nat, be = (y : Int) ∧ y < x ∧ vMk mk w n nd y ∧ ∀ z, z < x → vMk mk w n nd z → pcn y n ≤ pcn z n ∧ (pcn z n = pcn y n → y ≤ z))
theorem bIv_n {mk w : Nat → Int} {n : Nat} {nd : Int} {x : Nat} {be : Int} (h : bIv mk w n nd x be) (hx : ¬ vMk mk w n nd x) : bIv mk w n nd (x + 1) be := by
  rcases h with ⟨h1, h2⟩ | ⟨y, h1, h2, h3, h4⟩
  · refine Or.inl ⟨h1, fun z hz hv => ?_⟩
    by_cases e : z = x
    · subst e; exact hx hv
    · exact h2 z (by omega) hv
  · refine Or.inr ⟨y, h1, by omega, h3, fun z hz hv => ?_⟩
    by_cases e : z = x
    · subst e; exact absurd hv hx
    · exact h4 z (by omega) hv
theorem bIv_g {mk w : Nat → Int} {n : Nat} {nd : Int} {x y : Nat} (h : bIv mk w n nd x (y : Int)) (hx : pcn y n ≤ pcn x n) : bIv mk w n nd (x + 1) (y : Int) := by
  rcases h with ⟨h1, h2⟩ | ⟨y', h1, h2, h3, h4⟩
  · omega
  · have e : y' = y := by omega
    subst e
    refine Or.inr ⟨y', rfl, by omega, h3, fun z hz hv => ?_⟩
    by_cases e : z = x
    · subst e; exact ⟨hx, fun _ => by omega⟩
    · exact h4 z (by omega) hv
theorem bIv_y {mk w : Nat → Int} {n : Nat} {nd : Int} {x : Nat} {be : Int} (h : bIv mk w n nd x be) (hx : vMk mk w n nd x) (hc : be = -4 ∨ ∃ y : Nat, be = (y : Int) ∧ pcn x n < pcn y n) : bIv mk w n nd (x + 1) (x : Int) := by
  refine Or.inr ⟨x, rfl, by omega, hx, fun z hz hv => ?_⟩
  by_cases e : z = x
  · subst e; exact ⟨Nat.le_refl _, fun _ => Nat.le_refl _⟩
  · rcases h with ⟨h1, h2⟩ | ⟨y, h1, h2, h3, h4⟩
    · exact absurd hv (h2 z (by omega))
    · rcases hc with hc | ⟨y', c1, c2⟩
      · omega
      · have ey : y' = y := by omega
        subst ey
        have := h4 z (by omega) hv
        exact ⟨by omega, fun q => by omega⟩
theorem bIv_end {mk w : Nat → Int} {n : Nat} {nd : Int} {be : Int} (hn : n ≤ 12) (h : bIv mk w n nd (2 ^ n) be) : (be = -4 ∧ fwB mk w n nd < 0) ∨ (∃ y : Nat, be = (y : Int) ∧ y < 2 ^ n ∧ 0 ≤ fwB mk w n nd ∧ fwB mk w n nd = (pcn y n : Int) ∧ lbG mk w n 0 (fwB mk w n nd) nd = y) := by
  have sp := fwB_sp mk w n hn nd
  rcases h with ⟨h1, h2⟩ | ⟨y, h1, h2, h3, h4⟩
  · left
    refine ⟨h1, ?_⟩
    rcases sp with ⟨s1, -⟩ | ⟨-, ⟨x, x1, -⟩, -⟩
    · exact s1
    · exact absurd x1 (h2 x x1.1)
  · right
    rcases sp with ⟨-, s2⟩ | ⟨s1, ⟨x, x1, x2⟩, s3⟩
    · exact absurd h3 (s2 y)
    · have a1 := s3 y h3
      have a2 := (h4 x x1.1 x1).1
      have e : fwB mk w n nd = (pcn y n : Int) := by omega
      refine ⟨y, h1, h2, s1, e, ?_⟩
      have := lbG_sp (mk := mk) (w := w) n hn 0 (fwB mk w n nd) nd y ⟨h3, by omega, fun z z1 z2 => by
        have := h4 z z1.1 z1
        exact this.2 (by omega)⟩ ⟨0, by simp⟩
      rw [this]; omega
section
variable {Γ : GX} {m m' : Mem} {B B' : Bk} {L : Ld} {ch ch' : Cs}
set_option maxHeartbeats 1000000 in
theorem c_X11_enough (a b w : Int) (hR : RS L B ch m) (ha : rg a) (hb : rg b) (hw : rg w) : C Γ mX11_enough 7 280 0 0 [vr 96, vi a, vi b, vi w] SH m (QM L B ch m (a_enough L B ch a b w)) := by
  refine C_of_R rfl (Nat.le_of_ble_eq_true rfl) ?_
  have hl := hR.2.2.1.1
  have hnp := npN_le hR.2.2.1
  have hO := hR.2.2.2.2.1
  have hLO := hR.2.2.1
  have h7 := sumW_rg hLO
  have p12 : (2 : Nat) ^ npN L ≤ 4096 := by
    have : (2 : Nat) ^ npN L ≤ 2 ^ 12 := Nat.pow_le_pow_right (by omega) hnp.2
    omega
  have ml := mkd_lt hR
  have sp : 0 < npN L → 0 < sumN (L.2.1 0) (npN L) := by
    intro q
    have key : ∀ n, n ≤ npN L → (n : Int) ≤ sumN (L.2.1 0) n := by
      intro n
      induction n with
      | zero => intro _; simp [sumN]
      | succ n ih =>
        intro hn
        have := ih (by omega)
        have g3 := hLO.2.2.1 n (by omega)
        show ((n + 1 : Nat) : Int) ≤ sumN (L.2.1 0) n + L.2.1 0 n
        omega
    have := key _ (Nat.le_refl _)
    omega
  have Lp : (1 ≤ b ∧ b ≤ 999) ∧ (0 ≤ a ∧ a ≤ b) ∧ (0 ≤ w ∧ w ≤ 1) → ∀ m1, Fm m m1 → RZ L B ch m1 → ∀ x, x ≤ 2 ^ npN L → ∀ be z x8 x9, bIv (tgM B ch 0 0) (L.2.1 0) (npN L) (needd (sumN (L.2.1 0) (npN L)) a b) x be → z = (x : Int) → (npN L = 0 → x = 0) → R Γ mX11_enough { frames := 7, cells := 0, slots := 0, locals := 280 } 0 0 (QM L B ch m (a_enough L B ch a b w)) 0 0 58 [some (vr 96), some (vi a), some (vi b), some (vi w), some (vi (mkd B ch : Int)), some (vi (sumN (L.2.1 0) (npN L))), some (vi be), some (vi z), x8, x9] [] SH m1 := by
    intro ho m1 hf hZ
    have hP := hZ.1.1
    have h2 := hZ.1.2.1.1 0 (by omega)
    have e1 : 1 * 2 ^ (m1.1 101 0).toNat = ((2 ^ npN L : Nat) : Int) := by rw [h2]; unfold npN; simp
    refine up_ind (2 ^ npN L) (fun x hx ih be z x8 x9 hI hz hx0 => ?_)
    obtain rfl : z = (x : Int) := hz
    have bp : (be = -4) ∨ (∃ y : Nat, be = (y : Int) ∧ y < x) := by
      rcases hI with ⟨q, -⟩ | ⟨y, q1, q2, -⟩
      · exact Or.inl q
      · exact Or.inr ⟨y, q1, q2⟩
    have xl : x ^^^ (x &&& mkd B ch) < 2 ^ 13 := Nat.xor_lt_two_pow (by omega) (Nat.lt_of_le_of_lt Nat.and_le_left (by omega))
    have sub : x < 2 ^ npN L → (x ^^^ (x &&& mkd B ch) = 0 ↔ ∀ p, p < npN L → x.testBit p = true → 0 < tgM B ch 0 0 p) := fun hlt => by
      rw [sub_bits hlt]
      constructor
      · intro h p hp hb
        have t := tg_rg L B ch 0 0 hO.1 p (by omega)
        have := (mkd_bit (ch := ch) hO p).mp (h p hp hb)
        omega
      · intro h p hp hb
        have := h p hp hb
        exact (mkd_bit (ch := ch) hO p).mpr (by omega)
    have Li : x < 2 ^ npN L → 0 < npN L → x ^^^ (x &&& mkd B ch) = 0 → (be = -4 ∨ ∃ y : Nat, be = (y : Int) ∧ pcn x (npN L) < pcn y (npN L)) → ∀ k, k ≤ npN L → ∀ l y, l = lft (L.2.1 0) x k → y = (k : Int) → R Γ mX11_enough { frames := 7, cells := 0, slots := 0, locals := 280 } 0 0 (QM L B ch m (a_enough L B ch a b w)) 0 0 116 [some (vr 96), some (vi a), some (vi b), some (vi w), some (vi (mkd B ch : Int)), some (vi (sumN (L.2.1 0) (npN L))), some (vi be), some (vi (x : Int)), some (vi l), some (vi y)] [] SH m1 := by
      intro hlt hn0 hsub hc
      have lr : ∀ k, k ≤ npN L → 0 ≤ lft (L.2.1 0) x k ∧ lft (L.2.1 0) x k ≤ 999 * k := fun k hk => sumN_rg (fun j hj => by
        have g3 := hLO.2.2.1 j (by omega)
        split <;> omega)
      refine up_ind (npN L) (fun k hk ih2 l y hl2 hy => ?_)
      have l0 := lr k hk
      have u1 := mulb (x := l) (y := b) (X := 12000) (Y := 999) (by omega) (by omega)
      have u2 := mulb (x := a) (y := sumN (L.2.1 0) (npN L)) (X := 999) (Y := 11988) (by omega) (by omega)
      have ls : lft (L.2.1 0) x (k + 1) = lft (L.2.1 0) x k + (if x.testBit k = true then 0 else L.2.1 0 k) := rfl
      refine R_iload 118 rfl dX11_enough_116 rfl ?_
      refine R_aload_n 119 rfl dX11_enough_118 rfl ?_
      refine R_getP 12 122 rfl dX11_enough_119 rfl rfl fl_X11_22 (hP _ _ _ rfl) ?_
      refine R_iconst 123 rfl dX11_enough_122 ?_
      refine R_iald 0 124 rfl dX11_enough_123 rfl (by first | rfl | omega) (by decide) (by decide) ?_
      rw [h2]
      refine R_icmp_ge 127 159 rfl rfl dX11_enough_124 (by first | assumption | exact ⟨by omega, by omega⟩) (by first | assumption | exact ⟨by omega, by omega⟩) (fun h124 => ?_) (fun h124 => ?_)
      · have ek : k = npN L := by omega
        subst ek
        have wt := lft_w (L.2.1 0) x (npN L)
        rw [← hl2] at wt
        have ni := need_iff (a := a) (b := b) (by omega) wt
        refine R_iload 161 rfl dX11_enough_159 rfl ?_
        refine R_i2l 162 rfl dX11_enough_161 (by first | assumption | exact ⟨by omega, by omega⟩) ?_
        refine R_iload_n 163 rfl dX11_enough_162 rfl ?_
        refine R_i2l 164 rfl dX11_enough_163 (by first | assumption | exact ⟨by omega, by omega⟩) ?_
        refine R_lmul 165 rfl dX11_enough_164 ?_
        refine R_iload_n 166 rfl dX11_enough_165 rfl ?_
        refine R_i2l 167 rfl dX11_enough_166 (by first | assumption | exact ⟨by omega, by omega⟩) ?_
        refine R_iload 169 rfl dX11_enough_167 rfl ?_
        refine R_i2l 170 rfl dX11_enough_169 (by first | assumption | exact ⟨by omega, by omega⟩) ?_
        refine R_lmul 171 rfl dX11_enough_170 ?_
        refine R_lif_gt 172 175 180 rfl rfl rfl dX11_enough_171 dX11_enough_172 (by first | assumption | exact ⟨by omega, by omega⟩ | exact rg_L (by assumption)) (by first | assumption | exact ⟨by omega, by omega⟩ | exact rg_L (by assumption)) (fun h172 => ?_) (fun h172 => ?_)
        · refine R_iload 182 rfl dX11_enough_180 rfl ?_
          refine R_istore [_, _, _, _, _, _, _, _, _, _] 184 rfl dX11_enough_182 rfl (by decide) ?_
          refine R_iinc [_, _, _, _, _, _, _, _, _, _] 187 rfl dX11_enough_184 rfl rfl (by decide) ?_
          refine R_goto 58 rfl dX11_enough_187 ?_
          first
            | exact ih (by omega) _ _ _ _ (bIv_y hI ⟨hlt, (sub hlt).mp hsub, ni.mp (by omega)⟩ hc) (by omega) (fun q => by omega)
            | exact ih (by omega) _ _ _ _ (bIv_n hI (fun v => by have := ni.mpr v.2.2; omega)) (by omega) (fun q => by omega)
        · refine R_iload 177 rfl dX11_enough_175 rfl ?_
          refine R_goto 182 rfl dX11_enough_177 ?_
          refine R_istore [_, _, _, _, _, _, _, _, _, _] 184 rfl dX11_enough_182 rfl (by decide) ?_
          refine R_iinc [_, _, _, _, _, _, _, _, _, _] 187 rfl dX11_enough_184 rfl rfl (by decide) ?_
          refine R_goto 58 rfl dX11_enough_187 ?_
          first
            | exact ih (by omega) _ _ _ _ (bIv_y hI ⟨hlt, (sub hlt).mp hsub, ni.mp (by omega)⟩ hc) (by omega) (fun q => by omega)
            | exact ih (by omega) _ _ _ _ (bIv_n hI (fun v => by have := ni.mpr v.2.2; omega)) (by omega) (fun q => by omega)
      · have g3 := hLO.2.2.1 k (by omega)
        have ab := and1 x k
        have tb2 := tb_2 ((x : Int) / 2 ^ k)
        obtain rfl : y = (k : Int) := hy
        refine R_iload 129 rfl dX11_enough_127 rfl ?_
        refine R_iload 131 rfl dX11_enough_129 rfl ?_
        refine R_iload 133 rfl dX11_enough_131 rfl ?_
        refine R_ishr 134 rfl dX11_enough_133 (by first | assumption | exact ⟨by omega, by omega⟩) (by omega) (by omega) ?_
        rw [Int.toNat_natCast]
        refine R_iconst 135 rfl dX11_enough_134 ?_
        refine R_iand1 136 rfl dX11_enough_135 ?_
        refine R_if_ne 139 149 rfl rfl dX11_enough_136 (by first | assumption | exact ⟨by omega, by omega⟩) (fun h136 => ?_) (fun h136 => ?_)
        · refine R_iconst 150 rfl dX11_enough_149 ?_
          refine R_iadd 151 rfl dX11_enough_150 ?_
          refine R_istore [_, _, _, _, _, _, _, _, _, _] 153 rfl dX11_enough_151 rfl (by decide) ?_
          refine R_iinc [_, _, _, _, _, _, _, _, _, _] 156 rfl dX11_enough_153 rfl rfl (by decide) ?_
          refine R_goto 116 rfl dX11_enough_156 ?_
          first
            | (rw [if_neg (fun q => by have := ab.mpr q; omega)] at ls
               exact ih2 (by omega) _ _ (by omega) (by omega))
            | (rw [if_pos (ab.mp (by omega))] at ls
               exact ih2 (by omega) _ _ (by omega) (by omega))
        · refine R_aload_n 140 rfl dX11_enough_139 rfl ?_
          refine R_iload 142 rfl dX11_enough_140 rfl ?_
          refine R_iconst 143 rfl dX11_enough_142 ?_
          refine R_callV_i (M' := mX11_parishOf) 146 rfl dX11_enough_143 ml_X11_156 kmX11_parishOf im_X11_parishOf se_X11_parishOf rfl ⟨by decide, rfl⟩ (c_X11_parishOf _ _ k 0 hZ.1 (by omega) (by omega) (by omega) (by omega)) rfl rfl ⟨Nat.le_of_ble_eq_true rfl, Nat.le_of_ble_eq_true rfl⟩ (Nat.le_of_ble_eq_true rfl) ⟨Nat.le_of_ble_eq_true rfl, Nat.le_of_ble_eq_true rfl⟩ ?_
          refine R_goto 150 rfl dX11_enough_146 ?_
          refine R_iadd 151 rfl dX11_enough_150 ?_
          refine R_istore [_, _, _, _, _, _, _, _, _, _] 153 rfl dX11_enough_151 rfl (by decide) ?_
          refine R_iinc [_, _, _, _, _, _, _, _, _, _] 156 rfl dX11_enough_153 rfl rfl (by decide) ?_
          refine R_goto 116 rfl dX11_enough_156 ?_
          first
            | (rw [if_neg (fun q => by have := ab.mpr q; omega)] at ls
               exact ih2 (by omega) _ _ (by omega) (by omega))
            | (rw [if_pos (ab.mp (by omega))] at ls
               exact ih2 (by omega) _ _ (by omega) (by omega))
    have fin : (x = 2 ^ npN L ∨ npN L = 0) → (be = -4 ∧ a_enough L B ch a b w = -4) ∨ (∃ y : Nat, be = (y : Int) ∧ y < 4096 ∧ (w = 0 → a_enough L B ch a b w = (pop y : Int)) ∧ (w = 1 → a_enough L B ch a b w = (y : Int))) := by
      intro q
      by_cases n0 : npN L = 0
      · have := hx0 n0
        subst this
        left
        rcases hI with ⟨q1, -⟩ | ⟨y, -, q2, -⟩
        · refine ⟨q1, ?_⟩
          unfold a_enough
          rw [if_pos ho, n0, if_pos (show sumN (L.2.1 0) 0 = 0 from rfl)]
        · omega
      · have ex : x = 2 ^ npN L := by omega
        rw [ex] at hI
        have s0 := sp (by omega)
        rcases bIv_end hnp.2 hI with ⟨q1, q2⟩ | ⟨y, q1, q2, q3, q4, q5⟩
        · left
          refine ⟨q1, ?_⟩
          unfold a_enough
          rw [if_pos ho, if_neg (by omega), if_pos q2]
        · right
          refine ⟨y, q1, by omega, fun hw0 => ?_, fun hw1 => ?_⟩
          · unfold a_enough
            rw [if_pos ho, if_neg (by omega), if_neg (by omega), if_pos hw0, q4, pop_pcn hnp.2 q2]
          · unfold a_enough
            rw [if_pos ho, if_neg (by omega), if_neg (by omega), if_neg (by omega), q5]
    have pr : pop x ≤ 12 := popU_le x 12
    rcases bp with q0 | ⟨y, q0, qy⟩
    · subst q0
      refine R_iload 60 rfl dX11_enough_58 rfl ?_
      refine R_iconst 61 rfl dX11_enough_60 ?_
      refine R_aload_n 62 rfl dX11_enough_61 rfl ?_
      refine R_getP 12 65 rfl dX11_enough_62 rfl rfl fl_X11_22 (hP _ _ _ rfl) ?_
      refine R_iconst 66 rfl dX11_enough_65 ?_
      refine R_iald 0 67 rfl dX11_enough_66 rfl (by first | rfl | omega) (by decide) (by decide) ?_
      refine R_ishl 68 rfl dX11_enough_67 (by omega) (by omega) ?_
      rw [e1]
      refine R_icmp_ge 71 190 rfl rfl dX11_enough_68 (by first | assumption | exact ⟨by omega, by omega⟩) (by first | assumption | exact ⟨by omega, by omega⟩) (fun h68 => ?_) (fun h68 => ?_)
      · have fn := fin (by omega)
        refine R_iload 192 rfl dX11_enough_190 rfl ?_
        refine R_bipush 194 rfl dX11_enough_192 (by decide) ?_
        refine R_icmp_eq 197 202 rfl rfl dX11_enough_194 (by first | assumption | exact ⟨by omega, by omega⟩) (by first | assumption | exact ⟨by omega, by omega⟩) (fun h194 => ?_) (fun h194 => ?_)
        · refine R_iload 204 rfl dX11_enough_202 rfl ?_
          refine R_goto 212 rfl dX11_enough_204 ?_
          refine R_ireturn dX11_enough_212 rfl ?_
          rcases fn with ⟨f1, f2⟩ | ⟨y, f1, -⟩
          · exact QI_mk ⟨f2.symm, hf, hZ.1⟩
          · omega
        · refine R_iload_n 198 rfl dX11_enough_197 rfl ?_
          refine R_iconst 199 rfl dX11_enough_198 ?_
          refine R_icmp_ne 202 207 rfl rfl dX11_enough_199 (by first | assumption | exact ⟨by omega, by omega⟩) (by first | assumption | exact ⟨by omega, by omega⟩) (fun h199 => ?_) (fun h199 => ?_)
          · exfalso; omega
          · refine R_iload 204 rfl dX11_enough_202 rfl ?_
            refine R_goto 212 rfl dX11_enough_204 ?_
            refine R_ireturn dX11_enough_212 rfl ?_
            rcases fn with ⟨f1, f2⟩ | ⟨y, f1, -⟩
            · exact QI_mk ⟨f2.symm, hf, hZ.1⟩
            · omega
      · refine R_aload_n 72 rfl dX11_enough_71 rfl ?_
        refine R_getP 12 75 rfl dX11_enough_72 rfl rfl fl_X11_22 (hP _ _ _ rfl) ?_
        refine R_iconst 76 rfl dX11_enough_75 ?_
        refine R_iald 0 77 rfl dX11_enough_76 rfl (by first | rfl | omega) (by decide) (by decide) ?_
        rw [h2]
        refine R_if_le 80 190 rfl rfl dX11_enough_77 (by first | assumption | exact ⟨by omega, by omega⟩) (fun h77 => ?_) (fun h77 => ?_)
        · have fn := fin (by omega)
          refine R_iload 192 rfl dX11_enough_190 rfl ?_
          refine R_bipush 194 rfl dX11_enough_192 (by decide) ?_
          refine R_icmp_eq 197 202 rfl rfl dX11_enough_194 (by first | assumption | exact ⟨by omega, by omega⟩) (by first | assumption | exact ⟨by omega, by omega⟩) (fun h194 => ?_) (fun h194 => ?_)
          · refine R_iload 204 rfl dX11_enough_202 rfl ?_
            refine R_goto 212 rfl dX11_enough_204 ?_
            refine R_ireturn dX11_enough_212 rfl ?_
            rcases fn with ⟨f1, f2⟩ | ⟨y, f1, -⟩
            · exact QI_mk ⟨f2.symm, hf, hZ.1⟩
            · omega
          · refine R_iload_n 198 rfl dX11_enough_197 rfl ?_
            refine R_iconst 199 rfl dX11_enough_198 ?_
            refine R_icmp_ne 202 207 rfl rfl dX11_enough_199 (by first | assumption | exact ⟨by omega, by omega⟩) (by first | assumption | exact ⟨by omega, by omega⟩) (fun h199 => ?_) (fun h199 => ?_)
            · exfalso; omega
            · refine R_iload 204 rfl dX11_enough_202 rfl ?_
              refine R_goto 212 rfl dX11_enough_204 ?_
              refine R_ireturn dX11_enough_212 rfl ?_
              rcases fn with ⟨f1, f2⟩ | ⟨y, f1, -⟩
              · exact QI_mk ⟨f2.symm, hf, hZ.1⟩
              · omega
        · refine R_iload 82 rfl dX11_enough_80 rfl ?_
          refine R_iload 84 rfl dX11_enough_82 rfl ?_
          refine R_iconst 85 rfl dX11_enough_84 ?_
          refine R_inot 86 rfl dX11_enough_85 ?_
          refine R_iandn 87 rfl dX11_enough_86 ?_
          refine R_if_ne 90 184 rfl rfl dX11_enough_87 (by first | assumption | exact ⟨by omega, by omega⟩) (fun h87 => ?_) (fun h87 => ?_)
          · refine R_iinc [_, _, _, _, _, _, _, _, _, _] 187 rfl dX11_enough_184 rfl rfl (by decide) ?_
            refine R_goto 58 rfl dX11_enough_187 ?_
            exact ih (by omega) _ _ _ _ (bIv_n hI (fun v => h87 (by have := (sub (by omega)).mpr v.2.1; omega))) (by omega) (fun q => by omega)
          · refine R_iload 92 rfl dX11_enough_90 rfl ?_
            refine R_bipush 94 rfl dX11_enough_92 (by decide) ?_
            refine R_icmp_eq 97 110 rfl rfl dX11_enough_94 (by first | assumption | exact ⟨by omega, by omega⟩) (by first | assumption | exact ⟨by omega, by omega⟩) (fun h94 => ?_) (fun h94 => ?_)
            · refine R_iconst 111 rfl dX11_enough_110 ?_
              refine R_istore [_, _, _, _, _, _, _, _, _, _] 113 rfl dX11_enough_111 rfl (by decide) ?_
              refine R_iconst 114 rfl dX11_enough_113 ?_
              refine R_istore [_, _, _, _, _, _, _, _, _, _] 116 rfl dX11_enough_114 rfl (by decide) ?_
              exact Li (by omega) (by omega) (by omega) (Or.inl rfl) 0 (by omega) _ _ rfl rfl
            · exact absurd rfl h94
    · subst q0
      have pry : pop y ≤ 12 := popU_le y 12
      refine R_iload 60 rfl dX11_enough_58 rfl ?_
      refine R_iconst 61 rfl dX11_enough_60 ?_
      refine R_aload_n 62 rfl dX11_enough_61 rfl ?_
      refine R_getP 12 65 rfl dX11_enough_62 rfl rfl fl_X11_22 (hP _ _ _ rfl) ?_
      refine R_iconst 66 rfl dX11_enough_65 ?_
      refine R_iald 0 67 rfl dX11_enough_66 rfl (by first | rfl | omega) (by decide) (by decide) ?_
      refine R_ishl 68 rfl dX11_enough_67 (by omega) (by omega) ?_
      rw [e1]
      refine R_icmp_ge 71 190 rfl rfl dX11_enough_68 (by first | assumption | exact ⟨by omega, by omega⟩) (by first | assumption | exact ⟨by omega, by omega⟩) (fun h68 => ?_) (fun h68 => ?_)
      · have fn := fin (by omega)
        refine R_iload 192 rfl dX11_enough_190 rfl ?_
        refine R_bipush 194 rfl dX11_enough_192 (by decide) ?_
        refine R_icmp_eq 197 202 rfl rfl dX11_enough_194 (by first | assumption | exact ⟨by omega, by omega⟩) (by first | assumption | exact ⟨by omega, by omega⟩) (fun h194 => ?_) (fun h194 => ?_)
        · refine R_iload 204 rfl dX11_enough_202 rfl ?_
          refine R_goto 212 rfl dX11_enough_204 ?_
          refine R_ireturn dX11_enough_212 rfl ?_
          rcases fn with ⟨f1, f2⟩ | ⟨y', f1, f2, f3, f4⟩
          · omega
          · have ey : y' = y := by omega
            subst ey
            first
              | (exfalso; omega)
              | exact QI_mk ⟨(f3 (by omega)).symm, hf, hZ.1⟩
              | exact QI_mk ⟨(f4 (by omega)).symm, hf, hZ.1⟩
        · refine R_iload_n 198 rfl dX11_enough_197 rfl ?_
          refine R_iconst 199 rfl dX11_enough_198 ?_
          refine R_icmp_ne 202 207 rfl rfl dX11_enough_199 (by first | assumption | exact ⟨by omega, by omega⟩) (by first | assumption | exact ⟨by omega, by omega⟩) (fun h199 => ?_) (fun h199 => ?_)
          · refine R_iload 209 rfl dX11_enough_207 rfl ?_
            refine R_callS_i (M' := mX11_bitsOf) 212 rfl dX11_enough_209 ml_X11_204 kmX11_bitsOf st_X11_bitsOf (c_X11_bitsOf _ (by omega)) rfl rfl ⟨Nat.le_of_ble_eq_true rfl, Nat.le_of_ble_eq_true rfl⟩ (Nat.le_of_ble_eq_true rfl) ⟨Nat.le_of_ble_eq_true rfl, Nat.le_of_ble_eq_true rfl⟩ ?_
            refine R_ireturn dX11_enough_212 rfl ?_
            rcases fn with ⟨f1, f2⟩ | ⟨y', f1, f2, f3, f4⟩
            · omega
            · have ey : y' = y := by omega
              subst ey
              first
                | (exfalso; omega)
                | exact QI_mk ⟨(f3 (by omega)).symm, hf, hZ.1⟩
                | exact QI_mk ⟨(f4 (by omega)).symm, hf, hZ.1⟩
          · refine R_iload 204 rfl dX11_enough_202 rfl ?_
            refine R_goto 212 rfl dX11_enough_204 ?_
            refine R_ireturn dX11_enough_212 rfl ?_
            rcases fn with ⟨f1, f2⟩ | ⟨y', f1, f2, f3, f4⟩
            · omega
            · have ey : y' = y := by omega
              subst ey
              first
                | (exfalso; omega)
                | exact QI_mk ⟨(f3 (by omega)).symm, hf, hZ.1⟩
                | exact QI_mk ⟨(f4 (by omega)).symm, hf, hZ.1⟩
      · refine R_aload_n 72 rfl dX11_enough_71 rfl ?_
        refine R_getP 12 75 rfl dX11_enough_72 rfl rfl fl_X11_22 (hP _ _ _ rfl) ?_
        refine R_iconst 76 rfl dX11_enough_75 ?_
        refine R_iald 0 77 rfl dX11_enough_76 rfl (by first | rfl | omega) (by decide) (by decide) ?_
        rw [h2]
        refine R_if_le 80 190 rfl rfl dX11_enough_77 (by first | assumption | exact ⟨by omega, by omega⟩) (fun h77 => ?_) (fun h77 => ?_)
        · have fn := fin (by omega)
          refine R_iload 192 rfl dX11_enough_190 rfl ?_
          refine R_bipush 194 rfl dX11_enough_192 (by decide) ?_
          refine R_icmp_eq 197 202 rfl rfl dX11_enough_194 (by first | assumption | exact ⟨by omega, by omega⟩) (by first | assumption | exact ⟨by omega, by omega⟩) (fun h194 => ?_) (fun h194 => ?_)
          · refine R_iload 204 rfl dX11_enough_202 rfl ?_
            refine R_goto 212 rfl dX11_enough_204 ?_
            refine R_ireturn dX11_enough_212 rfl ?_
            rcases fn with ⟨f1, f2⟩ | ⟨y', f1, f2, f3, f4⟩
            · omega
            · have ey : y' = y := by omega
              subst ey
              first
                | (exfalso; omega)
                | exact QI_mk ⟨(f3 (by omega)).symm, hf, hZ.1⟩
                | exact QI_mk ⟨(f4 (by omega)).symm, hf, hZ.1⟩
          · refine R_iload_n 198 rfl dX11_enough_197 rfl ?_
            refine R_iconst 199 rfl dX11_enough_198 ?_
            refine R_icmp_ne 202 207 rfl rfl dX11_enough_199 (by first | assumption | exact ⟨by omega, by omega⟩) (by first | assumption | exact ⟨by omega, by omega⟩) (fun h199 => ?_) (fun h199 => ?_)
            · refine R_iload 209 rfl dX11_enough_207 rfl ?_
              refine R_callS_i (M' := mX11_bitsOf) 212 rfl dX11_enough_209 ml_X11_204 kmX11_bitsOf st_X11_bitsOf (c_X11_bitsOf _ (by omega)) rfl rfl ⟨Nat.le_of_ble_eq_true rfl, Nat.le_of_ble_eq_true rfl⟩ (Nat.le_of_ble_eq_true rfl) ⟨Nat.le_of_ble_eq_true rfl, Nat.le_of_ble_eq_true rfl⟩ ?_
              refine R_ireturn dX11_enough_212 rfl ?_
              rcases fn with ⟨f1, f2⟩ | ⟨y', f1, f2, f3, f4⟩
              · omega
              · have ey : y' = y := by omega
                subst ey
                first
                  | (exfalso; omega)
                  | exact QI_mk ⟨(f3 (by omega)).symm, hf, hZ.1⟩
                  | exact QI_mk ⟨(f4 (by omega)).symm, hf, hZ.1⟩
            · refine R_iload 204 rfl dX11_enough_202 rfl ?_
              refine R_goto 212 rfl dX11_enough_204 ?_
              refine R_ireturn dX11_enough_212 rfl ?_
              rcases fn with ⟨f1, f2⟩ | ⟨y', f1, f2, f3, f4⟩
              · omega
              · have ey : y' = y := by omega
                subst ey
                first
                  | (exfalso; omega)
                  | exact QI_mk ⟨(f3 (by omega)).symm, hf, hZ.1⟩
                  | exact QI_mk ⟨(f4 (by omega)).symm, hf, hZ.1⟩
        · refine R_iload 82 rfl dX11_enough_80 rfl ?_
          refine R_iload 84 rfl dX11_enough_82 rfl ?_
          refine R_iconst 85 rfl dX11_enough_84 ?_
          refine R_inot 86 rfl dX11_enough_85 ?_
          refine R_iandn 87 rfl dX11_enough_86 ?_
          refine R_if_ne 90 184 rfl rfl dX11_enough_87 (by first | assumption | exact ⟨by omega, by omega⟩) (fun h87 => ?_) (fun h87 => ?_)
          · refine R_iinc [_, _, _, _, _, _, _, _, _, _] 187 rfl dX11_enough_184 rfl rfl (by decide) ?_
            refine R_goto 58 rfl dX11_enough_187 ?_
            first
              | exact ih (by omega) _ _ _ _ (bIv_g hI (by have px := pop_pcn (x := x) hnp.2 (by omega); have py := pop_pcn (x := y) hnp.2 (by omega); omega)) (by omega) (fun q => by omega)
              | exact ih (by omega) _ _ _ _ (bIv_n hI (fun v => h87 (by have := (sub (by omega)).mpr v.2.1; omega))) (by omega) (fun q => by omega)
          · refine R_iload 92 rfl dX11_enough_90 rfl ?_
            refine R_bipush 94 rfl dX11_enough_92 (by decide) ?_
            refine R_icmp_eq 97 110 rfl rfl dX11_enough_94 (by first | assumption | exact ⟨by omega, by omega⟩) (by first | assumption | exact ⟨by omega, by omega⟩) (fun h94 => ?_) (fun h94 => ?_)
            · have px := pop_pcn (x := x) hnp.2 (by omega)
              have py := pop_pcn (x := y) hnp.2 (by omega)
              refine R_iconst 111 rfl dX11_enough_110 ?_
              refine R_istore [_, _, _, _, _, _, _, _, _, _] 113 rfl dX11_enough_111 rfl (by decide) ?_
              refine R_iconst 114 rfl dX11_enough_113 ?_
              refine R_istore [_, _, _, _, _, _, _, _, _, _] 116 rfl dX11_enough_114 rfl (by decide) ?_
              first | (exfalso; omega) | exact Li (by omega) (by omega) (by omega) (Or.inr ⟨y, rfl, by omega⟩) 0 (by omega) _ _ rfl rfl
            · refine R_iload 99 rfl dX11_enough_97 rfl ?_
              refine R_callS_i (M' := mX11_bitsOf) 102 rfl dX11_enough_99 ml_X11_204 kmX11_bitsOf st_X11_bitsOf (c_X11_bitsOf _ (by omega)) rfl rfl ⟨Nat.le_of_ble_eq_true rfl, Nat.le_of_ble_eq_true rfl⟩ (Nat.le_of_ble_eq_true rfl) ⟨Nat.le_of_ble_eq_true rfl, Nat.le_of_ble_eq_true rfl⟩ ?_
              refine R_iload 104 rfl dX11_enough_102 rfl ?_
              refine R_callS_i (M' := mX11_bitsOf) 107 rfl dX11_enough_104 ml_X11_204 kmX11_bitsOf st_X11_bitsOf (c_X11_bitsOf _ (by omega)) rfl rfl ⟨Nat.le_of_ble_eq_true rfl, Nat.le_of_ble_eq_true rfl⟩ (Nat.le_of_ble_eq_true rfl) ⟨Nat.le_of_ble_eq_true rfl, Nat.le_of_ble_eq_true rfl⟩ ?_
              refine R_icmp_ge 110 184 rfl rfl dX11_enough_107 (by first | assumption | exact ⟨by omega, by omega⟩) (by first | assumption | exact ⟨by omega, by omega⟩) (fun h107 => ?_) (fun h107 => ?_)
              · refine R_iinc [_, _, _, _, _, _, _, _, _, _] 187 rfl dX11_enough_184 rfl rfl (by decide) ?_
                refine R_goto 58 rfl dX11_enough_187 ?_
                first
                  | exact ih (by omega) _ _ _ _ (bIv_g hI (by have px := pop_pcn (x := x) hnp.2 (by omega); have py := pop_pcn (x := y) hnp.2 (by omega); omega)) (by omega) (fun q => by omega)
                  | exact ih (by omega) _ _ _ _ (bIv_n hI (fun v => h87 (by have := (sub (by omega)).mpr v.2.1; omega))) (by omega) (fun q => by omega)
              · have px := pop_pcn (x := x) hnp.2 (by omega)
                have py := pop_pcn (x := y) hnp.2 (by omega)
                refine R_iconst 111 rfl dX11_enough_110 ?_
                refine R_istore [_, _, _, _, _, _, _, _, _, _] 113 rfl dX11_enough_111 rfl (by decide) ?_
                refine R_iconst 114 rfl dX11_enough_113 ?_
                refine R_istore [_, _, _, _, _, _, _, _, _, _] 116 rfl dX11_enough_114 rfl (by decide) ?_
                first | (exfalso; omega) | exact Li (by omega) (by omega) (by omega) (Or.inr ⟨y, rfl, by omega⟩) 0 (by omega) _ _ rfl rfl
  refine R_iload_n 1 rfl dX11_enough_0 rfl ?_
  refine R_i2l 2 rfl dX11_enough_1 (by first | assumption | exact ⟨by omega, by omega⟩) ?_
  refine R_lconst 3 rfl dX11_enough_2 ?_
  refine R_topL (b := 1) rfl ?_
  refine R_ldc2 (999) 6 rfl dX11_enough_3 kl_X11_314 (by decide) ?_
  refine R_callS_i (M' := mX11_in) 9 rfl dX11_enough_6 ml_X11_63 kmX11_in st_X11_in (c_X11_in _ _ _ (by first | assumption | exact ⟨by omega, by omega⟩ | exact rg_L (by assumption)) (by first | assumption | exact ⟨by omega, by omega⟩ | exact rg_L (by assumption)) (by first | assumption | exact ⟨by omega, by omega⟩ | exact rg_L (by assumption))) rfl rfl ⟨Nat.le_of_ble_eq_true rfl, Nat.le_of_ble_eq_true rfl⟩ (Nat.le_of_ble_eq_true rfl) ⟨Nat.le_of_ble_eq_true rfl, Nat.le_of_ble_eq_true rfl⟩ ?_
  refine R_ifp_eq 12 33 rfl rfl dX11_enough_9 (fun h9 => ?_) (fun h9 => ?_)
  · refine R_iconst 34 rfl dX11_enough_33 ?_
    refine R_ireturn dX11_enough_34 rfl ?_
    exact QI_mk ⟨by unfold a_enough; rw [if_neg (by omega)], Fm.rf, hR⟩
  · refine R_iload_n 13 rfl dX11_enough_12 rfl ?_
    refine R_i2l 14 rfl dX11_enough_13 (by first | assumption | exact ⟨by omega, by omega⟩) ?_
    refine R_lconst 15 rfl dX11_enough_14 ?_
    refine R_topL (b := 0) rfl ?_
    refine R_iload_n 16 rfl dX11_enough_15 rfl ?_
    refine R_i2l 17 rfl dX11_enough_16 (by first | assumption | exact ⟨by omega, by omega⟩) ?_
    refine R_callS_i (M' := mX11_in) 20 rfl dX11_enough_17 ml_X11_63 kmX11_in st_X11_in (c_X11_in _ _ _ (by first | assumption | exact ⟨by omega, by omega⟩ | exact rg_L (by assumption)) (by first | assumption | exact ⟨by omega, by omega⟩ | exact rg_L (by assumption)) (by first | assumption | exact ⟨by omega, by omega⟩ | exact rg_L (by assumption))) rfl rfl ⟨Nat.le_of_ble_eq_true rfl, Nat.le_of_ble_eq_true rfl⟩ (Nat.le_of_ble_eq_true rfl) ⟨Nat.le_of_ble_eq_true rfl, Nat.le_of_ble_eq_true rfl⟩ ?_
    refine R_ifp_eq 23 33 rfl rfl dX11_enough_20 (fun h20 => ?_) (fun h20 => ?_)
    · refine R_iconst 34 rfl dX11_enough_33 ?_
      refine R_ireturn dX11_enough_34 rfl ?_
      exact QI_mk ⟨by unfold a_enough; rw [if_neg (by omega)], Fm.rf, hR⟩
    · refine R_iload_n 24 rfl dX11_enough_23 rfl ?_
      refine R_i2l 25 rfl dX11_enough_24 (by first | assumption | exact ⟨by omega, by omega⟩) ?_
      refine R_lconst 26 rfl dX11_enough_25 ?_
      refine R_topL (b := 0) rfl ?_
      refine R_lconst 27 rfl dX11_enough_26 ?_
      refine R_topL (b := 1) rfl ?_
      refine R_callS_i (M' := mX11_in) 30 rfl dX11_enough_27 ml_X11_63 kmX11_in st_X11_in (c_X11_in _ _ _ (by first | assumption | exact ⟨by omega, by omega⟩ | exact rg_L (by assumption)) (by first | assumption | exact ⟨by omega, by omega⟩ | exact rg_L (by assumption)) (by first | assumption | exact ⟨by omega, by omega⟩ | exact rg_L (by assumption))) rfl rfl ⟨Nat.le_of_ble_eq_true rfl, Nat.le_of_ble_eq_true rfl⟩ (Nat.le_of_ble_eq_true rfl) ⟨Nat.le_of_ble_eq_true rfl, Nat.le_of_ble_eq_true rfl⟩ ?_
      refine R_ifp_ne 33 35 rfl rfl dX11_enough_30 (fun h30 => ?_) (fun h30 => ?_)
      · refine R_aload_n 36 rfl dX11_enough_35 rfl ?_
        refine R_callV_V (M' := mX11_layKinds) 39 rfl dX11_enough_36 ml_X11_227 kmX11_layKinds im_X11_layKinds se_X11_layKinds rfl ⟨by decide, rfl⟩ (c_X11_layKinds hR) rfl rfl ⟨Nat.le_of_ble_eq_true rfl, Nat.le_of_ble_eq_true rfl⟩ (Nat.le_of_ble_eq_true rfl) ⟨Nat.le_of_ble_eq_true rfl, Nat.le_of_ble_eq_true rfl⟩ ?_
        rintro m36 h36
        obtain ⟨f36, z36⟩ := h36
        have hW := z36.w
        have hR2 := z36.1
        refine R_aload_n 40 rfl dX11_enough_39 rfl ?_
        refine R_callV_i (M' := mX11_marked) 43 rfl dX11_enough_40 ml_X11_294 kmX11_marked im_X11_marked se_X11_marked rfl ⟨by decide, rfl⟩ (c_X11_marked hW) rfl rfl ⟨Nat.le_of_ble_eq_true rfl, Nat.le_of_ble_eq_true rfl⟩ (Nat.le_of_ble_eq_true rfl) ⟨Nat.le_of_ble_eq_true rfl, Nat.le_of_ble_eq_true rfl⟩ ?_
        refine R_istore [_, _, _, _, _, _, _, _, _, _] 45 rfl dX11_enough_43 rfl (by decide) ?_
        refine R_aload_n 46 rfl dX11_enough_45 rfl ?_
        refine R_callV_i (M' := mX11_allMarriages) 49 rfl dX11_enough_46 ml_X11_307 kmX11_allMarriages im_X11_allMarriages se_X11_allMarriages rfl ⟨by decide, rfl⟩ (c_X11_allMarriages hR2) rfl rfl ⟨Nat.le_of_ble_eq_true rfl, Nat.le_of_ble_eq_true rfl⟩ (Nat.le_of_ble_eq_true rfl) ⟨Nat.le_of_ble_eq_true rfl, Nat.le_of_ble_eq_true rfl⟩ ?_
        refine R_istore [_, _, _, _, _, _, _, _, _, _] 51 rfl dX11_enough_49 rfl (by decide) ?_
        refine R_bipush 53 rfl dX11_enough_51 (by decide) ?_
        refine R_istore [_, _, _, _, _, _, _, _, _, _] 55 rfl dX11_enough_53 rfl (by decide) ?_
        refine R_iconst 56 rfl dX11_enough_55 ?_
        refine R_istore [_, _, _, _, _, _, _, _, _, _] 58 rfl dX11_enough_56 rfl (by decide) ?_
        exact Lp (by omega) _ f36 z36 0 (by omega) _ _ _ _ (Or.inl ⟨rfl, fun z hz => by omega⟩) rfl (fun _ => rfl)
      · refine R_iconst 34 rfl dX11_enough_33 ?_
        refine R_ireturn dX11_enough_34 rfl ?_
        exact QI_mk ⟨by unfold a_enough; rw [if_neg (by omega)], Fm.rf, hR⟩
end
