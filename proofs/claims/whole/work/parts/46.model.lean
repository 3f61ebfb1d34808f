/-! the reference: its cells (96..112) and the same mathematical state -/
def mkQ (a k : Nat) : Option Nat := if a < 96 then none else mkP (0, 0, none, none, none, none) a k
def RP (m : Mem) : Prop := ∀ a k r, mkQ a k = some r → m.2 a k = some r
def RLd (m : Mem) (L : Ld) : Prop := (∀ j, j < 11 → m.1 101 j = L.1 j) ∧ (∀ p : Nat, (p : Int) < L.1 0 → ∀ w, w < 4 → m.1 102 (4 * p + w) = L.2.1 w p) ∧ (∀ k : Nat, (k : Int) < L.1 1 → ∀ w, w < 5 → m.1 103 (5 * k + w) = L.2.2 w k)
def RB (f : Nat) (m : Mem) (B : Bk) : Prop := m.1 107 (f + 650) = (B.1 : Int) ∧ (∀ k, k < B.1 → ∀ w, w < 3 → m.1 107 (f + 16 * k + w) = B.2.1 w k) ∧ (∀ k, k < 2 * B.1 → ∀ w, w < 5 → m.1 107 (f + 16 * (k / 2) + 3 + 5 * (k % 2) + w) = B.2.2 w k)
def RC (f : Nat) (m : Mem) (ch : Cs) : Prop := ∀ c, c < 2 → ∀ j, j < 5 → m.1 107 (f + 640 + 5 * c + j) = ch c j
def ch0 : Cs := fun _ j => if j = 2 then 89 else if j = 3 then 3 else if j = 4 then 255 else 0
def RA (m : Mem) (ch : Cs) : Prop := (m.1 96 20 = 1 ∧ RC 0 m ch) ∨ (m.1 96 20 = 0 ∧ ∀ c, c < 2 → ∀ j, j < 5 → ch c j = ch0 c j)
def RS (L : Ld) (B : Bk) (ch : Cs) (m : Mem) : Prop := RP m ∧ RLd m L ∧ LdOk L ∧ RB 0 m B ∧ BkOk (L.1 0) B ∧ RA m ch ∧ ChOk ch
/-- what a question may change of the reference -/
def Fm (m m' : Mem) : Prop := (∀ a k, a ≠ 96 → a ≠ 107 → a ≠ 108 → m'.1 a k = m.1 a k) ∧ (∀ k, k < 20 ∨ 30 ≤ k → m'.1 96 k = m.1 96 k) ∧ (∀ k, k < 640 ∨ 650 ≤ k → m'.1 107 k = m.1 107 k) ∧ m'.2 = m.2
theorem Fm.rf {m : Mem} : Fm m m := ⟨fun _ _ _ _ _ => rfl, fun _ _ => rfl, fun _ _ => rfl, rfl⟩
theorem Fm.tr {m m' m'' : Mem} (h : Fm m m') (h' : Fm m' m'') : Fm m m'' := ⟨fun a k q1 q2 q3 => (h'.1 a k q1 q2 q3).trans (h.1 a k q1 q2 q3), fun k q => (h'.2.1 k q).trans (h.2.1 k q), fun k q => (h'.2.2.1 k q).trans (h.2.2.1 k q), h'.2.2.2.trans h.2.2.2⟩
/-- what all are: the kinds laid -/
def RK (L : Ld) (B : Bk) (m : Mem) : Prop := ∀ k, k < 2 * B.1 → m.1 108 k = kd L B k
theorem any_step {p : Nat → Bool} {n : Nat} {a a' : Int} (ha : a = pI (anyN p n = true)) (h : (a' = 1 ∧ (a = 1 ∨ p n = true)) ∨ (a' = 0 ∧ a = 0 ∧ p n = false)) : a' = pI (anyN p (n + 1) = true) := by
  rcases h with ⟨rfl, h | h⟩ | ⟨rfl, h1, h2⟩
  · exact pI_1 (by simp only [anyN]; rw [pI_e1 (ha.symm.trans h)]; rfl)
  · exact pI_1 (by simp only [anyN]; rw [h]; simp)
  · exact pI_0 (by simp only [anyN]; rw [h2]; have := pI_e0 (ha.symm.trans h1); simp at this; simp [this])
theorem all_step {p : Nat → Bool} {n : Nat} {a a' : Int} (ha : a = pI (allN p n = true)) (h : (a' = 1 ∧ a = 1 ∧ p n = true) ∨ (a' = 0 ∧ (a = 0 ∨ p n = false))) : a' = pI (allN p (n + 1) = true) := by
  rcases h with ⟨rfl, h1, h2⟩ | ⟨rfl, h | h⟩
  · exact pI_1 (by simp only [allN]; rw [pI_e1 (ha.symm.trans h1), h2]; rfl)
  · exact pI_0 (by simp only [allN]; have := pI_e0 (ha.symm.trans h); simp at this; simp [this])
  · exact pI_0 (by simp only [allN]; rw [h]; simp)
section
variable {Γ : GX} {m m' : Mem} {B B' : Bk} {L : Ld} {ch ch' : Cs}
theorem RS.mono (h : RS L B ch m) (hf : Fm m m') (hA : RA m' ch) : RS L B ch m' := by
  obtain ⟨h1, ⟨h2, h3, h4⟩, h5, ⟨h6, h7, h8⟩, h9, -, h10⟩ := h
  have b := h9.1
  refine ⟨fun a k r q => by rw [hf.2.2.2]; exact h1 a k r q, ⟨fun j hj => by rw [hf.1 101 j (by decide) (by decide) (by decide)]; exact h2 j hj, fun p hp w hw => by rw [hf.1 102 _ (by decide) (by decide) (by decide)]; exact h3 p hp w hw, fun p hp w hw => by rw [hf.1 103 _ (by decide) (by decide) (by decide)]; exact h4 p hp w hw⟩, h5, ⟨by rw [hf.2.2.1 _ (by omega)]; exact h6, fun k hk w hw => by rw [hf.2.2.1 _ (by omega)]; exact h7 k hk w hw, fun k hk w hw => by rw [hf.2.2.1 _ (by omega)]; exact h8 k hk w hw⟩, h9, hA, h10⟩
/-- a change beside choices and books -/
theorem RS.sc (h : RS L B ch m) (hf : Fm m m') (h1 : m'.1 96 20 = m.1 96 20) (h2 : ∀ k, m'.1 107 k = m.1 107 k) : RS L B ch m' := by
  refine h.mono hf ?_
  rcases h.2.2.2.2.2.1 with ⟨a, b⟩ | ⟨a, b⟩
  · exact Or.inl ⟨by rw [h1]; exact a, fun c hc j hj => by rw [h2]; exact b c hc j hj⟩
  · exact Or.inr ⟨by rw [h1]; exact a, b⟩
theorem Fm.f96 {z : Int} {k : Nat} (h : Fm m m') (hk : 20 ≤ k ∧ k < 30) : Fm m (setI m' 96 k z) := ⟨fun a j q1 q2 q3 => by simp only [setI]; rw [if_neg (by omega)]; exact h.1 a j q1 q2 q3, fun j q => by simp only [setI]; rw [if_neg (by omega)]; exact h.2.1 j q, fun j q => by simp only [setI]; rw [if_neg (by omega)]; exact h.2.2.1 j q, h.2.2.2⟩
theorem Fm.f108 {z : Int} {k : Nat} (h : Fm m m') : Fm m (setI m' 108 k z) := ⟨fun a j q1 q2 q3 => by simp only [setI]; rw [if_neg (by omega)]; exact h.1 a j q1 q2 q3, fun j q => by simp only [setI]; rw [if_neg (by omega)]; exact h.2.1 j q, fun j q => by simp only [setI]; rw [if_neg (by omega)]; exact h.2.2.1 j q, h.2.2.2⟩
theorem RS.f96 {z : Int} {k : Nat} (h : RS L B ch m) (hk : 21 ≤ k ∧ k < 30) : RS L B ch (setI m 96 k z) := h.sc (Fm.rf.f96 (by omega)) (by simp only [setI]; rw [if_neg (by omega)]) (fun j => by simp only [setI]; rw [if_neg (by omega)])
theorem RS.f108 {z : Int} {k : Nat} (h : RS L B ch m) : RS L B ch (setI m 108 k z) := h.sc Fm.rf.f108 (by simp only [setI]; rw [if_neg (by omega)]) (fun j => by simp only [setI]; rw [if_neg (by omega)])
theorem c_X11_size (hR : RS L B ch m) : C Γ mX11_size 0 0 0 0 [vr 96] SH m (Qi SH m (B.1 : Int)) := by
  refine C_of_R rfl (Nat.le_of_ble_eq_true rfl) ?_
  have hP := hR.1
  refine R_aload_n 1 rfl dX11_size_0 rfl ?_
  refine R_getP 19 4 rfl dX11_size_1 rfl rfl fl_X11_40 (hP _ _ _ rfl) ?_
  refine R_sipush 7 rfl dX11_size_4 (by decide) ?_
  refine R_iald (0 + 650) 8 rfl dX11_size_7 rfl (by first | rfl | omega) (by decide) (by decide) ?_
  refine R_ireturn dX11_size_8 rfl ?_
  exact Qi_mk hR.2.2.2.1.1
theorem c_X11_its (z w : Int) (k wn : Nat) (hR : RS L B ch m) (hz : z = (k : Int)) (hk : k < B.1) (hw : w = (wn : Int)) (hn : wn < 3) : C Γ mX11_its 0 0 0 0 [vr 96, vi z, vi w] SH m (Qi SH m (B.2.1 wn k)) := by
  refine C_of_R rfl (Nat.le_of_ble_eq_true rfl) ?_
  have hP := hR.1
  have h1 := hR.2.2.2.2.1.1
  refine R_aload_n 1 rfl dX11_its_0 rfl ?_
  refine R_getP 19 4 rfl dX11_its_1 rfl rfl fl_X11_40 (hP _ _ _ rfl) ?_
  refine R_bipush 6 rfl dX11_its_4 (by decide) ?_
  refine R_iload_n 7 rfl dX11_its_6 rfl ?_
  refine R_imul 8 rfl dX11_its_7 ?_
  refine R_iload_n 9 rfl dX11_its_8 rfl ?_
  refine R_iadd 10 rfl dX11_its_9 ?_
  refine R_iald (0 + 16 * k + wn) 11 rfl dX11_its_10 rfl (by first | rfl | omega) (by omega) (by decide) ?_
  refine R_ireturn dX11_its_11 rfl ?_
  exact Qi_mk (hR.2.2.2.1.2.1 k hk wn hn)
theorem c_X11_of5 (z s w : Int) (k wn : Nat) (hR : RS L B ch m) (hz : z = ((k / 2 : Nat) : Int)) (hs : s = ((k % 2 : Nat) : Int)) (hk : k < 2 * B.1) (hw : w = (wn : Int)) (hn : wn < 5) : C Γ mX11_of5 0 0 0 0 [vr 96, vi z, vi s, vi w] SH m (Qi SH m (B.2.2 wn k)) := by
  refine C_of_R rfl (Nat.le_of_ble_eq_true rfl) ?_
  have hP := hR.1
  have h1 := hR.2.2.2.2.1.1
  refine R_aload_n 1 rfl dX11_of5_0 rfl ?_
  refine R_getP 19 4 rfl dX11_of5_1 rfl rfl fl_X11_40 (hP _ _ _ rfl) ?_
  refine R_bipush 6 rfl dX11_of5_4 (by decide) ?_
  refine R_iload_n 7 rfl dX11_of5_6 rfl ?_
  refine R_imul 8 rfl dX11_of5_7 ?_
  refine R_iconst 9 rfl dX11_of5_8 ?_
  refine R_iadd 10 rfl dX11_of5_9 ?_
  refine R_iconst 11 rfl dX11_of5_10 ?_
  refine R_iload_n 12 rfl dX11_of5_11 rfl ?_
  refine R_imul 13 rfl dX11_of5_12 ?_
  refine R_iadd 14 rfl dX11_of5_13 ?_
  refine R_iload_n 15 rfl dX11_of5_14 rfl ?_
  refine R_iadd 16 rfl dX11_of5_15 ?_
  refine R_iald (0 + 16 * (k / 2) + 3 + 5 * (k % 2) + wn) 17 rfl dX11_of5_16 rfl (by first | rfl | omega) (by omega) (by decide) ?_
  refine R_ireturn dX11_of5_17 rfl ?_
  exact Qi_mk (hR.2.2.2.1.2.2 k hk wn hn)
theorem c_X11_parishOf (z w : Int) (k wn : Nat) (hR : RS L B ch m) (hz : z = (k : Int)) (hk : (k : Int) < L.1 0) (hw : w = (wn : Int)) (hn : wn < 4) : C Γ mX11_parishOf 0 0 0 0 [vr 96, vi z, vi w] SH m (Qi SH m (L.2.1 wn k)) := by
  refine C_of_R rfl (Nat.le_of_ble_eq_true rfl) ?_
  have hP := hR.1
  have h1 := hR.2.2.1.1
  refine R_aload_n 1 rfl dX11_parishOf_0 rfl ?_
  refine R_getP 13 4 rfl dX11_parishOf_1 rfl rfl fl_X11_25 (hP _ _ _ rfl) ?_
  refine R_iconst 5 rfl dX11_parishOf_4 ?_
  refine R_iload_n 6 rfl dX11_parishOf_5 rfl ?_
  refine R_imul 7 rfl dX11_parishOf_6 ?_
  refine R_iload_n 8 rfl dX11_parishOf_7 rfl ?_
  refine R_iadd 9 rfl dX11_parishOf_8 ?_
  refine R_iald (4 * k + wn) 10 rfl dX11_parishOf_9 rfl (by first | rfl | omega) (by omega) (by decide) ?_
  refine R_ireturn dX11_parishOf_10 rfl ?_
  exact Qi_mk (hR.2.1.2.1 k hk wn hn)
theorem c_X11_isParish (z : Int) (hR : RS L B ch m) (hz : rg z) : C Γ mX11_isParish 1 40 0 0 [vr 96, vi z] SH m (Qi SH m (pI (0 ≤ z ∧ z < L.1 0))) := by
  refine C_of_R rfl (Nat.le_of_ble_eq_true rfl) ?_
  have hP := hR.1
  have h1 := hR.2.2.1.1
  have h2 := hR.2.1.1 0 (by omega)
  refine R_iload_n 1 rfl dX11_isParish_0 rfl ?_
  refine R_i2l 2 rfl dX11_isParish_1 (by first | assumption | exact ⟨by omega, by omega⟩) ?_
  refine R_lconst 3 rfl dX11_isParish_2 ?_
  refine R_aload_n 4 rfl dX11_isParish_3 rfl ?_
  refine R_getP 12 7 rfl dX11_isParish_4 rfl rfl fl_X11_22 (hP _ _ _ rfl) ?_
  refine R_iconst 8 rfl dX11_isParish_7 ?_
  refine R_iald 0 9 rfl dX11_isParish_8 rfl (by first | rfl | omega) (by decide) (by decide) ?_
  rw [h2]
  refine R_iconst 10 rfl dX11_isParish_9 ?_
  refine R_isub 11 rfl dX11_isParish_10 ?_
  refine R_i2l 12 rfl dX11_isParish_11 (by first | assumption | exact ⟨by omega, by omega⟩) ?_
  refine R_callS_i (M' := mX11_in) 15 rfl dX11_isParish_12 ml_X11_63 kmX11_in st_X11_in (c_X11_in _ _ _ (rg_L hz) ⟨by decide, by decide⟩ ⟨by omega, by omega⟩) rfl rfl ⟨Nat.le_of_ble_eq_true rfl, Nat.le_of_ble_eq_true rfl⟩ (Nat.le_of_ble_eq_true rfl) ⟨Nat.le_of_ble_eq_true rfl, Nat.le_of_ble_eq_true rfl⟩ ?_
  refine R_zreturn dX11_isParish_15 rfl (by first | decide | exact pI_01 _) ?_
  exact Qi_mk (pI_congr (by show (((0 : Nat) : Int) ≤ z ∧ _) ↔ _; omega))
theorem c_X11_isClerk (z : Int) (hR : RS L B ch m) (hz : rg z) : C Γ mX11_isClerk 1 40 0 0 [vr 96, vi z] SH m (Qi SH m (pI (0 ≤ z ∧ z < L.1 1))) := by
  refine C_of_R rfl (Nat.le_of_ble_eq_true rfl) ?_
  have hP := hR.1
  have h1 := hR.2.2.1.1
  have h2 := hR.2.1.1 1 (by omega)
  refine R_iload_n 1 rfl dX11_isClerk_0 rfl ?_
  refine R_i2l 2 rfl dX11_isClerk_1 (by first | assumption | exact ⟨by omega, by omega⟩) ?_
  refine R_lconst 3 rfl dX11_isClerk_2 ?_
  refine R_aload_n 4 rfl dX11_isClerk_3 rfl ?_
  refine R_getP 12 7 rfl dX11_isClerk_4 rfl rfl fl_X11_22 (hP _ _ _ rfl) ?_
  refine R_iconst 8 rfl dX11_isClerk_7 ?_
  refine R_iald 1 9 rfl dX11_isClerk_8 rfl (by first | rfl | omega) (by decide) (by decide) ?_
  rw [h2]
  refine R_iconst 10 rfl dX11_isClerk_9 ?_
  refine R_isub 11 rfl dX11_isClerk_10 ?_
  refine R_i2l 12 rfl dX11_isClerk_11 (by first | assumption | exact ⟨by omega, by omega⟩) ?_
  refine R_callS_i (M' := mX11_in) 15 rfl dX11_isClerk_12 ml_X11_63 kmX11_in st_X11_in (c_X11_in _ _ _ (rg_L hz) ⟨by decide, by decide⟩ ⟨by omega, by omega⟩) rfl rfl ⟨Nat.le_of_ble_eq_true rfl, Nat.le_of_ble_eq_true rfl⟩ (Nat.le_of_ble_eq_true rfl) ⟨Nat.le_of_ble_eq_true rfl, Nat.le_of_ble_eq_true rfl⟩ ?_
  refine R_zreturn dX11_isClerk_15 rfl (by first | decide | exact pI_01 _) ?_
  exact Qi_mk (pI_congr (by show (((0 : Nat) : Int) ≤ z ∧ _) ↔ _; omega))
theorem c_X11_bitsOf {S : Shp} (x : Nat) (hx : x < 4096) : C Γ mX11_bitsOf 0 0 0 0 [vi (x : Int)] S m (Qi S m (pop x : Int)) := by
  refine C_of_R rfl (Nat.le_of_ble_eq_true rfl) ?_
  have Lp : ∀ j : Nat, j ≤ 12 → ∀ a z, a = (popU x j : Int) → z = (j : Int) → R Γ mX11_bitsOf { frames := 0, cells := 0, slots := 0, locals := 0 } 0 0 (Qi S m (pop x : Int)) 0 0 4 [some (vi (x : Int)), some (vi a), some (vi z)] [] S m := by
    refine up_ind 12 (fun j hj ih a z ha hz => ?_)
    refine R_iload_n 5 rfl dX11_bitsOf_4 rfl ?_
    refine R_bipush 7 rfl dX11_bitsOf_5 (by decide) ?_
    refine R_icmp_ge 10 24 rfl rfl dX11_bitsOf_7 (by first | assumption | exact ⟨by omega, by omega⟩) (by first | assumption | exact ⟨by omega, by omega⟩) (fun h7 => ?_) (fun h7 => ?_)
    · refine R_iload_n 25 rfl dX11_bitsOf_24 rfl ?_
      refine R_ireturn dX11_bitsOf_25 rfl ?_
      exact Qi_mk (by rw [ha, show j = 12 by omega]; rfl)
    · refine R_iload_n 11 rfl dX11_bitsOf_10 rfl ?_
      refine R_iload_n 12 rfl dX11_bitsOf_11 rfl ?_
      refine R_iload_n 13 rfl dX11_bitsOf_12 rfl ?_
      refine R_ishr 14 rfl dX11_bitsOf_13 (by first | assumption | exact ⟨by omega, by omega⟩) (by omega) (by omega) ?_
      refine R_iconst 15 rfl dX11_bitsOf_14 ?_
      refine R_iand1 16 rfl dX11_bitsOf_15 ?_
      refine R_iadd 17 rfl dX11_bitsOf_16 ?_
      refine R_istore_n [_, _, _] 18 rfl dX11_bitsOf_17 rfl (by decide) ?_
      refine R_iinc [_, _, _] 21 rfl dX11_bitsOf_18 rfl rfl (by decide) ?_
      refine R_goto 4 rfl dX11_bitsOf_21 ?_
      refine ih (by omega) _ _ ?_ (by omega)
      rw [ha, show z.toNat = j by omega]
      show _ = ((popU x j + x / 2 ^ j % 2 : Nat) : Int)
      simp
  refine R_iconst 1 rfl dX11_bitsOf_0 ?_
  refine R_istore_n [_, _, _] 2 rfl dX11_bitsOf_1 rfl (by decide) ?_
  refine R_iconst 3 rfl dX11_bitsOf_2 ?_
  refine R_istore_n [_, _, _] 4 rfl dX11_bitsOf_3 rfl (by decide) ?_
  exact Lp 0 (by omega) _ _ rfl rfl
end
