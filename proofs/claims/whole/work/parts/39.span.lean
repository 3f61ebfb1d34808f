theorem allB_nat (L : Ld) : allB L = ((2 ^ npN L - 1 : Nat) : Int) := by
  unfold allB
  have : 0 < 2 ^ npN L := Nat.pos_of_ne_zero (by simp)
  rw [Int.ofNat_sub this]; simp
def cmB (n b : Nat) : Nat := (2 ^ n - 1) ^^^ ((2 ^ n - 1) &&& b)
theorem cmB_lt {n b : Nat} (hn : n ≤ 12) : cmB n b < 4096 := by
  have h1 : 2 ^ n - 1 < 2 ^ 12 := by have := Nat.pow_le_pow_right (show 0 < 2 by decide) hn; have : 0 < 2 ^ n := Nat.pos_of_ne_zero (by simp); omega
  exact Nat.xor_lt_two_pow (n := 12) h1 (Nat.lt_of_le_of_lt Nat.and_le_left h1)
theorem cmB_bit {n b p : Nat} (hp : p < n) : (cmB n b).testBit p = !b.testBit p := by
  unfold cmB
  rw [Nat.testBit_xor, Nat.testBit_and, Nat.testBit_two_pow_sub_one]
  simp [hp]
theorem mOf_c (L : Ld) (b : Nat) : mOf L (cmB (npN L) b : Int) = sumN (fun p => if tb (b : Int) (p : Int) = true then 0 else L.2.1 0 p) (npN L) := by
  unfold mOf
  refine sumN_congr (fun p hp => ?_)
  rw [tb_nat, tb_nat, cmB_bit hp]
  cases b.testBit p <;> rfl
theorem mOf_all (L : Ld) : mOf L (allB L) = sumN (L.2.1 0) (npN L) := by
  unfold mOf
  refine sumN_congr (fun p hp => ?_)
  rw [allB_nat, tb_nat, Nat.testBit_two_pow_sub_one]
  simp [hp]
theorem sumW_rg {L : Ld} (h : LdOk L) : 0 ≤ sumN (L.2.1 0) (npN L) ∧ sumN (L.2.1 0) (npN L) ≤ 11988 := by
  have h1 := npN_le h
  have h2 := sumN_rg (f := L.2.1 0) (c := 999) (n := npN L) (fun k hk => by have := h.2.2.1 k (by omega); omega)
  omega
/-! span -/
def spD (B : Bk) (ch : Cs) (n : Nat) : Int := (lcmU (mkN B ch 0 0) n : Int)
def spT (L : Ld) (B : Bk) (ch : Cs) (b : Int) (p : Nat) : Int := if tb b (p : Int) = true then tgA L B ch 0 0 p * L.2.1 0 p * (spD B ch (npN L) / tgM B ch 0 0 p) else 0
def spR (L : Ld) (b : Int) : Int := sumN (fun p => if tb b (p : Int) = true then 0 else L.2.1 0 p) (npN L)
def spN (L : Ld) (B : Bk) (ch : Cs) (b w : Int) : Int := sumN (spT L B ch b) (npN L) + (if 2 ≤ w then spR L b * spD B ch (npN L) else 0)
def spV (L : Ld) (B : Bk) (ch : Cs) (b w : Int) : Int := if sumN (L.2.1 0) (npN L) = 0 then -4 else if w % 2 = 0 then rT (spN L B ch b w) (spD B ch (npN L) * sumN (L.2.1 0) (npN L)) else rB (spN L B ch b w) (spD B ch (npN L) * sumN (L.2.1 0) (npN L))
def a_span (L : Ld) (B : Bk) (ch : Cs) (b w : Int) : Int := if ((0 ≤ b ∧ b ≤ allB L) ∧ (0 ≤ w ∧ w ≤ 3)) ∧ aHM (tgM B ch 0 0) b (npN L) = true then spV L B ch b w else -1
theorem tgM_n (B : Bk) (ch : Cs) (c : Nat) (gr : Int) (g : Nat) : tgM B ch c gr g = (mkN B ch gr c g : Int) := rfl
theorem spD_rg {np : Int} {B : Bk} {ch : Cs} {n : Nat} (hO : BkOk np B) : 0 < spD B ch n ∧ spD B ch n ≤ 5300000000000 := by
  have h0 := lcmU_pos (mkN B ch 0 0) n
  have h1 : lcmU (mkN B ch 0 0) n ∣ prodU (mkN B ch 0 0) n := lcmU_min (fun g hg h => by have := prodU_dvd (f := mkN B ch 0 0) hg; rw [nz_id h] at this; exact this)
  have h2 := Nat.le_of_dvd (prodU_pos _ _) h1
  have h3 : prodU (mkN B ch 0 0) n ≤ 5300000000000 := prod80 (Nat.le_trans (sum_cnt (G := fun k => grp B k 0) (fun g k hk q => by simp [tgP] at q; exact q.2)) (by have := hO.1; omega))
  unfold spD; omega
theorem spD_dv {B : Bk} {ch : Cs} {n p : Nat} (hp : p < n) (h : tgM B ch 0 0 p ≠ 0) : tgM B ch 0 0 p ∣ spD B ch n := by
  have h1 : mkN B ch 0 0 p ≠ 0 := fun e => h (by rw [tgM_n, e]; rfl)
  exact Int.ofNat_dvd.mpr (lcmU_dvd hp h1)
/-- a part of a whole -/
theorem part_le {D m a w : Int} (hD : 0 < D) (hm : 0 < m) (hd : m ∣ D) (ha : 0 ≤ a ∧ a ≤ m) (hw : 0 ≤ w) : 0 ≤ a * w * (D / m) ∧ a * w * (D / m) ≤ w * D := by
  obtain ⟨q, hq⟩ := hd
  have e : D / m = q := by rw [hq]; exact Int.mul_ediv_cancel_left _ (by omega)
  have hq0 : 0 ≤ q := by
    rcases (show 0 ≤ q ∨ q < 0 by omega) with h | h
    · exact h
    · have := Int.mul_neg_of_pos_of_neg hm h; omega
  rw [e]
  have h1 := Int.mul_nonneg (Int.mul_nonneg ha.1 hw) hq0
  refine ⟨h1, ?_⟩
  have h2 : a * w * q ≤ m * w * q := Int.mul_le_mul_of_nonneg_right (Int.mul_le_mul_of_nonneg_right ha.2 hw) hq0
  have h3 : m * w * q = w * D := by rw [hq, Int.mul_comm m w, Int.mul_assoc]
  omega
theorem tgA_le (L : Ld) (B : Bk) (ch : Cs) (c : Nat) (gr : Int) (g : Nat) : 0 ≤ tgA L B ch c gr g ∧ tgA L B ch c gr g ≤ tgM B ch c gr g := by
  have : cnt (tgQ L B ch c gr g) (2 * B.1) ≤ cnt (tgP B ch c gr g) (2 * B.1) := cnt_mono (fun k hk q => by simp [tgQ] at q; exact q.1)
  unfold tgA tgM; omega
theorem spT_rg {L : Ld} {B : Bk} {ch : Cs} {b : Int} (hO : BkOk (L.1 0) B) (hL : LdOk L) (ha : aHM (tgM B ch 0 0) b (npN L) = true) (k : Nat) (hk : k < npN L) : 0 ≤ spT L B ch b k ∧ spT L B ch b k ≤ 999 * spD B ch (npN L) := by
  have h0 := spD_rg (ch := ch) (n := npN L) hO
  have h1 := npN_le hL
  have h2 := hL.2.2.1 k (by omega)
  have h3 := tgA_le L B ch 0 0 k
  unfold spT
  split
  · rename_i e
    have h4 := (allN_iff _ _).mp ha k hk
    simp [e] at h4
    have h5 := part_le (w := L.2.1 0 k) h0.1 (by have := tgM_n B ch 0 0 k; omega) (spD_dv hk h4) h3 (by omega)
    have h6 : L.2.1 0 k * spD B ch (npN L) ≤ 999 * spD B ch (npN L) := Int.mul_le_mul_of_nonneg_right (by omega) (by omega)
    omega
  · omega
theorem spR_rg {L : Ld} (hL : LdOk L) (b : Int) : 0 ≤ spR L b ∧ spR L b ≤ 11988 := by
  have h1 := npN_le hL
  have h2 := sumN_rg (f := fun p => if tb b (p : Int) = true then 0 else L.2.1 0 p) (c := 999) (n := npN L) (fun k hk => by have := hL.2.2.1 k (by omega); split <;> omega)
  unfold spR; omega
section
variable {Γ : GX} {m : Mem} {B : Bk} {L : Ld} {ch : Cs} {o d : Nat}
theorem l_X10_span {m0 : Mem} (bn : Nat) (w : Int) (hf0 : Fs m0 m) (hCS0 : CS o d L B ch m) (hT0 : Tl 88 89 90 m (tgM B ch 0 0) (tgA L B ch 0 0) (tgN B ch 0)) (hb : (bn : Int) ≤ allB L) (hw : 0 ≤ w ∧ w ≤ 3) (ha : aHM (tgM B ch 0 0) (bn : Int) (npN L) = true) (hW : sumN (L.2.1 0) (npN L) ≠ 0) :
    ∀ k, k ≤ npN L → ∀ mm z, Fr is91 m mm → Rt mm (sumN (spT L B ch (bn : Int)) k) (spD B ch (npN L)) → z = (k : Int) → R Γ mX10_span { frames := 6, cells := 0, slots := 0, locals := 240 } 0 0 (QB o d L B ch m0 (spV L B ch (bn : Int) w)) 0 0 78 [some (vr 0), some (vi (bn : Int)), some (vi w), some (vi (sumN (L.2.1 0) (npN L))), some (vi z)] [] SH mm := by
  have hLO := hCS0.2.2.2.2.1
  have hO := hCS0.2.2.1
  have h9 := npN_le hLO
  have h8 := spD_rg (ch := ch) (n := npN L) hO
  have h7 := sumW_rg hLO
  have h6 := tg_rg L B ch 0 0 hO.1
  have h5 := allB_rg hLO
  have h4 := spR_rg hLO (bn : Int)
  have h3 := cmB_lt (b := bn) h9.2
  have mc := mOf_c L bn
  have sb : ∀ k, k ≤ npN L → 0 ≤ sumN (spT L B ch (bn : Int)) k ∧ sumN (spT L B ch (bn : Int)) k ≤ 11988 * spD B ch (npN L) := fun k hk => by
    have := sumN_rg (f := spT L B ch (bn : Int)) (c := 999 * spD B ch (npN L)) (n := k) (fun j hj => spT_rg hO hLO ha j (by omega))
    have h2 : 999 * spD B ch (npN L) * (k : Int) ≤ 999 * spD B ch (npN L) * 12 := Int.mul_le_mul_of_nonneg_left (by omega) (by omega)
    omega
  refine up_ind (npN L) (fun k hk ih mm z hf hR hz => ?_)
  have hCS := hCS0.fr hf is91_c
  have hT := hT0.fr hf rfl rfl rfl
  have hPO := hCS.1
  have hP := hPO.2
  have s1 := sb k hk
  have r0 : 0 ≤ spR L (bn : Int) * spD B ch (npN L) ∧ spR L (bn : Int) * spD B ch (npN L) ≤ 11988 * spD B ch (npN L) := ⟨Int.mul_nonneg h4.1 (by omega), Int.mul_le_mul_of_nonneg_right h4.2 (by omega)⟩
  have tail : ∀ m1, Fr is91 m m1 → k = npN L → Rt m1 (spN L B ch (bn : Int) w) (spD B ch (npN L)) → R Γ mX10_span { frames := 6, cells := 0, slots := 0, locals := 240 } 0 0 (QB o d L B ch m0 (spV L B ch (bn : Int) w)) 0 0 180 [some (vr 0), some (vi (bn : Int)), some (vi w), some (vi (sumN (L.2.1 0) (npN L))), some (vi z)] [] SH m1 := by
    intro m1 hf1 ek hR1
    have hCS := hCS0.fr hf1 is91_c
    have hPO := hCS.1
    have hP := hPO.2
    have t1 : 0 ≤ spN L B ch (bn : Int) w ∧ spN L B ch (bn : Int) w ≤ 23976 * spD B ch (npN L) := by subst ek; unfold spN; split <;> omega
    have t2 := rT_le (n := spN L B ch (bn : Int) w) h8.1 (23976 * spD B ch (npN L)) ⟨by omega, t1.2⟩
    have t3 := rB_pos (n := spN L B ch (bn : Int) w) h8.1
    have t4 := rB_le (n := spN L B ch (bn : Int) w) h8.1
    have t5 := mulb (x := rB (spN L B ch (bn : Int) w) (spD B ch (npN L))) (y := sumN (L.2.1 0) (npN L)) (X := 5300000000000) (Y := 11988) (by omega) (by omega)
    have t6 : 0 < rB (spN L B ch (bn : Int) w) (spD B ch (npN L)) * sumN (L.2.1 0) (npN L) := Int.mul_pos t3 (by omega)
    have t7 : 0 < spD B ch (npN L) * sumN (L.2.1 0) (npN L) := Int.mul_pos h8.1 (by omega)
    have t8 := rTB (n := spN L B ch (bn : Int) w) (d := spD B ch (npN L))
    refine R_aload_n 181 rfl dX10_span_180 rfl ?_
    refine R_getP 13 184 rfl dX10_span_181 rfl rfl fl_X10_88 (hP _ _ _ rfl) ?_
    refine R_aload_n 185 rfl dX10_span_184 rfl ?_
    refine R_getP 13 188 rfl dX10_span_185 rfl rfl fl_X10_88 (hP _ _ _ rfl) ?_
    refine R_getL 0 191 rfl dX10_span_188 rfl rfl fl_X10_290 ?_
    refine R_topL (b := rT (spN L B ch (bn : Int) w) (spD B ch (npN L))) hR1.1 ?_
    refine R_aload_n 192 rfl dX10_span_191 rfl ?_
    refine R_getP 13 195 rfl dX10_span_192 rfl rfl fl_X10_88 (hP _ _ _ rfl) ?_
    refine R_getL 1 198 rfl dX10_span_195 rfl rfl fl_X10_294 ?_
    refine R_topL (b := rB (spN L B ch (bn : Int) w) (spD B ch (npN L))) hR1.2 ?_
    refine R_iload_n 199 rfl dX10_span_198 rfl ?_
    refine R_i2l 200 rfl dX10_span_199 (by first | assumption | exact ⟨by omega, by omega⟩) ?_
    refine R_lmul 201 rfl dX10_span_200 ?_
    refine R_callV_V (M' := mX6_become) 204 rfl dX10_span_201 ml_X10_281 kmX6_become im_X6_become se_X6_become rfl ⟨by decide, rfl⟩ (c_X6_becomeR _ _ ⟨by omega, by omega⟩ ⟨by omega, by omega⟩) rfl rfl ⟨Nat.le_of_ble_eq_true rfl, Nat.le_of_ble_eq_true rfl⟩ (Nat.le_of_ble_eq_true rfl) ⟨Nat.le_of_ble_eq_true rfl, Nat.le_of_ble_eq_true rfl⟩ ?_
    rintro m201 h201
    obtain ⟨f201, r201⟩ := h201
    replace hP := (hCS.fr f201 is91_c).1.2
    refine R_aload_n 205 rfl dX10_span_204 rfl ?_
    refine R_getP 13 208 rfl dX10_span_205 rfl rfl fl_X10_88 (hP _ _ _ rfl) ?_
    refine R_iload_n 209 rfl dX10_span_208 rfl ?_
    refine R_callV_l (M' := mX6_part) 212 rfl dX10_span_209 ml_X10_297 kmX6_part im_X6_part se_X6_part rfl ⟨by decide, rfl⟩ (c_X6_part _ (by omega)) rfl rfl ⟨Nat.le_of_ble_eq_true rfl, Nat.le_of_ble_eq_true rfl⟩ (Nat.le_of_ble_eq_true rfl) ⟨Nat.le_of_ble_eq_true rfl, Nat.le_of_ble_eq_true rfl⟩ ?_
    refine R_lreturn dX10_span_212 rfl ?_
    have q := Rt_re r201 t6 t7 (by rw [← Int.mul_assoc, t8, Int.mul_assoc])
    refine QL_mk ⟨Eq.symm ?_, hf0.tr ((hf1.tr f201).s is91_q), hCS.fr f201 is91_c⟩
    rw [spV, if_neg hW, ← q.1, ← q.2]
  rcases hCS.2.2.2.1 with ⟨rfl, hL⟩ | ⟨rfl, hL⟩
  all_goals
    have h2 := hL.1
    have hL2 := hCS.2.2.2.1
    refine R_iload 80 rfl dX10_span_78 rfl ?_
    refine R_aload_n 81 rfl dX10_span_80 rfl ?_
    refine R_getP 2 84 rfl dX10_span_81 rfl rfl fl_X10_26 (PO_o hPO) ?_
    refine R_getI 0 87 rfl dX10_span_84 rfl rfl fl_X10_125 ?_
    refine R_icmp_ge 90 148 rfl rfl dX10_span_87 (by first | assumption | exact ⟨by omega, by omega⟩) (by first | assumption | exact ⟨by omega, by omega⟩) (fun h87 => ?_) (fun h87 => ?_)
    · refine R_iload_n 149 rfl dX10_span_148 rfl ?_
      refine R_iconst 150 rfl dX10_span_149 ?_
      refine R_icmp_lt 153 180 rfl rfl dX10_span_150 (by first | assumption | exact ⟨by omega, by omega⟩) (by first | assumption | exact ⟨by omega, by omega⟩) (fun h150 => ?_) (fun h150 => ?_)
      · have ek : k = npN L := by omega
        have eS : sumN (spT L B ch (bn : Int)) (npN L) = sumN (spT L B ch (bn : Int)) k := by rw [ek]
        first
          | exact tail _ (hf.tr f177) ek (by unfold spN; rw [if_pos (by omega), eS]; exact r177)
          | exact tail _ hf ek (by unfold spN; rw [if_neg (by omega), Int.add_zero, eS]; exact hR)
      · refine R_aload_n 154 rfl dX10_span_153 rfl ?_
        refine R_getP 13 157 rfl dX10_span_154 rfl rfl fl_X10_88 (hP _ _ _ rfl) ?_
        refine R_aload_n 158 rfl dX10_span_157 rfl ?_
        refine R_getP 2 161 rfl dX10_span_158 rfl rfl fl_X10_26 (PO_o hPO) ?_
        refine R_aload_n 162 rfl dX10_span_161 rfl ?_
        refine R_getP 2 165 rfl dX10_span_162 rfl rfl fl_X10_26 (PO_o hPO) ?_
        refine R_callV_i (M' := mX4_allParishes) 168 rfl dX10_span_165 ml_X10_273 kmX4_allParishes im_X4_allParishes se_X4_allParishes rfl ⟨by decide, rfl⟩ (c_X4_allParishes hL2 hLO) rfl rfl ⟨Nat.le_of_ble_eq_true rfl, Nat.le_of_ble_eq_true rfl⟩ (Nat.le_of_ble_eq_true rfl) ⟨Nat.le_of_ble_eq_true rfl, Nat.le_of_ble_eq_true rfl⟩ ?_
        refine R_top (b := ((2 ^ npN L - 1 : Nat) : Int)) (allB_nat L) ?_
        refine R_iload_n 169 rfl dX10_span_168 rfl ?_
        refine R_iconst 170 rfl dX10_span_169 ?_
        refine R_inot 171 rfl dX10_span_170 ?_
        refine R_iandn 172 rfl dX10_span_171 ?_
        refine R_top (b := (cmB (npN L) bn : Int)) rfl ?_
        refine R_callV_i (M' := mX4_marriagesOf) 175 rfl dX10_span_172 ml_X10_276 kmX4_marriagesOf im_X4_marriagesOf se_X4_marriagesOf rfl ⟨by decide, rfl⟩ (c_X4_marriagesOf _ hPO hL2 hLO ⟨by omega, by omega⟩) rfl rfl ⟨Nat.le_of_ble_eq_true rfl, Nat.le_of_ble_eq_true rfl⟩ (Nat.le_of_ble_eq_true rfl) ⟨Nat.le_of_ble_eq_true rfl, Nat.le_of_ble_eq_true rfl⟩ ?_
        refine R_top (b := spR L (bn : Int)) mc ?_
        refine R_i2l 176 rfl dX10_span_175 (by first | assumption | exact ⟨by omega, by omega⟩) ?_
        refine R_lconst 177 rfl dX10_span_176 ?_
        refine R_callV_V (M' := mX6_add) 180 rfl dX10_span_177 ml_X10_287 kmX6_add im_X6_add se_X6_add rfl ⟨by decide, rfl⟩ (c_X6_addM (sumN (spT L B ch (bn : Int)) k) (spD B ch (npN L)) (spR L (bn : Int)) 1 (spD B ch (npN L)) hR ⟨by omega, by omega⟩ (by decide) (by rw [Int.one_mul]) ⟨by omega, by omega⟩) rfl rfl ⟨Nat.le_of_ble_eq_true rfl, Nat.le_of_ble_eq_true rfl⟩ (Nat.le_of_ble_eq_true rfl) ⟨Nat.le_of_ble_eq_true rfl, Nat.le_of_ble_eq_true rfl⟩ ?_
        rintro m177 h177
        obtain ⟨f177, r177⟩ := h177
        have ek : k = npN L := by omega
        have eS : sumN (spT L B ch (bn : Int)) (npN L) = sumN (spT L B ch (bn : Int)) k := by rw [ek]
        first
          | exact tail _ (hf.tr f177) ek (by unfold spN; rw [if_pos (by omega), eS]; exact r177)
          | exact tail _ hf ek (by unfold spN; rw [if_neg (by omega), Int.add_zero, eS]; exact hR)
    · have q1 := h6 k (by omega)
      have q2 := hL.2.2.1 k (by omega)
      have q3 := hLO.2.2.1 k (by omega)
      have e0 : tb (bn : Int) (k : Int) = true ↔ (bn : Int) / 2 ^ k % 2 = 1 := by simp [tb]
      have q5 := hT.2 k (by omega)
      refine R_iload_n 91 rfl dX10_span_90 rfl ?_
      refine R_iload 93 rfl dX10_span_91 rfl ?_
      refine R_callS_i (M' := mX10_hasBit) 96 rfl dX10_span_93 ml_X10_284 kmX10_hasBit st_X10_hasBit (c_X10_hasBit _ _ k ⟨by omega, by omega⟩ hz (by omega)) rfl rfl ⟨Nat.le_of_ble_eq_true rfl, Nat.le_of_ble_eq_true rfl⟩ (Nat.le_of_ble_eq_true rfl) ⟨Nat.le_of_ble_eq_true rfl, Nat.le_of_ble_eq_true rfl⟩ ?_
      refine R_ifp_eq 99 142 rfl rfl dX10_span_96 (fun h96 => ?_) (fun h96 => ?_)
      · refine R_iinc [_, _, _, _, _] 145 rfl dX10_span_142 rfl rfl (by decide) ?_
        refine R_goto 78 rfl dX10_span_145 ?_
        first
          | exact ih (by omega) _ _ (hf.tr f139) (by unfold sumN; rw [q6]; exact r139) (by omega)
          | exact ih (by omega) _ _ hf (by unfold sumN; rw [show spT L B ch (bn : Int) k = 0 from if_neg (fun q => h96 (e0.mp q)), Int.add_zero]; exact hR) (by omega)
      · have q4 : tgM B ch 0 0 k ≠ 0 := by have := (allN_iff _ _).mp ha k (by omega); simp [e0.mpr h96] at this; exact this
        have q6 : spT L B ch (bn : Int) k = tgA L B ch 0 0 k * L.2.1 0 k * (spD B ch (npN L) / tgM B ch 0 0 k) := if_pos (e0.mpr h96)
        have q7 := spT_rg hO hLO ha k (by omega)
        refine R_aload_n 100 rfl dX10_span_99 rfl ?_
        refine R_getP 13 103 rfl dX10_span_100 rfl rfl fl_X10_88 (hP _ _ _ rfl) ?_
        refine R_aload_n 104 rfl dX10_span_103 rfl ?_
        refine R_getP 12 107 rfl dX10_span_104 rfl rfl fl_X10_82 (hP _ _ _ rfl) ?_
        refine R_getP 1 110 rfl dX10_span_107 rfl rfl fl_X10_244 (hP _ _ _ rfl) ?_
        refine R_iload 112 rfl dX10_span_110 rfl ?_
        refine R_iald k 113 rfl dX10_span_112 rfl (by first | rfl | omega) (by omega) (by decide) ?_
        refine R_i2l 114 rfl dX10_span_113 (by first | assumption | exact ⟨by omega, by omega⟩) ?_
        refine R_topL (b := tgA L B ch 0 0 k) q5.2 ?_
        refine R_aload_n 115 rfl dX10_span_114 rfl ?_
        refine R_getP 2 118 rfl dX10_span_115 rfl rfl fl_X10_26 (PO_o hPO) ?_
        refine R_getP 8 121 rfl dX10_span_118 rfl rfl fl_X10_157 (hP _ _ _ rfl) ?_
        refine R_iconst 122 rfl dX10_span_121 ?_
        refine R_aald 0 123 rfl dX10_span_122 rfl rfl (by first | rfl | omega) (by decide) (by decide) (hP _ _ _ rfl) ?_
        refine R_iload 125 rfl dX10_span_123 rfl ?_
        refine R_iald k 126 rfl dX10_span_125 rfl (by first | rfl | omega) (by omega) (by decide) ?_
        refine R_i2l 127 rfl dX10_span_126 (by first | assumption | exact ⟨by omega, by omega⟩) ?_
        refine R_topL (b := L.2.1 0 k) q2.1 ?_
        refine R_lmul 128 rfl dX10_span_127 ?_
        refine R_aload_n 129 rfl dX10_span_128 rfl ?_
        refine R_getP 12 132 rfl dX10_span_129 rfl rfl fl_X10_82 (hP _ _ _ rfl) ?_
        refine R_getP 0 135 rfl dX10_span_132 rfl rfl fl_X10_242 (hP _ _ _ rfl) ?_
        refine R_iload 137 rfl dX10_span_135 rfl ?_
        refine R_iald k 138 rfl dX10_span_137 rfl (by first | rfl | omega) (by omega) (by decide) ?_
        refine R_i2l 139 rfl dX10_span_138 (by first | assumption | exact ⟨by omega, by omega⟩) ?_
        refine R_topL (b := tgM B ch 0 0 k) q5.1 ?_
        refine R_callV_V (M' := mX6_add) 142 rfl dX10_span_139 ml_X10_287 kmX6_add im_X6_add se_X6_add rfl ⟨by decide, rfl⟩ (c_X6_addZ _ _ (tgA L B ch 0 0 k * L.2.1 0 k) (tgM B ch 0 0 k) hR ⟨by omega, by omega⟩ (Or.inr ⟨by omega, spD_dv (by omega) q4⟩) ⟨by omega, by omega⟩) rfl rfl ⟨Nat.le_of_ble_eq_true rfl, Nat.le_of_ble_eq_true rfl⟩ (Nat.le_of_ble_eq_true rfl) ⟨Nat.le_of_ble_eq_true rfl, Nat.le_of_ble_eq_true rfl⟩ ?_
        rintro m139 h139
        obtain ⟨f139, r139⟩ := h139
        refine R_iinc [_, _, _, _, _] 145 rfl dX10_span_142 rfl rfl (by decide) ?_
        refine R_goto 78 rfl dX10_span_145 ?_
        first
          | exact ih (by omega) _ _ (hf.tr f139) (by unfold sumN; rw [q6]; exact r139) (by omega)
          | exact ih (by omega) _ _ hf (by unfold sumN; rw [show spT L B ch (bn : Int) k = 0 from if_neg (fun q => h96 (e0.mp q)), Int.add_zero]; exact hR) (by omega)
theorem c_X10_span (b w : Int) (hCS : CS o d L B ch m) (hb : rg b) (hw : rg w) : C Γ mX10_span 6 240 0 0 [vr 0, vi b, vi w] SH m (QB o d L B ch m (a_span L B ch b w)) := by
  refine C_of_R rfl (Nat.le_of_ble_eq_true rfl) ?_
  have hPO := hCS.1
  have hP := hPO.2
  have hr := tg_rg L B ch 0 0 hCS.2.2.1.1
  have hr' : ∀ g, g < 15 → 0 ≤ tgM B ch 0 0 g ∧ tgM B ch 0 0 g ≤ 80 := fun g h => ⟨(hr g h).1, (hr g h).2.1⟩
  have hLO := hCS.2.2.2.2.1
  have h5 := allB_rg hLO
  have h7 := sumW_rg hLO
  have h8 := spD_rg (ch := ch) (n := npN L) hCS.2.2.1
  rcases hCS.2.2.2.1 with ⟨rfl, -⟩ | ⟨rfl, -⟩
  all_goals
    refine R_aload_n 1 rfl dX10_span_0 rfl ?_
    refine R_iload_n 2 rfl dX10_span_1 rfl ?_
    refine R_callV_i (M' := mX10_areParishes) 5 rfl dX10_span_2 ml_X10_221 kmX10_areParishes im_X10_areParishes se_X10_areParishes rfl ⟨by decide, rfl⟩ (c_X10_areParishes _ hCS (by first | assumption | exact ⟨by omega, by omega⟩)) rfl rfl ⟨Nat.le_of_ble_eq_true rfl, Nat.le_of_ble_eq_true rfl⟩ (Nat.le_of_ble_eq_true rfl) ⟨Nat.le_of_ble_eq_true rfl, Nat.le_of_ble_eq_true rfl⟩ ?_
    refine R_ifp_eq 8 17 rfl rfl dX10_span_5 (fun h5 => ?_) (fun h5 => ?_)
    · refine R_ldc2 (-1) 20 rfl dX10_span_17 kl_X10_268 (by decide) ?_
      refine R_lreturn dX10_span_20 rfl ?_
      exact QL_mk ⟨by unfold a_span; rw [if_neg (fun q => by omega)], Fs.rf, hCS⟩
    · refine R_iload_n 9 rfl dX10_span_8 rfl ?_
      refine R_iconst 10 rfl dX10_span_9 ?_
      refine R_iconst 11 rfl dX10_span_10 ?_
      refine R_callS_i (M' := mX10_within) 14 rfl dX10_span_11 ml_X10_108 kmX10_within st_X10_within (c_X10_within _ _ _ (by first | assumption | exact ⟨by omega, by omega⟩) (by first | assumption | exact ⟨by omega, by omega⟩) (by first | assumption | exact ⟨by omega, by omega⟩)) rfl rfl ⟨Nat.le_of_ble_eq_true rfl, Nat.le_of_ble_eq_true rfl⟩ (Nat.le_of_ble_eq_true rfl) ⟨Nat.le_of_ble_eq_true rfl, Nat.le_of_ble_eq_true rfl⟩ ?_
      refine R_ifp_ne 17 21 rfl rfl dX10_span_14 (fun h14 => ?_) (fun h14 => ?_)
      · refine R_aload_n 22 rfl dX10_span_21 rfl ?_
        refine R_aload_n 23 rfl dX10_span_22 rfl ?_
        refine R_getP 12 26 rfl dX10_span_23 rfl rfl fl_X10_82 (hP _ _ _ rfl) ?_
        refine R_iconst 27 rfl dX10_span_26 ?_
        refine R_iconst 28 rfl dX10_span_27 ?_
        refine R_callV_V (M' := mX10_tallyGroups) 31 rfl dX10_span_28 ml_X10_235 kmX10_tallyGroups im_X10_tallyGroups se_X10_tallyGroups rfl ⟨by decide, rfl⟩ (c_X10_tallyGroups88 0 _ _ hCS rfl (by omega) (by omega)) rfl rfl ⟨Nat.le_of_ble_eq_true rfl, Nat.le_of_ble_eq_true rfl⟩ (Nat.le_of_ble_eq_true rfl) ⟨Nat.le_of_ble_eq_true rfl, Nat.le_of_ble_eq_true rfl⟩ ?_
        rintro m28 h28
        obtain ⟨f28, hCS, hKF, hT⟩ := h28
        clear hPO hP
        have hPO := hCS.1
        have hP := hPO.2
        have hL2 := hCS.2.2.2.1
        refine R_aload_n 32 rfl dX10_span_31 rfl ?_
        refine R_iload_n 33 rfl dX10_span_32 rfl ?_
        refine R_callV_i (M' := mX10_allHaveMarks) 36 rfl dX10_span_33 ml_X10_270 kmX10_allHaveMarks im_X10_allHaveMarks se_X10_allHaveMarks rfl ⟨by decide, rfl⟩ (c_X10_allHaveMarks _ hCS hT hr' hb) rfl rfl ⟨Nat.le_of_ble_eq_true rfl, Nat.le_of_ble_eq_true rfl⟩ (Nat.le_of_ble_eq_true rfl) ⟨Nat.le_of_ble_eq_true rfl, Nat.le_of_ble_eq_true rfl⟩ ?_
        refine R_ifp_ne 39 43 rfl rfl dX10_span_36 (fun h36 => ?_) (fun h36 => ?_)
        · refine R_aload_n 44 rfl dX10_span_43 rfl ?_
          refine R_getP 2 47 rfl dX10_span_44 rfl rfl fl_X10_26 (PO_o hPO) ?_
          refine R_aload_n 48 rfl dX10_span_47 rfl ?_
          refine R_getP 2 51 rfl dX10_span_48 rfl rfl fl_X10_26 (PO_o hPO) ?_
          refine R_callV_i (M' := mX4_allParishes) 54 rfl dX10_span_51 ml_X10_273 kmX4_allParishes im_X4_allParishes se_X4_allParishes rfl ⟨by decide, rfl⟩ (c_X4_allParishes hL2 hLO) rfl rfl ⟨Nat.le_of_ble_eq_true rfl, Nat.le_of_ble_eq_true rfl⟩ (Nat.le_of_ble_eq_true rfl) ⟨Nat.le_of_ble_eq_true rfl, Nat.le_of_ble_eq_true rfl⟩ ?_
          refine R_callV_i (M' := mX4_marriagesOf) 57 rfl dX10_span_54 ml_X10_276 kmX4_marriagesOf im_X4_marriagesOf se_X4_marriagesOf rfl ⟨by decide, rfl⟩ (c_X4_marriagesOf _ hPO hL2 hLO ⟨by omega, by omega⟩) rfl rfl ⟨Nat.le_of_ble_eq_true rfl, Nat.le_of_ble_eq_true rfl⟩ (Nat.le_of_ble_eq_true rfl) ⟨Nat.le_of_ble_eq_true rfl, Nat.le_of_ble_eq_true rfl⟩ ?_
          refine R_top (b := sumN (L.2.1 0) (npN L)) (mOf_all L) ?_
          refine R_istore_n [_, _, _, _, _] 58 rfl dX10_span_57 rfl (by decide) ?_
          refine R_iload_n 59 rfl dX10_span_58 rfl ?_
          refine R_if_ne 62 66 rfl rfl dX10_span_59 (by first | assumption | exact ⟨by omega, by omega⟩) (fun h59 => ?_) (fun h59 => ?_)
          · refine R_aload_n 67 rfl dX10_span_66 rfl ?_
            refine R_getP 13 70 rfl dX10_span_67 rfl rfl fl_X10_88 (hP _ _ _ rfl) ?_
            refine R_lconst 71 rfl dX10_span_70 ?_
            refine R_lconst 72 rfl dX10_span_71 ?_
            refine R_callV_V (M' := mX6_become) 75 rfl dX10_span_72 ml_X10_281 kmX6_become im_X6_become se_X6_become rfl ⟨by decide, rfl⟩ (c_X6_becomeR _ _ ⟨by decide, by decide⟩ ⟨by decide, by decide⟩) rfl rfl ⟨Nat.le_of_ble_eq_true rfl, Nat.le_of_ble_eq_true rfl⟩ (Nat.le_of_ble_eq_true rfl) ⟨Nat.le_of_ble_eq_true rfl, Nat.le_of_ble_eq_true rfl⟩ ?_
            rintro m72 h72
            obtain ⟨f72, r72⟩ := h72
            refine R_iconst 76 rfl dX10_span_75 ?_
            refine R_istore [_, _, _, _, _] 78 rfl dX10_span_76 rfl (by decide) ?_
            obtain ⟨bn, rfl⟩ : ∃ bn : Nat, b = (bn : Int) := ⟨b.toNat, by omega⟩
            have ea : a_span L B ch (bn : Int) w = spV L B ch (bn : Int) w := if_pos ⟨⟨by omega, h14⟩, h36⟩
            rw [ea]
            exact l_X10_span bn w (f28.s88.tr (f72.s is91_q)) (hCS.fr f72 is91_c) (hT.fr f72 rfl rfl rfl) (by omega) (by omega) h36 (by omega) 0 (by omega) _ _ Fr.rf (Rt_0 r72 h8.1) rfl
          · refine R_ldc2 (-4) 65 rfl dX10_span_62 kl_X10_279 (by decide) ?_
            refine R_lreturn dX10_span_65 rfl ?_
            exact QL_mk ⟨by unfold a_span spV; rw [if_pos ⟨⟨by omega, h14⟩, h36⟩, if_pos (by omega)], f28.s88, hCS⟩
        · refine R_ldc2 (-1) 42 rfl dX10_span_39 kl_X10_268 (by decide) ?_
          refine R_lreturn dX10_span_42 rfl ?_
          exact QL_mk ⟨by unfold a_span; rw [if_neg (fun q => h36 q.2)], f28.s88, hCS⟩
      · refine R_ldc2 (-1) 20 rfl dX10_span_17 kl_X10_268 (by decide) ?_
        refine R_lreturn dX10_span_20 rfl ?_
        exact QL_mk ⟨by unfold a_span; rw [if_neg (fun q => by omega)], Fs.rf, hCS⟩
end
