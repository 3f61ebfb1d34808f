theorem and1 (x p : Nat) : ((x : Int) / 2 ^ p % 2 = 1) ↔ x.testBit p = true := by
  rw [← tb_bit]
  unfold tb
  rw [Int.toNat_natCast, decide_eq_true_eq]
theorem andn_bit (x y p : Nat) : (x ^^^ (x &&& y)).testBit p = (x.testBit p && !y.testBit p) := by
  rw [Nat.testBit_xor, Nat.testBit_and]
  cases x.testBit p <;> cases y.testBit p <;> rfl
theorem sumN_add (f g : Nat → Int) : ∀ n, sumN (fun p => f p + g p) n = sumN f n + sumN g n
  | 0 => rfl
  | n + 1 => by
    show sumN (fun p => f p + g p) n + (f n + g n) = (sumN f n + f n) + (sumN g n + g n)
    rw [sumN_add f g n]; omega
theorem sumN_mul (f : Nat → Int) (c : Int) : ∀ n, sumN (fun p => f p * c) n = sumN f n * c
  | 0 => by simp [sumN]
  | n + 1 => by
    show sumN (fun p => f p * c) n + f n * c = (sumN f n + f n) * c
    rw [sumN_mul f c n, Int.add_mul]
theorem sumN_0 : ∀ n, sumN (fun _ => 0) n = 0
  | 0 => rfl
  | n + 1 => by show sumN (fun _ => 0) n + 0 = 0; rw [sumN_0 n]; rfl
def spX (L : Ld) (B : Bk) (ch : Cs) (b w : Int) (p : Nat) : Int := if tb b (p : Int) = true then spT L B ch b p else if 2 ≤ w then L.2.1 0 p * spD B ch (npN L) else 0
theorem spX_sum (L : Ld) (B : Bk) (ch : Cs) (b w : Int) : sumN (spX L B ch b w) (npN L) = spN L B ch b w := by
  unfold spN
  have e : ∀ p, spX L B ch b w p = spT L B ch b p + (if 2 ≤ w then (if tb b (p : Int) = true then 0 else L.2.1 0 p) * spD B ch (npN L) else 0) := by
    intro p
    unfold spX
    by_cases h : tb b (p : Int) = true
    · rw [if_pos h, if_pos h]; simp
    · rw [if_neg h, if_neg h]
      have : spT L B ch b p = 0 := if_neg h
      rw [this]; simp
  rw [sumN_congr (fun p _ => e p), sumN_add]
  congr 1
  by_cases h : 2 ≤ w
  · simp only [if_pos h]
    rw [sumN_mul]
    rfl
  · simp only [if_neg h]
    exact sumN_0 _
section
variable {Γ : GX} {m m' : Mem} {B B' : Bk} {L : Ld} {ch ch' : Cs}
theorem c_X11_allMarriages (hR : RS L B ch m) : C Γ mX11_allMarriages 1 40 0 0 [vr 96] SH m (Qi SH m (sumN (L.2.1 0) (npN L))) := by
  refine C_of_R rfl (Nat.le_of_ble_eq_true rfl) ?_
  have hP := hR.1
  have h2 := hR.2.1.1 0 (by omega)
  have h9 := npN_le hR.2.2.1
  have Lp : ∀ k, k ≤ npN L → ∀ a z, a = sumN (L.2.1 0) k → z = (k : Int) → R Γ mX11_allMarriages { frames := 1, cells := 0, slots := 0, locals := 40 } 0 0 (Qi SH m (sumN (L.2.1 0) (npN L))) 0 0 4 [some (vr 96), some (vi a), some (vi z)] [] SH m := by
    refine up_ind (npN L) (fun k hk ih a z ha hz => ?_)
    refine R_iload_n 5 rfl dX11_allMarriages_4 rfl ?_
    refine R_aload_n 6 rfl dX11_allMarriages_5 rfl ?_
    refine R_getP 12 9 rfl dX11_allMarriages_6 rfl rfl fl_X11_22 (hP _ _ _ rfl) ?_
    refine R_iconst 10 rfl dX11_allMarriages_9 ?_
    refine R_iald 0 11 rfl dX11_allMarriages_10 rfl (by first | rfl | omega) (by decide) (by decide) ?_
    rw [h2]
    refine R_icmp_ge 14 29 rfl rfl dX11_allMarriages_11 (by first | assumption | exact ⟨by omega, by omega⟩) (by first | assumption | exact ⟨by omega, by omega⟩) (fun h11 => ?_) (fun h11 => ?_)
    · refine R_iload_n 30 rfl dX11_allMarriages_29 rfl ?_
      refine R_ireturn dX11_allMarriages_30 rfl ?_
      exact Qi_mk (by rw [ha, show k = npN L by omega])
    · refine R_iload_n 15 rfl dX11_allMarriages_14 rfl ?_
      refine R_aload_n 16 rfl dX11_allMarriages_15 rfl ?_
      refine R_iload_n 17 rfl dX11_allMarriages_16 rfl ?_
      refine R_iconst 18 rfl dX11_allMarriages_17 ?_
      refine R_callV_i (M' := mX11_parishOf) 21 rfl dX11_allMarriages_18 ml_X11_156 kmX11_parishOf im_X11_parishOf se_X11_parishOf rfl ⟨by decide, rfl⟩ (c_X11_parishOf _ _ k 0 hR (by omega) (by omega) (by omega) (by omega)) rfl rfl ⟨Nat.le_of_ble_eq_true rfl, Nat.le_of_ble_eq_true rfl⟩ (Nat.le_of_ble_eq_true rfl) ⟨Nat.le_of_ble_eq_true rfl, Nat.le_of_ble_eq_true rfl⟩ ?_
      refine R_iadd 22 rfl dX11_allMarriages_21 ?_
      refine R_istore_n [_, _, _] 23 rfl dX11_allMarriages_22 rfl (by decide) ?_
      refine R_iinc [_, _, _] 26 rfl dX11_allMarriages_23 rfl rfl (by decide) ?_
      refine R_goto 4 rfl dX11_allMarriages_26 ?_
      exact ih (by omega) _ _ (by rw [ha]; rfl) (by omega)
  refine R_iconst 1 rfl dX11_allMarriages_0 ?_
  refine R_istore_n [_, _, _] 2 rfl dX11_allMarriages_1 rfl (by decide) ?_
  refine R_iconst 3 rfl dX11_allMarriages_2 ?_
  refine R_istore_n [_, _, _] 4 rfl dX11_allMarriages_3 rfl (by decide) ?_
  exact Lp 0 (by omega) _ _ rfl rfl
theorem mkU_s (B : Bk) (ch : Cs) (k : Nat) : mkU B ch (k + 1) = mkU B ch k ||| (if inC B ch 0 k = true then 2 ^ (B.2.1 0 (k / 2)).toNat else 0) := rfl
theorem c_X11_marked (hW : RW L B ch m) : C Γ mX11_marked 2 80 0 0 [vr 96] SH m (Qi SH m (mkd B ch : Int)) := by
  refine C_of_R rfl (Nat.le_of_ble_eq_true rfl) ?_
  have hO := hW.1.2.2.2.2.1
  have h3 := hO.1
  have hl := hW.1.2.2.1.1
  have Lp : ∀ k, k ≤ 2 * B.1 → ∀ a z, a = (mkU B ch k : Int) → z = (k : Int) → R Γ mX11_marked { frames := 2, cells := 0, slots := 0, locals := 80 } 0 0 (Qi SH m (mkd B ch : Int)) 0 0 4 [some (vr 96), some (vi a), some (vi z)] [] SH m := by
    refine up_ind (2 * B.1) (fun k hk ih a z ha hz => ?_)
    subst ha
    refine R_iload_n 5 rfl dX11_marked_4 rfl ?_
    refine R_iconst 6 rfl dX11_marked_5 ?_
    refine R_aload_n 7 rfl dX11_marked_6 rfl ?_
    refine R_callV_i (M' := mX11_size) 10 rfl dX11_marked_7 ml_X11_150 kmX11_size im_X11_size se_X11_size rfl ⟨by decide, rfl⟩ (c_X11_size hW.1) rfl rfl ⟨Nat.le_of_ble_eq_true rfl, Nat.le_of_ble_eq_true rfl⟩ (Nat.le_of_ble_eq_true rfl) ⟨Nat.le_of_ble_eq_true rfl, Nat.le_of_ble_eq_true rfl⟩ ?_
    refine R_imul 11 rfl dX11_marked_10 ?_
    refine R_icmp_ge 14 46 rfl rfl dX11_marked_11 (by first | assumption | exact ⟨by omega, by omega⟩) (by first | assumption | exact ⟨by omega, by omega⟩) (fun h11 => ?_) (fun h11 => ?_)
    · refine R_iload_n 47 rfl dX11_marked_46 rfl ?_
      refine R_ireturn dX11_marked_47 rfl ?_
      exact Qi_mk (by rw [show k = 2 * B.1 by omega]; rfl)
    · have g4 := hO.2.1 (k / 2) (by omega)
      refine R_iload_n 15 rfl dX11_marked_14 rfl ?_
      refine R_aload_n 16 rfl dX11_marked_15 rfl ?_
      refine R_iconst 17 rfl dX11_marked_16 ?_
      refine R_iload_n 18 rfl dX11_marked_17 rfl ?_
      refine R_callV_i (M' := mX11_isIn) 21 rfl dX11_marked_18 ml_X11_240 kmX11_isIn im_X11_isIn se_X11_isIn rfl ⟨by decide, rfl⟩ (c_X11_isIn _ _ 0 k hW rfl (by decide) (by omega) (by omega)) rfl rfl ⟨Nat.le_of_ble_eq_true rfl, Nat.le_of_ble_eq_true rfl⟩ (Nat.le_of_ble_eq_true rfl) ⟨Nat.le_of_ble_eq_true rfl, Nat.le_of_ble_eq_true rfl⟩ ?_
      refine R_ifp_eq 24 37 rfl rfl dX11_marked_21 (fun h21 => ?_) (fun h21 => ?_)
      · refine R_iconst 38 rfl dX11_marked_37 ?_
        first | refine R_top (a := 0) (b := ((0 : Nat) : Int)) rfl ?_ | refine R_top (b := ((2 ^ (B.2.1 0 (k / 2)).toNat : Nat) : Int)) (by simp) ?_
        refine R_ior 39 rfl dX11_marked_38 ?_
        refine R_istore_n [_, _, _] 40 rfl dX11_marked_39 rfl (by decide) ?_
        refine R_iinc [_, _, _] 43 rfl dX11_marked_40 rfl rfl (by decide) ?_
        refine R_goto 4 rfl dX11_marked_43 ?_
        first | exact ih (by omega) _ _ (by rw [mkU_s, if_pos h21]) (by omega) | exact ih (by omega) _ _ (by rw [mkU_s, if_neg h21]) (by omega)
      · refine R_iconst 25 rfl dX11_marked_24 ?_
        refine R_aload_n 26 rfl dX11_marked_25 rfl ?_
        refine R_iload_n 27 rfl dX11_marked_26 rfl ?_
        refine R_iconst 28 rfl dX11_marked_27 ?_
        refine R_idiv_p 29 rfl dX11_marked_28 (by first | assumption | exact ⟨by omega, by omega⟩) (by first | assumption | exact ⟨by omega, by omega⟩) (by omega) (by omega) ?_
        refine R_iconst 30 rfl dX11_marked_29 ?_
        refine R_callV_i (M' := mX11_its) 33 rfl dX11_marked_30 ml_X11_153 kmX11_its im_X11_its se_X11_its rfl ⟨by decide, rfl⟩ (c_X11_its _ _ (k / 2) 0 hW.1 (by omega) (by omega) (by omega) (by omega)) rfl rfl ⟨Nat.le_of_ble_eq_true rfl, Nat.le_of_ble_eq_true rfl⟩ (Nat.le_of_ble_eq_true rfl) ⟨Nat.le_of_ble_eq_true rfl, Nat.le_of_ble_eq_true rfl⟩ ?_
        refine R_ishl 34 rfl dX11_marked_33 (by omega) (by omega) ?_
        refine R_goto 38 rfl dX11_marked_34 ?_
        first | refine R_top (a := 0) (b := ((0 : Nat) : Int)) rfl ?_ | refine R_top (b := ((2 ^ (B.2.1 0 (k / 2)).toNat : Nat) : Int)) (by simp) ?_
        refine R_ior 39 rfl dX11_marked_38 ?_
        refine R_istore_n [_, _, _] 40 rfl dX11_marked_39 rfl (by decide) ?_
        refine R_iinc [_, _, _] 43 rfl dX11_marked_40 rfl rfl (by decide) ?_
        refine R_goto 4 rfl dX11_marked_43 ?_
        first | exact ih (by omega) _ _ (by rw [mkU_s, if_pos h21]) (by omega) | exact ih (by omega) _ _ (by rw [mkU_s, if_neg h21]) (by omega)
  refine R_iconst 1 rfl dX11_marked_0 ?_
  refine R_istore_n [_, _, _] 2 rfl dX11_marked_1 rfl (by decide) ?_
  refine R_iconst 3 rfl dX11_marked_2 ?_
  refine R_istore_n [_, _, _] 4 rfl dX11_marked_3 rfl (by decide) ?_
  exact Lp 0 (by omega) _ _ rfl rfl
theorem mkd_lt (hR : RS L B ch m) : mkd B ch < 2 ^ npN L := by
  have h := npN_le hR.2.2.1
  have hO := hR.2.2.2.2.1
  rw [← h.1] at hO
  exact mkU_lt hO _ (Nat.le_refl _)
theorem bn_lt {b : Int} (h : 0 ≤ b ∧ b ≤ allB L) : ∃ x : Nat, b = (x : Int) ∧ x < 2 ^ npN L := by
  refine ⟨b.toNat, by omega, ?_⟩
  have h2 := h.2
  rw [allB_nat] at h2
  have := Nat.two_pow_pos (npN L)
  omega
theorem c_X11_areDrawn (b : Int) (hW : RW L B ch m) (hb : rg b) : C Γ mX11_areDrawn 3 120 0 0 [vr 96, vi b] SH m (Qi SH m (pI ((0 ≤ b ∧ b ≤ allB L) ∧ aHM (tgM B ch 0 0) b (npN L) = true))) := by
  refine C_of_R rfl (Nat.le_of_ble_eq_true rfl) ?_
  have hP := hW.1.1
  have h0 := allB_rg hW.1.2.2.1
  have hl := hW.1.2.2.1.1
  have h2 := hW.1.2.1.1 0 (by omega)
  have e2 : 1 * 2 ^ (m.1 101 0).toNat - 1 = allB L := by rw [h2]; unfold allB npN; omega
  rcases Classical.em (0 ≤ b ∧ b ≤ allB L) with ho | ho
  · obtain ⟨x, rfl, hx⟩ := bn_lt ho
    have ah := aHM_bits (ch := ch) hW.1.2.2.2.2.1 hx
    have xl : x ^^^ (x &&& mkd B ch) < 2 ^ 12 := Nat.xor_lt_two_pow (by omega) (Nat.lt_of_le_of_lt Nat.and_le_left (by omega))
    refine R_iload_n 1 rfl dX11_areDrawn_0 rfl ?_
    refine R_i2l 2 rfl dX11_areDrawn_1 (by first | assumption | exact ⟨by omega, by omega⟩) ?_
    refine R_lconst 3 rfl dX11_areDrawn_2 ?_
    refine R_topL (b := 0) rfl ?_
    refine R_iconst 4 rfl dX11_areDrawn_3 ?_
    refine R_aload_n 5 rfl dX11_areDrawn_4 rfl ?_
    refine R_getP 12 8 rfl dX11_areDrawn_5 rfl rfl fl_X11_22 (hP _ _ _ rfl) ?_
    refine R_iconst 9 rfl dX11_areDrawn_8 ?_
    refine R_iald 0 10 rfl dX11_areDrawn_9 rfl (by first | rfl | omega) (by decide) (by decide) ?_
    refine R_ishl 11 rfl dX11_areDrawn_10 (by omega) (by omega) ?_
    refine R_iconst 12 rfl dX11_areDrawn_11 ?_
    refine R_isub 13 rfl dX11_areDrawn_12 ?_
    rw [e2]
    refine R_i2l 14 rfl dX11_areDrawn_13 (by first | assumption | exact ⟨by omega, by omega⟩) ?_
    refine R_callS_i (M' := mX11_in) 17 rfl dX11_areDrawn_14 ml_X11_63 kmX11_in st_X11_in (c_X11_in _ _ _ (by first | assumption | exact ⟨by omega, by omega⟩ | exact rg_L (by assumption)) (by first | assumption | exact ⟨by omega, by omega⟩ | exact rg_L (by assumption)) (by first | assumption | exact ⟨by omega, by omega⟩ | exact rg_L (by assumption))) rfl rfl ⟨Nat.le_of_ble_eq_true rfl, Nat.le_of_ble_eq_true rfl⟩ (Nat.le_of_ble_eq_true rfl) ⟨Nat.le_of_ble_eq_true rfl, Nat.le_of_ble_eq_true rfl⟩ ?_
    refine R_ifp_eq 20 35 rfl rfl dX11_areDrawn_17 (fun h17 => ?_) (fun h17 => ?_)
    · refine R_iconst 36 rfl dX11_areDrawn_35 ?_
      refine R_zreturn dX11_areDrawn_36 rfl (by first | decide | exact pI_01 _) ?_
      first | (exfalso; omega) | exact Qi_mk (pI_1 ⟨ho, ah.mpr (by omega)⟩) | exact Qi_mk (pI_0 (fun q => by have := ah.mp q.2; omega))
    · refine R_iload_n 21 rfl dX11_areDrawn_20 rfl ?_
      refine R_aload_n 22 rfl dX11_areDrawn_21 rfl ?_
      refine R_callV_i (M' := mX11_marked) 25 rfl dX11_areDrawn_22 ml_X11_294 kmX11_marked im_X11_marked se_X11_marked rfl ⟨by decide, rfl⟩ (c_X11_marked hW) rfl rfl ⟨Nat.le_of_ble_eq_true rfl, Nat.le_of_ble_eq_true rfl⟩ (Nat.le_of_ble_eq_true rfl) ⟨Nat.le_of_ble_eq_true rfl, Nat.le_of_ble_eq_true rfl⟩ ?_
      refine R_iconst 26 rfl dX11_areDrawn_25 ?_
      refine R_inot 27 rfl dX11_areDrawn_26 ?_
      refine R_iandn 28 rfl dX11_areDrawn_27 ?_
      refine R_if_ne 31 35 rfl rfl dX11_areDrawn_28 (by first | assumption | exact ⟨by omega, by omega⟩) (fun h28 => ?_) (fun h28 => ?_)
      · refine R_iconst 36 rfl dX11_areDrawn_35 ?_
        refine R_zreturn dX11_areDrawn_36 rfl (by first | decide | exact pI_01 _) ?_
        first | (exfalso; omega) | exact Qi_mk (pI_1 ⟨ho, ah.mpr (by omega)⟩) | exact Qi_mk (pI_0 (fun q => by have := ah.mp q.2; omega))
      · refine R_iconst 32 rfl dX11_areDrawn_31 ?_
        refine R_goto 36 rfl dX11_areDrawn_32 ?_
        refine R_zreturn dX11_areDrawn_36 rfl (by first | decide | exact pI_01 _) ?_
        first | (exfalso; omega) | exact Qi_mk (pI_1 ⟨ho, ah.mpr (by omega)⟩) | exact Qi_mk (pI_0 (fun q => by have := ah.mp q.2; omega))
  · skip
    refine R_iload_n 1 rfl dX11_areDrawn_0 rfl ?_
    refine R_i2l 2 rfl dX11_areDrawn_1 (by first | assumption | exact ⟨by omega, by omega⟩) ?_
    refine R_lconst 3 rfl dX11_areDrawn_2 ?_
    refine R_topL (b := 0) rfl ?_
    refine R_iconst 4 rfl dX11_areDrawn_3 ?_
    refine R_aload_n 5 rfl dX11_areDrawn_4 rfl ?_
    refine R_getP 12 8 rfl dX11_areDrawn_5 rfl rfl fl_X11_22 (hP _ _ _ rfl) ?_
    refine R_iconst 9 rfl dX11_areDrawn_8 ?_
    refine R_iald 0 10 rfl dX11_areDrawn_9 rfl (by first | rfl | omega) (by decide) (by decide) ?_
    refine R_ishl 11 rfl dX11_areDrawn_10 (by omega) (by omega) ?_
    refine R_iconst 12 rfl dX11_areDrawn_11 ?_
    refine R_isub 13 rfl dX11_areDrawn_12 ?_
    rw [e2]
    refine R_i2l 14 rfl dX11_areDrawn_13 (by first | assumption | exact ⟨by omega, by omega⟩) ?_
    refine R_callS_i (M' := mX11_in) 17 rfl dX11_areDrawn_14 ml_X11_63 kmX11_in st_X11_in (c_X11_in _ _ _ (by first | assumption | exact ⟨by omega, by omega⟩ | exact rg_L (by assumption)) (by first | assumption | exact ⟨by omega, by omega⟩ | exact rg_L (by assumption)) (by first | assumption | exact ⟨by omega, by omega⟩ | exact rg_L (by assumption))) rfl rfl ⟨Nat.le_of_ble_eq_true rfl, Nat.le_of_ble_eq_true rfl⟩ (Nat.le_of_ble_eq_true rfl) ⟨Nat.le_of_ble_eq_true rfl, Nat.le_of_ble_eq_true rfl⟩ ?_
    refine R_ifp_eq 20 35 rfl rfl dX11_areDrawn_17 (fun h17 => ?_) (fun h17 => ?_)
    · refine R_iconst 36 rfl dX11_areDrawn_35 ?_
      refine R_zreturn dX11_areDrawn_36 rfl (by first | decide | exact pI_01 _) ?_
      exact Qi_mk (pI_0 (fun q => ho q.1))
    · exfalso; omega
def a_next (L : Ld) (B : Bk) (ch : Cs) (b : Int) : Int := if (0 ≤ b ∧ b ≤ allB L) ∧ aHM (tgM B ch 0 0) b (npN L) = true then (if lgB (tgM B ch 0 0) (L.2.1 0) b (npN L) < 0 then -4 else lgB (tgM B ch 0 0) (L.2.1 0) b (npN L)) else -1
theorem c_X11_next (b : Int) (hR : RS L B ch m) (hb : rg b) : C Γ mX11_next 7 280 0 0 [vr 96, vi b] SH m (QM L B ch m (a_next L B ch b)) := by
  refine C_of_R rfl (Nat.le_of_ble_eq_true rfl) ?_
  have hl := hR.2.2.1.1
  have hnp := npN_le hR.2.2.1
  have hO := hR.2.2.2.2.1
  have h0 := allB_rg hR.2.2.1
  have Lp : ∀ x : Nat, b = (x : Int) → (0 ≤ b ∧ b ≤ allB L) ∧ aHM (tgM B ch 0 0) b (npN L) = true → ∀ m1, Fm m m1 → RZ L B ch m1 → ∀ k, k ≤ npN L → ∀ be z, be = (if lgB (tgM B ch 0 0) (L.2.1 0) b k < 0 then -4 else lgB (tgM B ch 0 0) (L.2.1 0) b k) → z = (k : Int) → R Γ mX11_next { frames := 7, cells := 0, slots := 0, locals := 280 } 0 0 (QM L B ch m (a_next L B ch b)) 0 0 29 [some (vr 96), some (vi b), some (vi ((mkd B ch ^^^ (mkd B ch &&& x) : Nat) : Int)), some (vi be), some (vi z)] [] SH m1 := by
    intro x hx ho m1 hf hZ
    have hP := hZ.1.1
    have h2 := hZ.1.2.1.1 0 (by omega)
    have ml := mkd_lt hR
    have xl : mkd B ch ^^^ (mkd B ch &&& x) < 2 ^ 12 := by
      have : (2 : Nat) ^ npN L ≤ 2 ^ 12 := Nat.pow_le_pow_right (by omega) hnp.2
      exact Nat.xor_lt_two_pow (by omega) (Nat.lt_of_le_of_lt Nat.and_le_left (by omega))
    refine up_ind (npN L) (fun k hk ih be z hbe hz => ?_)
    have lr := lgB_rg (tgM B ch 0 0) (L.2.1 0) b k
    have ls : lgB (tgM B ch 0 0) (L.2.1 0) b (k + 1) = if 0 < tgM B ch 0 0 k ∧ ¬ tb b (k : Int) = true ∧ (lgB (tgM B ch 0 0) (L.2.1 0) b k < 0 ∨ L.2.1 0 (lgB (tgM B ch 0 0) (L.2.1 0) b k).toNat < L.2.1 0 k) then (k : Int) else lgB (tgM B ch 0 0) (L.2.1 0) b k := rfl
    have b1 : (lgB (tgM B ch 0 0) (L.2.1 0) b k < 0 ∧ be = -4) ∨ (0 ≤ lgB (tgM B ch 0 0) (L.2.1 0) b k ∧ be = lgB (tgM B ch 0 0) (L.2.1 0) b k) := by
      by_cases q : lgB (tgM B ch 0 0) (L.2.1 0) b k < 0
      · rw [if_pos q] at hbe; exact Or.inl ⟨q, hbe⟩
      · rw [if_neg q] at hbe; exact Or.inr ⟨by omega, hbe⟩
    refine R_iload 31 rfl dX11_next_29 rfl ?_
    refine R_aload_n 32 rfl dX11_next_31 rfl ?_
    refine R_getP 12 35 rfl dX11_next_32 rfl rfl fl_X11_22 (hP _ _ _ rfl) ?_
    refine R_iconst 36 rfl dX11_next_35 ?_
    refine R_iald 0 37 rfl dX11_next_36 rfl (by first | rfl | omega) (by decide) (by decide) ?_
    rw [h2]
    refine R_icmp_ge 40 85 rfl rfl dX11_next_37 (by first | assumption | exact ⟨by omega, by omega⟩) (by first | assumption | exact ⟨by omega, by omega⟩) (fun h37 => ?_) (fun h37 => ?_)
    · refine R_iload_n 86 rfl dX11_next_85 rfl ?_
      refine R_ireturn dX11_next_86 rfl ?_
      exact QI_mk ⟨by unfold a_next; rw [if_pos ho, hbe, show k = npN L by omega], hf, hZ.1⟩
    · have g3 := hR.2.2.1.2.2.1 k (by omega)
      have tm := tg_rg L B ch 0 0 hO.1 k (by omega)
      have mb := mkd_bit (ch := ch) hO k
      have ab := and1 (mkd B ch ^^^ (mkd B ch &&& x)) k
      rw [andn_bit] at ab
      have tb2 := tb_2 (((mkd B ch ^^^ (mkd B ch &&& x) : Nat) : Int) / 2 ^ k)
      have tx : tb b (k : Int) = x.testBit k := by rw [hx, tb_bit]
      obtain rfl : z = (k : Int) := hz
      refine R_iload_n 41 rfl dX11_next_40 rfl ?_
      refine R_iload 43 rfl dX11_next_41 rfl ?_
      refine R_ishr 44 rfl dX11_next_43 (by first | assumption | exact ⟨by omega, by omega⟩) (by omega) (by omega) ?_
      rw [Int.toNat_natCast]
      refine R_iconst 45 rfl dX11_next_44 ?_
      refine R_iand1 46 rfl dX11_next_45 ?_
      refine R_iconst 47 rfl dX11_next_46 ?_
      refine R_icmp_ne 50 77 rfl rfl dX11_next_47 (by first | assumption | exact ⟨by omega, by omega⟩) (by first | assumption | exact ⟨by omega, by omega⟩) (fun h47 => ?_) (fun h47 => ?_)
      · refine R_iload_n 78 rfl dX11_next_77 rfl ?_
        refine R_istore_n [_, _, _, _, _] 79 rfl dX11_next_78 rfl (by decide) ?_
        refine R_iinc [_, _, _, _, _] 82 rfl dX11_next_79 rfl rfl (by decide) ?_
        refine R_goto 29 rfl dX11_next_82 ?_
        first
          | (have q1 := ab.mp (by omega)
             simp only [Bool.and_eq_true, Bool.not_eq_true'] at q1
             have q2 := mb.mp q1.1
             have q3 : ¬ tb b (k : Int) = true := by rw [tx, q1.2]; simp
             first
               | (rw [if_pos ⟨by omega, q3, by omega⟩] at ls
                  exact ih (by omega) _ _ (by rw [ls, if_neg (by omega)]) (by omega))
               | (rw [if_neg (fun q => by have := q.2.2; omega)] at ls
                  exact ih (by omega) _ _ (by rw [ls]; exact hbe) (by omega)))
          | (have q1 : ¬ ((mkd B ch).testBit k && !x.testBit k) = true := fun q => by have := ab.mpr q; omega
             rw [if_neg (fun q => q1 (by rw [mb.mpr (by omega)]; have := q.2.1; rw [tx] at this; simp at this; simp [this]))] at ls
             exact ih (by omega) _ _ (by rw [ls]; exact hbe) (by omega))
      · refine R_iload_n 51 rfl dX11_next_50 rfl ?_
        refine R_bipush 53 rfl dX11_next_51 (by decide) ?_
        refine R_icmp_eq 56 72 rfl rfl dX11_next_53 (by first | assumption | exact ⟨by omega, by omega⟩) (by first | assumption | exact ⟨by omega, by omega⟩) (fun h53 => ?_) (fun h53 => ?_)
        · refine R_iload 74 rfl dX11_next_72 rfl ?_
          refine R_goto 78 rfl dX11_next_74 ?_
          refine R_istore_n [_, _, _, _, _] 79 rfl dX11_next_78 rfl (by decide) ?_
          refine R_iinc [_, _, _, _, _] 82 rfl dX11_next_79 rfl rfl (by decide) ?_
          refine R_goto 29 rfl dX11_next_82 ?_
          first
            | (have q1 := ab.mp (by omega)
               simp only [Bool.and_eq_true, Bool.not_eq_true'] at q1
               have q2 := mb.mp q1.1
               have q3 : ¬ tb b (k : Int) = true := by rw [tx, q1.2]; simp
               first
                 | (rw [if_pos ⟨by omega, q3, by omega⟩] at ls
                    exact ih (by omega) _ _ (by rw [ls, if_neg (by omega)]) (by omega))
                 | (rw [if_neg (fun q => by have := q.2.2; omega)] at ls
                    exact ih (by omega) _ _ (by rw [ls]; exact hbe) (by omega)))
            | (have q1 : ¬ ((mkd B ch).testBit k && !x.testBit k) = true := fun q => by have := ab.mpr q; omega
               rw [if_neg (fun q => q1 (by rw [mb.mpr (by omega)]; have := q.2.1; rw [tx] at this; simp at this; simp [this]))] at ls
               exact ih (by omega) _ _ (by rw [ls]; exact hbe) (by omega))
        · have g4 := hR.2.2.1.2.2.1 (lgB (tgM B ch 0 0) (L.2.1 0) b k).toNat (by omega)
          refine R_aload_n 57 rfl dX11_next_56 rfl ?_
          refine R_iload 59 rfl dX11_next_57 rfl ?_
          refine R_iconst 60 rfl dX11_next_59 ?_
          refine R_callV_i (M' := mX11_parishOf) 63 rfl dX11_next_60 ml_X11_156 kmX11_parishOf im_X11_parishOf se_X11_parishOf rfl ⟨by decide, rfl⟩ (c_X11_parishOf _ _ k 0 hZ.1 (by omega) (by omega) (by omega) (by omega)) rfl rfl ⟨Nat.le_of_ble_eq_true rfl, Nat.le_of_ble_eq_true rfl⟩ (Nat.le_of_ble_eq_true rfl) ⟨Nat.le_of_ble_eq_true rfl, Nat.le_of_ble_eq_true rfl⟩ ?_
          refine R_aload_n 64 rfl dX11_next_63 rfl ?_
          refine R_iload_n 65 rfl dX11_next_64 rfl ?_
          refine R_iconst 66 rfl dX11_next_65 ?_
          refine R_callV_i (M' := mX11_parishOf) 69 rfl dX11_next_66 ml_X11_156 kmX11_parishOf im_X11_parishOf se_X11_parishOf rfl ⟨by decide, rfl⟩ (c_X11_parishOf _ _ (lgB (tgM B ch 0 0) (L.2.1 0) b k).toNat 0 hZ.1 (by omega) (by omega) (by omega) (by omega)) rfl rfl ⟨Nat.le_of_ble_eq_true rfl, Nat.le_of_ble_eq_true rfl⟩ (Nat.le_of_ble_eq_true rfl) ⟨Nat.le_of_ble_eq_true rfl, Nat.le_of_ble_eq_true rfl⟩ ?_
          refine R_icmp_le 72 77 rfl rfl dX11_next_69 (by first | assumption | exact ⟨by omega, by omega⟩) (by first | assumption | exact ⟨by omega, by omega⟩) (fun h69 => ?_) (fun h69 => ?_)
          · refine R_iload_n 78 rfl dX11_next_77 rfl ?_
            refine R_istore_n [_, _, _, _, _] 79 rfl dX11_next_78 rfl (by decide) ?_
            refine R_iinc [_, _, _, _, _] 82 rfl dX11_next_79 rfl rfl (by decide) ?_
            refine R_goto 29 rfl dX11_next_82 ?_
            first
              | (have q1 := ab.mp (by omega)
                 simp only [Bool.and_eq_true, Bool.not_eq_true'] at q1
                 have q2 := mb.mp q1.1
                 have q3 : ¬ tb b (k : Int) = true := by rw [tx, q1.2]; simp
                 first
                   | (rw [if_pos ⟨by omega, q3, by omega⟩] at ls
                      exact ih (by omega) _ _ (by rw [ls, if_neg (by omega)]) (by omega))
                   | (rw [if_neg (fun q => by have := q.2.2; omega)] at ls
                      exact ih (by omega) _ _ (by rw [ls]; exact hbe) (by omega)))
              | (have q1 : ¬ ((mkd B ch).testBit k && !x.testBit k) = true := fun q => by have := ab.mpr q; omega
                 rw [if_neg (fun q => q1 (by rw [mb.mpr (by omega)]; have := q.2.1; rw [tx] at this; simp at this; simp [this]))] at ls
                 exact ih (by omega) _ _ (by rw [ls]; exact hbe) (by omega))
          · refine R_iload 74 rfl dX11_next_72 rfl ?_
            refine R_goto 78 rfl dX11_next_74 ?_
            refine R_istore_n [_, _, _, _, _] 79 rfl dX11_next_78 rfl (by decide) ?_
            refine R_iinc [_, _, _, _, _] 82 rfl dX11_next_79 rfl rfl (by decide) ?_
            refine R_goto 29 rfl dX11_next_82 ?_
            first
              | (have q1 := ab.mp (by omega)
                 simp only [Bool.and_eq_true, Bool.not_eq_true'] at q1
                 have q2 := mb.mp q1.1
                 have q3 : ¬ tb b (k : Int) = true := by rw [tx, q1.2]; simp
                 first
                   | (rw [if_pos ⟨by omega, q3, by omega⟩] at ls
                      exact ih (by omega) _ _ (by rw [ls, if_neg (by omega)]) (by omega))
                   | (rw [if_neg (fun q => by have := q.2.2; omega)] at ls
                      exact ih (by omega) _ _ (by rw [ls]; exact hbe) (by omega)))
              | (have q1 : ¬ ((mkd B ch).testBit k && !x.testBit k) = true := fun q => by have := ab.mpr q; omega
                 rw [if_neg (fun q => q1 (by rw [mb.mpr (by omega)]; have := q.2.1; rw [tx] at this; simp at this; simp [this]))] at ls
                 exact ih (by omega) _ _ (by rw [ls]; exact hbe) (by omega))
  refine R_aload_n 1 rfl dX11_next_0 rfl ?_
  refine R_callV_V (M' := mX11_layKinds) 4 rfl dX11_next_1 ml_X11_227 kmX11_layKinds im_X11_layKinds se_X11_layKinds rfl ⟨by decide, rfl⟩ (c_X11_layKinds hR) rfl rfl ⟨Nat.le_of_ble_eq_true rfl, Nat.le_of_ble_eq_true rfl⟩ (Nat.le_of_ble_eq_true rfl) ⟨Nat.le_of_ble_eq_true rfl, Nat.le_of_ble_eq_true rfl⟩ ?_
  rintro m1 h1
  obtain ⟨f1, z1⟩ := h1
  have hW := z1.w
  refine R_aload_n 5 rfl dX11_next_4 rfl ?_
  refine R_iload_n 6 rfl dX11_next_5 rfl ?_
  refine R_callV_i (M' := mX11_areDrawn) 9 rfl dX11_next_6 ml_X11_297 kmX11_areDrawn im_X11_areDrawn se_X11_areDrawn rfl ⟨by decide, rfl⟩ (c_X11_areDrawn _ hW (by first | assumption | exact ⟨by omega, by omega⟩)) rfl rfl ⟨Nat.le_of_ble_eq_true rfl, Nat.le_of_ble_eq_true rfl⟩ (Nat.le_of_ble_eq_true rfl) ⟨Nat.le_of_ble_eq_true rfl, Nat.le_of_ble_eq_true rfl⟩ ?_
  refine R_ifp_ne 12 14 rfl rfl dX11_next_9 (fun h9 => ?_) (fun h9 => ?_)
  · obtain ⟨x, hx, hx2⟩ := bn_lt h9.1
    subst hx
    refine R_aload_n 15 rfl dX11_next_14 rfl ?_
    refine R_callV_i (M' := mX11_marked) 18 rfl dX11_next_15 ml_X11_294 kmX11_marked im_X11_marked se_X11_marked rfl ⟨by decide, rfl⟩ (c_X11_marked hW) rfl rfl ⟨Nat.le_of_ble_eq_true rfl, Nat.le_of_ble_eq_true rfl⟩ (Nat.le_of_ble_eq_true rfl) ⟨Nat.le_of_ble_eq_true rfl, Nat.le_of_ble_eq_true rfl⟩ ?_
    refine R_iload_n 19 rfl dX11_next_18 rfl ?_
    refine R_iconst 20 rfl dX11_next_19 ?_
    refine R_inot 21 rfl dX11_next_20 ?_
    refine R_iandn 22 rfl dX11_next_21 ?_
    refine R_istore_n [_, _, _, _, _] 23 rfl dX11_next_22 rfl (by decide) ?_
    refine R_bipush 25 rfl dX11_next_23 (by decide) ?_
    refine R_istore_n [_, _, _, _, _] 26 rfl dX11_next_25 rfl (by decide) ?_
    refine R_iconst 27 rfl dX11_next_26 ?_
    refine R_istore [_, _, _, _, _] 29 rfl dX11_next_27 rfl (by decide) ?_
    exact Lp x rfl h9 _ f1 z1 0 (by omega) _ _ (by simp [lgB]) rfl
  · refine R_iconst 13 rfl dX11_next_12 ?_
    refine R_ireturn dX11_next_13 rfl ?_
    exact QI_mk ⟨by unfold a_next; rw [if_neg h9], f1, z1.1⟩
set_option maxHeartbeats 1000000 in
theorem c_X11_span (b w : Int) (hR : RS L B ch m) (hb : rg b) (hw : rg w) : C Γ mX11_span 7 280 0 0 [vr 96, vi b, vi w] SH m (QN L B ch m (a_span L B ch b w)) := by
  refine C_of_R rfl (Nat.le_of_ble_eq_true rfl) ?_
  have hl := hR.2.2.1.1
  have hnp := npN_le hR.2.2.1
  have hO := hR.2.2.2.2.1
  have hLO := hR.2.2.1
  have h0 := allB_rg hR.2.2.1
  have h8 := spD_rg (ch := ch) (n := npN L) hO
  have h7 := sumW_rg hLO
  have Lp : ∀ x : Nat, b = (x : Int) → (0 ≤ b ∧ b ≤ allB L) ∧ (0 ≤ w ∧ w ≤ 3) → aHM (tgM B ch 0 0) b (npN L) = true → 0 < sumN (L.2.1 0) (npN L) → ∀ k, k ≤ npN L → ∀ z m1, Fm m m1 → RZ L B ch m1 → RtM m1 (sumN (spX L B ch b w) k) (spD B ch (npN L) * sumN (L.2.1 0) (npN L)) → z = (k : Int) → R Γ mX11_span { frames := 7, cells := 0, slots := 0, locals := 280 } 0 0 (QN L B ch m (a_span L B ch b w)) 0 0 53 [some (vr 96), some (vi b), some (vi w), some (vi (sumN (L.2.1 0) (npN L))), some (vi z)] [] SH m1 := by
    intro x hx ho ha hs
    have dl := mulb (x := spD B ch (npN L)) (y := sumN (L.2.1 0) (npN L)) (X := 5300000000000) (Y := 11988) (by omega) (by omega)
    have dp : 0 < spD B ch (npN L) * sumN (L.2.1 0) (npN L) := Int.mul_pos h8.1 hs
    have xr : ∀ j, j < npN L → 0 ≤ spX L B ch b w j ∧ spX L B ch b w j ≤ 999 * spD B ch (npN L) := fun j hj => by
      have g3 := hLO.2.2.1 j (by omega)
      have t := spT_rg hO hLO ha j hj
      have u := mulb (x := L.2.1 0 j) (y := spD B ch (npN L)) (X := 999) (Y := spD B ch (npN L)) (by omega) (by omega)
      unfold spX
      split
      · exact t
      · split <;> omega
    have sb : ∀ k, k ≤ npN L → 0 ≤ sumN (spX L B ch b w) k ∧ sumN (spX L B ch b w) k ≤ 11988 * spD B ch (npN L) := fun k hk => by
      have := sumN_rg (f := spX L B ch b w) (c := 999 * spD B ch (npN L)) (n := k) (fun j hj => xr j (by omega))
      have h2 : 999 * spD B ch (npN L) * (k : Int) ≤ 999 * spD B ch (npN L) * 12 := Int.mul_le_mul_of_nonneg_left (by omega) (by omega)
      omega
    refine up_ind (npN L) (fun k hk ih z m1 hf hZ hr hz => ?_)
    have hP := hZ.1.1
    have h2 := hZ.1.2.1.1 0 (by omega)
    have ns : sumN (spX L B ch b w) (k + 1) = sumN (spX L B ch b w) k + spX L B ch b w k := rfl
    have s0 := sb k hk
    refine R_iload 55 rfl dX11_span_53 rfl ?_
    refine R_aload_n 56 rfl dX11_span_55 rfl ?_
    refine R_getP 12 59 rfl dX11_span_56 rfl rfl fl_X11_22 (hP _ _ _ rfl) ?_
    refine R_iconst 60 rfl dX11_span_59 ?_
    refine R_iald 0 61 rfl dX11_span_60 rfl (by first | rfl | omega) (by decide) (by decide) ?_
    rw [h2]
    refine R_icmp_ge 64 136 rfl rfl dX11_span_61 (by first | assumption | exact ⟨by omega, by omega⟩) (by first | assumption | exact ⟨by omega, by omega⟩) (fun h61 => ?_) (fun h61 => ?_)
    · refine R_iload_n 137 rfl dX11_span_136 rfl ?_
      refine R_iconst 138 rfl dX11_span_137 ?_
      refine R_irem_p 139 rfl dX11_span_138 (by first | assumption | exact ⟨by omega, by omega⟩) (by first | assumption | exact ⟨by omega, by omega⟩) (by omega) (by omega) ?_
      refine R_if_ne 142 149 rfl rfl dX11_span_139 (by first | assumption | exact ⟨by omega, by omega⟩) (fun h139 => ?_) (fun h139 => ?_)
      · refine R_aload_n 150 rfl dX11_span_149 rfl ?_
        refine R_getL 29 153 rfl dX11_span_150 rfl rfl fl_X11_291 ?_
        refine R_lreturn dX11_span_153 rfl ?_
        have ek : k = npN L := by omega
        subst ek
        rw [spX_sum] at hr
        refine QL_mk ⟨Eq.symm ?_, hf, hZ.1⟩
        rw [a_span, spV, if_pos ⟨ho, ha⟩, if_neg (by omega)]
        first
          | (rw [if_pos (by omega)]; exact hr.1.symm)
          | (rw [if_neg (by omega)]; exact hr.2.symm)
      · refine R_aload_n 143 rfl dX11_span_142 rfl ?_
        refine R_getL 28 146 rfl dX11_span_143 rfl rfl fl_X11_287 ?_
        refine R_goto 153 rfl dX11_span_146 ?_
        refine R_lreturn dX11_span_153 rfl ?_
        have ek : k = npN L := by omega
        subst ek
        rw [spX_sum] at hr
        refine QL_mk ⟨Eq.symm ?_, hf, hZ.1⟩
        rw [a_span, spV, if_pos ⟨ho, ha⟩, if_neg (by omega)]
        first
          | (rw [if_pos (by omega)]; exact hr.1.symm)
          | (rw [if_neg (by omega)]; exact hr.2.symm)
    · have g3 := hLO.2.2.1 k (by omega)
      have tm := tg_rg L B ch 0 0 hO.1 k (by omega)
      have s1 := sb (k + 1) (by omega)
      rw [ns] at s1
      have ab := and1 x k
      rw [← tb_bit, ← hx] at ab
      have tb2 := tb_2 (b / 2 ^ k)
      obtain rfl : z = (k : Int) := hz
      refine R_iload_n 65 rfl dX11_span_64 rfl ?_
      refine R_iload 67 rfl dX11_span_65 rfl ?_
      refine R_ishr 68 rfl dX11_span_67 (by first | assumption | exact ⟨by omega, by omega⟩) (by omega) (by omega) ?_
      rw [Int.toNat_natCast]
      refine R_iconst 69 rfl dX11_span_68 ?_
      refine R_iand1 70 rfl dX11_span_69 ?_
      refine R_iconst 71 rfl dX11_span_70 ?_
      refine R_icmp_ne 74 111 rfl rfl dX11_span_71 (by first | assumption | exact ⟨by omega, by omega⟩) (by first | assumption | exact ⟨by omega, by omega⟩) (fun h71 => ?_) (fun h71 => ?_)
      · refine R_iload_n 112 rfl dX11_span_111 rfl ?_
        refine R_iconst 113 rfl dX11_span_112 ?_
        refine R_icmp_le 116 130 rfl rfl dX11_span_113 (by first | assumption | exact ⟨by omega, by omega⟩) (by first | assumption | exact ⟨by omega, by omega⟩) (fun h113 => ?_) (fun h113 => ?_)
        · refine R_iinc [_, _, _, _, _] 133 rfl dX11_span_130 rfl rfl (by decide) ?_
          refine R_goto 53 rfl dX11_span_133 ?_
          first
            | exact ih (by omega) _ _ ((hf.tr f79).tr f105.m) (f105.z z79) (by rw [ns]; exact r105) (by omega)
            | exact ih (by omega) _ _ (hf.tr f127.m) (f127.z hZ) (by rw [ns]; exact r127) (by omega)
            | exact ih (by omega) _ _ hf hZ (by rw [ns, show spX L B ch b w k = 0 by (unfold spX; rw [if_neg (fun q => by have := ab.mpr q; omega), if_neg (by omega)]), Int.add_zero]; exact hr) (by omega)
        · have tbn : ¬ tb b (k : Int) = true := fun q => by have := ab.mpr q; omega
          have xe : spX L B ch b w k = L.2.1 0 k * spD B ch (npN L) := by unfold spX; rw [if_neg tbn, if_pos (by omega)]
          rw [xe] at s1 ns
          refine R_aload_n 117 rfl dX11_span_116 rfl ?_
          refine R_aload_n 118 rfl dX11_span_117 rfl ?_
          refine R_iload 120 rfl dX11_span_118 rfl ?_
          refine R_iconst 121 rfl dX11_span_120 ?_
          refine R_callV_i (M' := mX11_parishOf) 124 rfl dX11_span_121 ml_X11_156 kmX11_parishOf im_X11_parishOf se_X11_parishOf rfl ⟨by decide, rfl⟩ (c_X11_parishOf _ _ k 0 hZ.1 (by omega) (by omega) (by omega) (by omega)) rfl rfl ⟨Nat.le_of_ble_eq_true rfl, Nat.le_of_ble_eq_true rfl⟩ (Nat.le_of_ble_eq_true rfl) ⟨Nat.le_of_ble_eq_true rfl, Nat.le_of_ble_eq_true rfl⟩ ?_
          refine R_i2l 125 rfl dX11_span_124 (by first | assumption | exact ⟨by omega, by omega⟩) ?_
          refine R_iload_n 126 rfl dX11_span_125 rfl ?_
          refine R_i2l 127 rfl dX11_span_126 (by first | assumption | exact ⟨by omega, by omega⟩) ?_
          refine R_callV_V (M' := mX11_plus) 130 rfl dX11_span_127 ml_X11_310 kmX11_plus im_X11_plus se_X11_plus rfl ⟨by decide, rfl⟩ (c_X11_plus (sumN (spX L B ch b w) k) (spD B ch (npN L) * sumN (L.2.1 0) (npN L)) (L.2.1 0 k) (sumN (L.2.1 0) (npN L)) (spD B ch (npN L)) hr ⟨dp, by omega⟩ hs (Int.mul_comm _ _) ⟨by omega, by omega⟩ ⟨by omega, by omega⟩) rfl rfl ⟨Nat.le_of_ble_eq_true rfl, Nat.le_of_ble_eq_true rfl⟩ (Nat.le_of_ble_eq_true rfl) ⟨Nat.le_of_ble_eq_true rfl, Nat.le_of_ble_eq_true rfl⟩ ?_
          rintro m127 h127
          obtain ⟨f127, r127⟩ := h127
          refine R_iinc [_, _, _, _, _] 133 rfl dX11_span_130 rfl rfl (by decide) ?_
          refine R_goto 53 rfl dX11_span_133 ?_
          first
            | exact ih (by omega) _ _ ((hf.tr f79).tr f105.m) (f105.z z79) (by rw [ns]; exact r105) (by omega)
            | exact ih (by omega) _ _ (hf.tr f127.m) (f127.z hZ) (by rw [ns]; exact r127) (by omega)
            | exact ih (by omega) _ _ hf hZ (by rw [ns, show spX L B ch b w k = 0 by (unfold spX; rw [if_neg (fun q => by have := ab.mpr q; omega), if_neg (by omega)]), Int.add_zero]; exact hr) (by omega)
      · have tbk := ab.mp (by omega)
        have q4 : tgM B ch 0 0 k ≠ 0 := by have := (allN_iff _ _).mp ha k (by omega); simp [tbk] at this; exact this
        have xe : spX L B ch b w k = tgA L B ch 0 0 k * L.2.1 0 k * (spD B ch (npN L) / tgM B ch 0 0 k) := by unfold spX; rw [if_pos tbk]; exact if_pos tbk
        rw [xe] at s1 ns
        have dv := spD_dv (B := B) (ch := ch) (n := npN L) (p := k) (by omega) q4
        have u1 := mulb (x := tgA L B ch 0 0 k) (y := L.2.1 0 k) (X := 80) (Y := 999) (by omega) (by omega)
        have u2 : 0 < tgM B ch 0 0 k * sumN (L.2.1 0) (npN L) := Int.mul_pos (by omega) hs
        refine R_aload_n 75 rfl dX11_span_74 rfl ?_
        refine R_iconst 76 rfl dX11_span_75 ?_
        refine R_iconst 77 rfl dX11_span_76 ?_
        refine R_iload 79 rfl dX11_span_77 rfl ?_
        refine R_callV_V (M' := mX11_tally) 82 rfl dX11_span_79 ml_X11_230 kmX11_tally im_X11_tally se_X11_tally rfl ⟨by decide, rfl⟩ (c_X11_tallyK _ _ _ 0 hZ rfl (by decide) (Or.inr (by omega)) ⟨by omega, by omega⟩) rfl rfl ⟨Nat.le_of_ble_eq_true rfl, Nat.le_of_ble_eq_true rfl⟩ (Nat.le_of_ble_eq_true rfl) ⟨Nat.le_of_ble_eq_true rfl, Nat.le_of_ble_eq_true rfl⟩ ?_
        rintro m79 h79
        obtain ⟨f79, z79, a79, b79, r79⟩ := h79
        rw [ty_gM (by omega)] at a79
        rw [ty_gA (by omega)] at b79
        refine R_aload_n 83 rfl dX11_span_82 rfl ?_
        refine R_aload_n 84 rfl dX11_span_83 rfl ?_
        refine R_getI 23 87 rfl dX11_span_84 rfl rfl fl_X11_237 ?_
        rw [b79]
        refine R_i2l 88 rfl dX11_span_87 (by first | assumption | exact ⟨by omega, by omega⟩) ?_
        refine R_aload_n 89 rfl dX11_span_88 rfl ?_
        refine R_iload 91 rfl dX11_span_89 rfl ?_
        refine R_iconst 92 rfl dX11_span_91 ?_
        refine R_callV_i (M' := mX11_parishOf) 95 rfl dX11_span_92 ml_X11_156 kmX11_parishOf im_X11_parishOf se_X11_parishOf rfl ⟨by decide, rfl⟩ (c_X11_parishOf _ _ k 0 z79.1 (by omega) (by omega) (by omega) (by omega)) rfl rfl ⟨Nat.le_of_ble_eq_true rfl, Nat.le_of_ble_eq_true rfl⟩ (Nat.le_of_ble_eq_true rfl) ⟨Nat.le_of_ble_eq_true rfl, Nat.le_of_ble_eq_true rfl⟩ ?_
        refine R_i2l 96 rfl dX11_span_95 (by first | assumption | exact ⟨by omega, by omega⟩) ?_
        refine R_lmul 97 rfl dX11_span_96 ?_
        refine R_aload_n 98 rfl dX11_span_97 rfl ?_
        refine R_getI 22 101 rfl dX11_span_98 rfl rfl fl_X11_234 ?_
        rw [a79]
        refine R_i2l 102 rfl dX11_span_101 (by first | assumption | exact ⟨by omega, by omega⟩) ?_
        refine R_iload_n 103 rfl dX11_span_102 rfl ?_
        refine R_i2l 104 rfl dX11_span_103 (by first | assumption | exact ⟨by omega, by omega⟩) ?_
        refine R_lmul 105 rfl dX11_span_104 ?_
        refine R_callV_V (M' := mX11_plus) 108 rfl dX11_span_105 ml_X11_310 kmX11_plus im_X11_plus se_X11_plus rfl ⟨by decide, rfl⟩ (c_X11_plus (sumN (spX L B ch b w) k) (spD B ch (npN L) * sumN (L.2.1 0) (npN L)) (tgA L B ch 0 0 k * L.2.1 0 k) (tgM B ch 0 0 k * sumN (L.2.1 0) (npN L)) (spD B ch (npN L) / tgM B ch 0 0 k) ⟨(r79 28 (by decide) (by decide)).trans hr.1, (r79 29 (by decide) (by decide)).trans hr.2⟩ ⟨dp, by omega⟩ u2 (by rw [Int.mul_assoc, Int.mul_comm (sumN (L.2.1 0) (npN L)), ← Int.mul_assoc, Int.mul_ediv_cancel' dv]) ⟨by omega, by omega⟩ ⟨by omega, by omega⟩) rfl rfl ⟨Nat.le_of_ble_eq_true rfl, Nat.le_of_ble_eq_true rfl⟩ (Nat.le_of_ble_eq_true rfl) ⟨Nat.le_of_ble_eq_true rfl, Nat.le_of_ble_eq_true rfl⟩ ?_
        rintro m105 h105
        obtain ⟨f105, r105⟩ := h105
        refine R_goto 130 rfl dX11_span_108 ?_
        refine R_iinc [_, _, _, _, _] 133 rfl dX11_span_130 rfl rfl (by decide) ?_
        refine R_goto 53 rfl dX11_span_133 ?_
        first
          | exact ih (by omega) _ _ ((hf.tr f79).tr f105.m) (f105.z z79) (by rw [ns]; exact r105) (by omega)
          | exact ih (by omega) _ _ (hf.tr f127.m) (f127.z hZ) (by rw [ns]; exact r127) (by omega)
          | exact ih (by omega) _ _ hf hZ (by rw [ns, show spX L B ch b w k = 0 by (unfold spX; rw [if_neg (fun q => by have := ab.mpr q; omega), if_neg (by omega)]), Int.add_zero]; exact hr) (by omega)
  have sp : 0 < npN L → 0 < sumN (L.2.1 0) (npN L) := by
    intro q
    have key : ∀ n, n ≤ npN L → (n : Int) ≤ sumN (L.2.1 0) n := by
      intro n
      induction n with
      | zero => intro _; simp [sumN]
      | succ n ih =>
        intro hn
        have := ih (by omega)
        have g3 := hLO.2.2.1 n (by omega)
        show ((n + 1 : Nat) : Int) ≤ sumN (L.2.1 0) n + L.2.1 0 n
        omega
    have := key _ (Nat.le_refl _)
    omega
  refine R_aload_n 1 rfl dX11_span_0 rfl ?_
  refine R_callV_V (M' := mX11_layKinds) 4 rfl dX11_span_1 ml_X11_227 kmX11_layKinds im_X11_layKinds se_X11_layKinds rfl ⟨by decide, rfl⟩ (c_X11_layKinds hR) rfl rfl ⟨Nat.le_of_ble_eq_true rfl, Nat.le_of_ble_eq_true rfl⟩ (Nat.le_of_ble_eq_true rfl) ⟨Nat.le_of_ble_eq_true rfl, Nat.le_of_ble_eq_true rfl⟩ ?_
  rintro m1 h1
  obtain ⟨f1, z1⟩ := h1
  have hW := z1.w
  have hP := z1.1.1
  refine R_aload_n 5 rfl dX11_span_4 rfl ?_
  refine R_iload_n 6 rfl dX11_span_5 rfl ?_
  refine R_callV_i (M' := mX11_areDrawn) 9 rfl dX11_span_6 ml_X11_297 kmX11_areDrawn im_X11_areDrawn se_X11_areDrawn rfl ⟨by decide, rfl⟩ (c_X11_areDrawn _ hW (by first | assumption | exact ⟨by omega, by omega⟩)) rfl rfl ⟨Nat.le_of_ble_eq_true rfl, Nat.le_of_ble_eq_true rfl⟩ (Nat.le_of_ble_eq_true rfl) ⟨Nat.le_of_ble_eq_true rfl, Nat.le_of_ble_eq_true rfl⟩ ?_
  refine R_ifp_eq 12 24 rfl rfl dX11_span_9 (fun h9 => ?_) (fun h9 => ?_)
  · refine R_ldc2 (-1) 27 rfl dX11_span_24 kl_X11_300 (by decide) ?_
    refine R_lreturn dX11_span_27 rfl ?_
    exact QL_mk ⟨by unfold a_span; rw [if_neg (fun q => by first | exact h9 ⟨q.1.1, q.2⟩ | (have := q.1.2; omega))], f1, z1.1⟩
  · refine R_iload_n 13 rfl dX11_span_12 rfl ?_
    refine R_i2l 14 rfl dX11_span_13 (by first | assumption | exact ⟨by omega, by omega⟩) ?_
    refine R_lconst 15 rfl dX11_span_14 ?_
    refine R_topL (b := 0) rfl ?_
    refine R_ldc2 (3) 18 rfl dX11_span_15 kl_X11_225 (by decide) ?_
    refine R_callS_i (M' := mX11_in) 21 rfl dX11_span_18 ml_X11_63 kmX11_in st_X11_in (c_X11_in _ _ _ (by first | assumption | exact ⟨by omega, by omega⟩ | exact rg_L (by assumption)) (by first | assumption | exact ⟨by omega, by omega⟩ | exact rg_L (by assumption)) (by first | assumption | exact ⟨by omega, by omega⟩ | exact rg_L (by assumption))) rfl rfl ⟨Nat.le_of_ble_eq_true rfl, Nat.le_of_ble_eq_true rfl⟩ (Nat.le_of_ble_eq_true rfl) ⟨Nat.le_of_ble_eq_true rfl, Nat.le_of_ble_eq_true rfl⟩ ?_
    refine R_ifp_ne 24 28 rfl rfl dX11_span_21 (fun h21 => ?_) (fun h21 => ?_)
    · refine R_aload_n 29 rfl dX11_span_28 rfl ?_
      refine R_getP 12 32 rfl dX11_span_29 rfl rfl fl_X11_22 (hP _ _ _ rfl) ?_
      refine R_iconst 33 rfl dX11_span_32 ?_
      refine R_iald 0 34 rfl dX11_span_33 rfl (by first | rfl | omega) (by decide) (by decide) ?_
      rw [z1.1.2.1.1 0 (by omega)]
      refine R_if_ne 37 41 rfl rfl dX11_span_34 (by first | assumption | exact ⟨by omega, by omega⟩) (fun h34 => ?_) (fun h34 => ?_)
      · refine R_aload_n 42 rfl dX11_span_41 rfl ?_
        refine R_callV_V (M' := mX11_nothing) 45 rfl dX11_span_42 ml_X11_304 kmX11_nothing im_X11_nothing se_X11_nothing rfl ⟨by decide, rfl⟩ (c_X11_nothing hP) rfl rfl ⟨Nat.le_of_ble_eq_true rfl, Nat.le_of_ble_eq_true rfl⟩ (Nat.le_of_ble_eq_true rfl) ⟨Nat.le_of_ble_eq_true rfl, Nat.le_of_ble_eq_true rfl⟩ ?_
        rintro m42 h42
        obtain ⟨f42, r42⟩ := h42
        have z42 := f42.z z1
        have hR2 := z42.1
        clear hP
        have hP := z42.1.1
        refine R_aload_n 46 rfl dX11_span_45 rfl ?_
        refine R_callV_i (M' := mX11_allMarriages) 49 rfl dX11_span_46 ml_X11_307 kmX11_allMarriages im_X11_allMarriages se_X11_allMarriages rfl ⟨by decide, rfl⟩ (c_X11_allMarriages hR2) rfl rfl ⟨Nat.le_of_ble_eq_true rfl, Nat.le_of_ble_eq_true rfl⟩ (Nat.le_of_ble_eq_true rfl) ⟨Nat.le_of_ble_eq_true rfl, Nat.le_of_ble_eq_true rfl⟩ ?_
        refine R_istore_n [_, _, _, _, _] 50 rfl dX11_span_49 rfl (by decide) ?_
        refine R_iconst 51 rfl dX11_span_50 ?_
        refine R_istore [_, _, _, _, _] 53 rfl dX11_span_51 rfl (by decide) ?_
        obtain ⟨x, hx, -⟩ := bn_lt h9.1
        exact Lp x hx ⟨h9.1, by omega⟩ h9.2 (sp (by omega)) 0 (by omega) _ _ (f1.tr f42.m) z42 (RtM_0 r42 (Int.mul_pos h8.1 (sp (by omega)))) rfl
      · refine R_ldc2 (-4) 40 rfl dX11_span_37 kl_X11_302 (by decide) ?_
        refine R_lreturn dX11_span_40 rfl ?_
        have e0 : npN L = 0 := by omega
        exact QL_mk ⟨by unfold a_span spV; rw [if_pos ⟨⟨h9.1, by omega⟩, h9.2⟩, if_pos (by rw [e0]; rfl)], f1, z1.1⟩
    · refine R_ldc2 (-1) 27 rfl dX11_span_24 kl_X11_300 (by decide) ?_
      refine R_lreturn dX11_span_27 rfl ?_
      exact QL_mk ⟨by unfold a_span; rw [if_neg (fun q => by first | exact h9 ⟨q.1.1, q.2⟩ | (have := q.1.2; omega))], f1, z1.1⟩
end
