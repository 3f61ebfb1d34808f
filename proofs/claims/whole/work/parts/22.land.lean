def sumN (f : Nat → Int) : Nat → Int
  | 0 => 0
  | n + 1 => sumN f n + f n
theorem sumN_rg {f : Nat → Int} {c : Int} {n : Nat} (h : ∀ k, k < n → 0 ≤ f k ∧ f k ≤ c) : 0 ≤ sumN f n ∧ sumN f n ≤ c * n := by
  induction n with
  | zero => exact ⟨Int.le_refl 0, by simp [sumN]⟩
  | succ n ih =>
    have h1 := ih (fun k hk => h k (by omega))
    have h2 := h n (by omega)
    have e : c * ((n + 1 : Nat) : Int) = c * n + c := by rw [Int.natCast_add, Int.mul_add]; simp
    unfold sumN
    omega
theorem sumN_congr {f g : Nat → Int} {n : Nat} (h : ∀ k, k < n → f k = g k) : sumN f n = sumN g n := by
  induction n with
  | zero => rfl
  | succ n ih => unfold sumN; rw [ih (fun k hk => h k (by omega)), h n (by omega)]
def npN (L : Ld) : Nat := (L.1 0).toNat
def allB (L : Ld) : Int := 2 ^ npN L - 1
def mOf (L : Ld) (b : Int) : Int := sumN (fun p => if tb b (p : Int) = true then L.2.1 0 p else 0) (npN L)
theorem pow12 : ∀ n : Nat, n ≤ 12 → (1 : Int) ≤ 2 ^ n ∧ (2 : Int) ^ n ≤ 4096 := by decide
theorem npN_le {L : Ld} (h : LdOk L) : (npN L : Int) = L.1 0 ∧ npN L ≤ 12 := by have := h.1; unfold npN; omega
theorem allB_rg {L : Ld} (h : LdOk L) : 0 ≤ allB L ∧ allB L ≤ 4095 := by
  have h1 := pow12 (npN L) (npN_le h).2
  unfold allB; omega
theorem mOf_rg {L : Ld} (h : LdOk L) (b : Int) (n : Nat) (hn : n ≤ npN L) : 0 ≤ sumN (fun p => if tb b (p : Int) = true then L.2.1 0 p else 0) n ∧ sumN (fun p => if tb b (p : Int) = true then L.2.1 0 p else 0) n ≤ 999 * n := by
  refine sumN_rg (fun k hk => ?_)
  have h1 := npN_le h
  have h2 := h.2.2.1 k (by omega)
  split <;> omega
section
variable {Γ : GX} {m : Mem} {B : Bk} {L : Ld} {np : Int} {o d : Nat}
theorem c_X4_allParishes (hL : LdC o m L) (hLO : LdOk L) : C Γ mX4_allParishes 0 0 0 0 [vr o] SH m (Qi SH m (allB L)) := by
  refine C_of_R rfl (Nat.le_of_ble_eq_true rfl) ?_
  have h1 := hLO.1
  rcases hL with ⟨rfl, hL⟩ | ⟨rfl, hL⟩
  all_goals
    have h2 := hL.1
    refine R_iconst 1 rfl dX4_allParishes_0 ?_
    refine R_aload_n 2 rfl dX4_allParishes_1 rfl ?_
    refine R_getI 0 5 rfl dX4_allParishes_2 rfl rfl fl_X4_26 ?_
    refine R_ishl 6 rfl dX4_allParishes_5 (by omega) (by omega) ?_
    refine R_iconst 7 rfl dX4_allParishes_6 ?_
    refine R_isub 8 rfl dX4_allParishes_7 ?_
    refine R_ireturn dX4_allParishes_8 rfl ?_
    exact Qi_mk (by rw [h2.1]; unfold allB npN; rw [Int.one_mul])
theorem c_X4_marriagesOf (b : Int) (hPO : PO o d m) (hL : LdC o m L) (hLO : LdOk L) (hb : rg b) : C Γ mX4_marriagesOf 1 40 0 0 [vr o, vi b] SH m (Qi SH m (mOf L b)) := by
  refine C_of_R rfl (Nat.le_of_ble_eq_true rfl) ?_
  have h1 := hLO.1
  have hP := hPO.2
  have h9 := npN_le hLO
  have Lp : ∀ k, k ≤ npN L → ∀ a z, a = sumN (fun p => if tb b (p : Int) = true then L.2.1 0 p else 0) k → z = (k : Int) → R Γ mX4_marriagesOf { frames := 1, cells := 0, slots := 0, locals := 40 } 0 0 (Qi SH m (mOf L b)) 0 0 4 [some (vr o), some (vi b), some (vi a), some (vi z)] [] SH m := by
    rcases hL with ⟨rfl, hL⟩ | ⟨rfl, hL⟩
    all_goals
      have h2 := hL.1
      refine up_ind (npN L) (fun k hk ih a z ha hz => ?_)
      refine R_iload_n 5 rfl dX4_marriagesOf_4 rfl ?_
      refine R_aload_n 6 rfl dX4_marriagesOf_5 rfl ?_
      refine R_getI 0 9 rfl dX4_marriagesOf_6 rfl rfl fl_X4_26 ?_
      refine R_icmp_ge 12 37 rfl rfl dX4_marriagesOf_9 (by first | assumption | exact ⟨by omega, by omega⟩) (by first | assumption | exact ⟨by omega, by omega⟩) (fun h9 => ?_) (fun h9 => ?_)
      · refine R_iload_n 38 rfl dX4_marriagesOf_37 rfl ?_
        refine R_ireturn dX4_marriagesOf_38 rfl ?_
        exact Qi_mk (by rw [ha, show k = npN L by omega]; rfl)
      · have h4 := hL.2.2.1 k (by omega)
        refine R_iload_n 13 rfl dX4_marriagesOf_12 rfl ?_
        refine R_iload_n 14 rfl dX4_marriagesOf_13 rfl ?_
        refine R_callN_i (M' := mX10_hasBit) 17 rfl dX4_marriagesOf_14 mn_X4_48 kmX10_hasBit st_X10_hasBit (c_X10_hasBit _ _ k hb (by omega) (by omega)) rfl rfl ⟨Nat.le_of_ble_eq_true rfl, Nat.le_of_ble_eq_true rfl⟩ (Nat.le_of_ble_eq_true rfl) ⟨Nat.le_of_ble_eq_true rfl, Nat.le_of_ble_eq_true rfl⟩ ?_
        refine R_ifp_eq 20 31 rfl rfl dX4_marriagesOf_17 (fun h17 => ?_) (fun h17 => ?_)
        · refine R_iinc [_, _, _, _] 34 rfl dX4_marriagesOf_31 rfl rfl (by decide) ?_
          refine R_goto 4 rfl dX4_marriagesOf_34 ?_
          first | exact ih (by omega) _ _ (by unfold sumN; rw [ha, if_pos (by simp [tb]; omega), h4.1]) (by omega) | exact ih (by omega) _ _ (by unfold sumN; rw [ha, if_neg (by simp [tb]; omega), Int.add_zero]) (by omega)
        · refine R_iload_n 21 rfl dX4_marriagesOf_20 rfl ?_
          refine R_aload_n 22 rfl dX4_marriagesOf_21 rfl ?_
          refine R_getP 8 25 rfl dX4_marriagesOf_22 rfl rfl fl_X4_17 (hP _ _ _ rfl) ?_
          refine R_iconst 26 rfl dX4_marriagesOf_25 ?_
          refine R_aald 0 27 rfl dX4_marriagesOf_26 rfl rfl (by first | rfl | omega) (by decide) (by decide) (hP _ _ _ rfl) ?_
          refine R_iload_n 28 rfl dX4_marriagesOf_27 rfl ?_
          refine R_iald k 29 rfl dX4_marriagesOf_28 rfl (by first | rfl | omega) (by omega) (by decide) ?_
          refine R_iadd 30 rfl dX4_marriagesOf_29 ?_
          refine R_istore_n [_, _, _, _] 31 rfl dX4_marriagesOf_30 rfl (by decide) ?_
          refine R_iinc [_, _, _, _] 34 rfl dX4_marriagesOf_31 rfl rfl (by decide) ?_
          refine R_goto 4 rfl dX4_marriagesOf_34 ?_
          first | exact ih (by omega) _ _ (by unfold sumN; rw [ha, if_pos (by simp [tb]; omega), h4.1]) (by omega) | exact ih (by omega) _ _ (by unfold sumN; rw [ha, if_neg (by simp [tb]; omega), Int.add_zero]) (by omega)
  rcases hL with ⟨rfl, hL⟩ | ⟨rfl, hL⟩
  all_goals
    refine R_iconst 1 rfl dX4_marriagesOf_0 ?_
    refine R_istore_n [_, _, _, _] 2 rfl dX4_marriagesOf_1 rfl (by decide) ?_
    refine R_iconst 3 rfl dX4_marriagesOf_2 ?_
    refine R_istore_n [_, _, _, _] 4 rfl dX4_marriagesOf_3 rfl (by decide) ?_
    exact Lp 0 (by omega) _ _ rfl rfl
theorem c_X4_towns (hPO : PO o d m) (hL : LdC o m L) (hLO : LdOk L) : C Γ mX4_towns 0 0 0 0 [vr o] SH m (Qi SH m (sumN (L.2.1 1) (npN L))) := by
  refine C_of_R rfl (Nat.le_of_ble_eq_true rfl) ?_
  have h1 := hLO.1
  have hP := hPO.2
  have h9 := npN_le hLO
  have Lp : ∀ k, k ≤ npN L → ∀ a z, a = sumN (L.2.1 1) k → z = (k : Int) → R Γ mX4_towns { frames := 0, cells := 0, slots := 0, locals := 0 } 0 0 (Qi SH m (sumN (L.2.1 1) (npN L))) 0 0 4 [some (vr o), some (vi a), some (vi z)] [] SH m := by
    rcases hL with ⟨rfl, hL⟩ | ⟨rfl, hL⟩
    all_goals
      have h2 := hL.1
      refine up_ind (npN L) (fun k hk ih a z ha hz => ?_)
      refine R_iload_n 5 rfl dX4_towns_4 rfl ?_
      refine R_aload_n 6 rfl dX4_towns_5 rfl ?_
      refine R_getI 0 9 rfl dX4_towns_6 rfl rfl fl_X4_26 ?_
      refine R_icmp_ge 12 29 rfl rfl dX4_towns_9 (by first | assumption | exact ⟨by omega, by omega⟩) (by first | assumption | exact ⟨by omega, by omega⟩) (fun h9 => ?_) (fun h9 => ?_)
      · refine R_iload_n 30 rfl dX4_towns_29 rfl ?_
        refine R_ireturn dX4_towns_30 rfl ?_
        exact Qi_mk (by rw [ha, show k = npN L by omega])
      · have h4 := hL.2.2.1 k (by omega)
        refine R_iload_n 13 rfl dX4_towns_12 rfl ?_
        refine R_aload_n 14 rfl dX4_towns_13 rfl ?_
        refine R_getP 8 17 rfl dX4_towns_14 rfl rfl fl_X4_17 (hP _ _ _ rfl) ?_
        refine R_iconst 18 rfl dX4_towns_17 ?_
        refine R_aald 1 19 rfl dX4_towns_18 rfl rfl (by first | rfl | omega) (by decide) (by decide) (hP _ _ _ rfl) ?_
        refine R_iload_n 20 rfl dX4_towns_19 rfl ?_
        refine R_iald k 21 rfl dX4_towns_20 rfl (by first | rfl | omega) (by omega) (by decide) ?_
        refine R_iadd 22 rfl dX4_towns_21 ?_
        refine R_istore_n [_, _, _] 23 rfl dX4_towns_22 rfl (by decide) ?_
        refine R_iinc [_, _, _] 26 rfl dX4_towns_23 rfl rfl (by decide) ?_
        refine R_goto 4 rfl dX4_towns_26 ?_
        exact ih (by omega) _ _ (by unfold sumN; rw [ha, h4.2.1]) (by omega)
  rcases hL with ⟨rfl, hL⟩ | ⟨rfl, hL⟩
  all_goals
    refine R_iconst 1 rfl dX4_towns_0 ?_
    refine R_istore_n [_, _, _] 2 rfl dX4_towns_1 rfl (by decide) ?_
    refine R_iconst 3 rfl dX4_towns_2 ?_
    refine R_istore_n [_, _, _] 4 rfl dX4_towns_3 rfl (by decide) ?_
    exact Lp 0 (by omega) _ _ rfl rfl
theorem c_X4_writes (z p y hd : Int) (k : Nat) (hPO : PO o d m) (hL : LdC o m L) (hLO : LdOk L) (hz : z = (k : Int)) (hk : (k : Int) < L.1 1) (hp : rg p) (hy : rg y) (hh : 0 ≤ hd ∧ hd ≤ 255) : C Γ mX4_writes 2 80 0 0 [vr o, vi z, vi p, vi y, vi hd] SH m (Qi SH m (pI (L.2.2 0 k = p ∧ (L.2.2 1 k ≤ y ∧ y ≤ L.2.2 2 k) ∧ ap hd (L.2.2 3 k) ≤ L.2.2 4 k))) := by
  refine C_of_R rfl (Nat.le_of_ble_eq_true rfl) ?_
  subst hz
  have h1 := hLO.1
  have hP := hPO.2
  have h3 := hLO.2.2.2 k hk
  have h5 := ap_rg hd (L.2.2 3 k)
  rcases hL with ⟨rfl, hL⟩ | ⟨rfl, hL⟩
  all_goals
    have h4 := hL.2.2.2 k hk
    rw [← h4.1, ← h4.2.1, ← h4.2.2.1, ← h4.2.2.2.1, ← h4.2.2.2.2]
    rw [← h4.2.2.2.1] at h5
    refine R_aload_n 1 rfl dX4_writes_0 rfl ?_
    refine R_getP 9 4 rfl dX4_writes_1 rfl rfl fl_X4_20 (hP _ _ _ rfl) ?_
    refine R_iconst 5 rfl dX4_writes_4 ?_
    refine R_aald 0 6 rfl dX4_writes_5 rfl rfl (by first | rfl | omega) (by decide) (by decide) (hP _ _ _ rfl) ?_
    refine R_iload_n 7 rfl dX4_writes_6 rfl ?_
    refine R_iald k 8 rfl dX4_writes_7 rfl (by first | rfl | omega) (by omega) (by decide) ?_
    refine R_iload_n 9 rfl dX4_writes_8 rfl ?_
    refine R_icmp_ne 12 63 rfl rfl dX4_writes_9 (by first | assumption | exact ⟨by omega, by omega⟩) (by first | assumption | exact ⟨by omega, by omega⟩) (fun h9 => ?_) (fun h9 => ?_)
    · refine R_iconst 64 rfl dX4_writes_63 ?_
      refine R_zreturn dX4_writes_64 rfl (by first | decide | exact pI_01 _) ?_
      exact Qi_mk (by first | rfl | exact pI_1 (by omega) | exact pI_0 (by omega) | omega)
    · refine R_iload_n 13 rfl dX4_writes_12 rfl ?_
      refine R_aload_n 14 rfl dX4_writes_13 rfl ?_
      refine R_getP 9 17 rfl dX4_writes_14 rfl rfl fl_X4_20 (hP _ _ _ rfl) ?_
      refine R_iconst 18 rfl dX4_writes_17 ?_
      refine R_aald 1 19 rfl dX4_writes_18 rfl rfl (by first | rfl | omega) (by decide) (by decide) (hP _ _ _ rfl) ?_
      refine R_iload_n 20 rfl dX4_writes_19 rfl ?_
      refine R_iald k 21 rfl dX4_writes_20 rfl (by first | rfl | omega) (by omega) (by decide) ?_
      refine R_aload_n 22 rfl dX4_writes_21 rfl ?_
      refine R_getP 9 25 rfl dX4_writes_22 rfl rfl fl_X4_20 (hP _ _ _ rfl) ?_
      refine R_iconst 26 rfl dX4_writes_25 ?_
      refine R_aald 2 27 rfl dX4_writes_26 rfl rfl (by first | rfl | omega) (by decide) (by decide) (hP _ _ _ rfl) ?_
      refine R_iload_n 28 rfl dX4_writes_27 rfl ?_
      refine R_iald k 29 rfl dX4_writes_28 rfl (by first | rfl | omega) (by omega) (by decide) ?_
      refine R_callN_i (M' := mX10_within) 32 rfl dX4_writes_29 mn_X4_52 kmX10_within st_X10_within (c_X10_within _ _ _ (by first | assumption | exact ⟨by omega, by omega⟩) (by first | assumption | exact ⟨by omega, by omega⟩) (by first | assumption | exact ⟨by omega, by omega⟩)) rfl rfl ⟨Nat.le_of_ble_eq_true rfl, Nat.le_of_ble_eq_true rfl⟩ (Nat.le_of_ble_eq_true rfl) ⟨Nat.le_of_ble_eq_true rfl, Nat.le_of_ble_eq_true rfl⟩ ?_
      refine R_ifp_eq 35 63 rfl rfl dX4_writes_32 (fun h32 => ?_) (fun h32 => ?_)
      · refine R_iconst 64 rfl dX4_writes_63 ?_
        refine R_zreturn dX4_writes_64 rfl (by first | decide | exact pI_01 _) ?_
        exact Qi_mk (by first | rfl | exact pI_1 (by omega) | exact pI_0 (by omega) | omega)
      · refine R_iload 37 rfl dX4_writes_35 rfl ?_
        refine R_aload_n 38 rfl dX4_writes_37 rfl ?_
        refine R_getP 9 41 rfl dX4_writes_38 rfl rfl fl_X4_20 (hP _ _ _ rfl) ?_
        refine R_iconst 42 rfl dX4_writes_41 ?_
        refine R_aald 3 43 rfl dX4_writes_42 rfl rfl (by first | rfl | omega) (by decide) (by decide) (hP _ _ _ rfl) ?_
        refine R_iload_n 44 rfl dX4_writes_43 rfl ?_
        refine R_iald k 45 rfl dX4_writes_44 rfl (by first | rfl | omega) (by omega) (by decide) ?_
        refine R_callN_i (M' := mX10_bitsApart) 48 rfl dX4_writes_45 mn_X4_56 kmX10_bitsApart st_X10_bitsApart (c_X10_bitsApart _ _ (by omega) (by omega)) rfl rfl ⟨Nat.le_of_ble_eq_true rfl, Nat.le_of_ble_eq_true rfl⟩ (Nat.le_of_ble_eq_true rfl) ⟨Nat.le_of_ble_eq_true rfl, Nat.le_of_ble_eq_true rfl⟩ ?_
        refine R_aload_n 49 rfl dX4_writes_48 rfl ?_
        refine R_getP 9 52 rfl dX4_writes_49 rfl rfl fl_X4_20 (hP _ _ _ rfl) ?_
        refine R_iconst 53 rfl dX4_writes_52 ?_
        refine R_aald 4 54 rfl dX4_writes_53 rfl rfl (by first | rfl | omega) (by decide) (by decide) (hP _ _ _ rfl) ?_
        refine R_iload_n 55 rfl dX4_writes_54 rfl ?_
        refine R_iald k 56 rfl dX4_writes_55 rfl (by first | rfl | omega) (by omega) (by decide) ?_
        refine R_icmp_gt 59 63 rfl rfl dX4_writes_56 (by first | assumption | exact ⟨by omega, by omega⟩) (by first | assumption | exact ⟨by omega, by omega⟩) (fun h56 => ?_) (fun h56 => ?_)
        · refine R_iconst 64 rfl dX4_writes_63 ?_
          refine R_zreturn dX4_writes_64 rfl (by first | decide | exact pI_01 _) ?_
          exact Qi_mk (by first | rfl | exact pI_1 (by omega) | exact pI_0 (by omega) | omega)
        · refine R_iconst 60 rfl dX4_writes_59 ?_
          refine R_goto 64 rfl dX4_writes_60 ?_
          refine R_zreturn dX4_writes_64 rfl (by first | decide | exact pI_01 _) ?_
          exact Qi_mk (by first | rfl | exact pI_1 (by omega) | exact pI_0 (by omega) | omega)
end
