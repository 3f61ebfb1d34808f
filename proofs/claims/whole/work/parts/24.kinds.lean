theorem PO.eq {o d : Nat} {m m' : Mem} (h : PO o d m) (e : m'.2 = m.2) : PO o d m' := ⟨h.1, fun a k r q => by rw [e]; exact h.2 a k r q⟩
theorem BkC.eq {b p0 p1 p2 s0 s1 s2 s3 s4 : Nat} {m m' : Mem} {B : Bk} (h : BkC b p0 p1 p2 s0 s1 s2 s3 s4 m B) (e : ∀ a k, a = b ∨ a = p0 ∨ a = p1 ∨ a = p2 ∨ a = s0 ∨ a = s1 ∨ a = s2 ∨ a = s3 ∨ a = s4 → m'.1 a k = m.1 a k) : BkC b p0 p1 p2 s0 s1 s2 s3 s4 m' B := by
  refine ⟨by rw [e _ _ (by simp)]; exact h.1, fun k hk => ?_, fun k hk => ?_⟩
  · rw [e p0 k (by simp), e p1 k (by simp), e p2 k (by simp)]; exact h.2.1 k hk
  · rw [e s0 k (by simp), e s1 k (by simp), e s2 k (by simp), e s3 k (by simp), e s4 k (by simp)]; exact h.2.2 k hk
theorem Bk0.fr {F : Nat → Bool} {m m' : Mem} {B : Bk} (h : Bk0 m B) (hf : Fr F m m') (hF : ∀ a, 30 ≤ a → a ≤ 40 → F a = false) : Bk0 m' B := BkC.eq h (fun a k ha => hf.1 a k (hF a (by omega) (by omega)))
theorem LdR.eq {o t p0 p1 p2 p3 c0 c1 c2 c3 c4 : Nat} {m m' : Mem} {L : Ld} (h : LdR o t p0 p1 p2 p3 c0 c1 c2 c3 c4 m L) (e : ∀ a k, a = o ∨ a = t ∨ a = p0 ∨ a = p1 ∨ a = p2 ∨ a = p3 ∨ a = c0 ∨ a = c1 ∨ a = c2 ∨ a = c3 ∨ a = c4 → m'.1 a k = m.1 a k) : LdR o t p0 p1 p2 p3 c0 c1 c2 c3 c4 m' L := by
  obtain ⟨h1, h2, h3, h4⟩ := h
  refine ⟨?_, ?_, fun k hk => ?_, fun k hk => ?_⟩
  · rw [e o 0 (by simp), e o 1 (by simp), e o 2 (by simp), e o 3 (by simp), e o 4 (by simp), e o 5 (by simp), e o 6 (by simp)]; exact h1
  · rw [e t 0 (by simp), e t 1 (by simp), e t 2 (by simp), e t 3 (by simp)]; exact h2
  · rw [e p0 k (by simp), e p1 k (by simp), e p2 k (by simp), e p3 k (by simp)]; exact h3 k hk
  · rw [e c0 k (by simp), e c1 k (by simp), e c2 k (by simp), e c3 k (by simp), e c4 k (by simp)]; exact h4 k hk
theorem LdC.fr {F : Nat → Bool} {o : Nat} {m m' : Mem} {L : Ld} (h : LdC o m L) (hf : Fr F m m') (hF : ∀ a, 4 ≤ a → a ≤ 29 → F a = false) : LdC o m' L := by
  rcases h with ⟨e, h⟩ | ⟨e, h⟩
  · exact Or.inl ⟨e, h.eq (fun a k ha => hf.1 a k (hF a (by omega) (by omega)))⟩
  · exact Or.inr ⟨e, h.eq (fun a k ha => hf.1 a k (hF a (by omega) (by omega)))⟩
theorem ChC.fr {F : Nat → Bool} {m m' : Mem} {ch : Cs} (h : ChC m ch) (hf : Fr F m m') (h1 : F 45 = false) (h2 : F 46 = false) : ChC m' ch := by
  obtain ⟨⟨a0, a1, a2, a3, a4⟩, ⟨b0, b1, b2, b3, b4⟩⟩ := h
  refine ⟨⟨?_, ?_, ?_, ?_, ?_⟩, ⟨?_, ?_, ?_, ?_, ?_⟩⟩
  all_goals first | (rw [hf.1 45 _ h1]; assumption) | (rw [hf.1 46 _ h2]; assumption)
theorem wrP_iff {L : Ld} {B : Bk} {k c : Nat} : wrP L B k c = true ↔ (L.2.2 0 c = B.2.1 0 (k / 2) ∧ (L.2.2 1 c ≤ B.2.1 1 (k / 2) ∧ B.2.1 1 (k / 2) ≤ L.2.2 2 c) ∧ ap (B.2.2 2 k) (L.2.2 3 c) ≤ L.2.2 4 c) := by
  simp only [wrP, Bool.and_eq_true, decide_eq_true_eq, and_assoc]
def s2 (L : Ld) (B : Bk) (j : Nat) : Int := if B.2.2 0 j = 1 then nkd L B j else 1
theorem s2_rg (L : Ld) (B : Bk) (j : Nat) : 1 ≤ s2 L B j ∧ s2 L B j ≤ 5 := by have := nkd_rg L B j; unfold s2; split <;> omega
section
variable {Γ : GX} {m : Mem} {B : Bk} {L : Ld} {ch : Cs} {np : Int} {o d : Nat}
theorem c_X3_firstWriter (z : Int) (k : Nat) (hPO : PO o d m) (hk3 : m.2 41 3 = some 30) (hk4 : m.2 41 4 = some o) (hB : Bk0 m B) (hO : BkOk np B) (hnp : np ≤ 12) (hL : LdC o m L) (hLO : LdOk L) (hz : z = (k : Int)) (hk : k < 2 * B.1) : C Γ mX3_firstWriter 3 120 0 0 [vr 41, vi z] SH m (Qi SH m (wr L B k)) := by
  refine C_of_R rfl (Nat.le_of_ble_eq_true rfl) ?_
  subst hz
  have hP := hPO.2
  have h1 := hLO.1
  have h2 := hO.2.2 k hk
  have h3 := hO.2.1 (k / 2) (by omega)
  have h5 := hO.1
  obtain ⟨s0, s1, e2, s3, s4⟩ := hB.2.2 k hk
  obtain ⟨p0, p1, p2⟩ := hB.2.1 (k / 2) (by omega)
  have Lp : B.2.2 0 k = 1 → ∀ c, c ≤ (L.1 1).toNat → ∀ y, (∀ j, j < c → ¬ wrP L B k j = true) → y = (c : Int) → R Γ mX3_firstWriter { frames := 3, cells := 0, slots := 0, locals := 120 } 0 0 (Qi SH m (wr L B k)) 0 0 33 [some (vr 41), some (vi (k : Int)), some (vi (B.2.1 0 (k / 2))), some (vi y)] [] SH m := by
    intro hn
    have hLC := hL
    have ew : wr L B k = fs1 (wrP L B k) (L.1 1).toNat := by unfold wr; rw [if_pos hn]
    rcases hL with ⟨rfl, hL⟩ | ⟨rfl, hL⟩
    all_goals
      have h6 := hL.1
      refine up_ind (L.1 1).toNat (fun c hc ih y hj hy => ?_)
      refine R_iload_n 34 rfl dX3_firstWriter_33 rfl ?_
      refine R_aload_n 35 rfl dX3_firstWriter_34 rfl ?_
      refine R_getP 4 38 rfl dX3_firstWriter_35 rfl rfl fl_X3_26 hk4 ?_
      refine R_getI 1 41 rfl dX3_firstWriter_38 rfl rfl fl_X3_54 ?_
      refine R_icmp_ge 44 83 rfl rfl dX3_firstWriter_41 (by first | assumption | exact ⟨by omega, by omega⟩) (by first | assumption | exact ⟨by omega, by omega⟩) (fun h41 => ?_) (fun h41 => ?_)
      · refine R_bipush 85 rfl dX3_firstWriter_83 (by decide) ?_
        refine R_ireturn dX3_firstWriter_85 rfl ?_
        exact Qi_mk (by rw [ew, fs1_none (fun j q => hj j (by omega))])
      · have h8 := hLO.2.2.2 c (by omega)
        refine R_aload_n 45 rfl dX3_firstWriter_44 rfl ?_
        refine R_getP 4 48 rfl dX3_firstWriter_45 rfl rfl fl_X3_26 hk4 ?_
        refine R_iload_n 49 rfl dX3_firstWriter_48 rfl ?_
        refine R_iload_n 50 rfl dX3_firstWriter_49 rfl ?_
        refine R_aload_n 51 rfl dX3_firstWriter_50 rfl ?_
        refine R_getP 3 54 rfl dX3_firstWriter_51 rfl rfl fl_X3_22 hk3 ?_
        refine R_iload_n 55 rfl dX3_firstWriter_54 rfl ?_
        refine R_callV_i (M' := mX0_yearOf) 58 rfl dX3_firstWriter_55 ml_X3_60 kmX0_yearOf im_X0_yearOf se_X0_yearOf rfl ⟨by decide, rfl⟩ (c_X0_yearOf _ k hPO hB rfl hk h5) rfl rfl ⟨Nat.le_of_ble_eq_true rfl, Nat.le_of_ble_eq_true rfl⟩ (Nat.le_of_ble_eq_true rfl) ⟨Nat.le_of_ble_eq_true rfl, Nat.le_of_ble_eq_true rfl⟩ ?_
        refine R_aload_n 59 rfl dX3_firstWriter_58 rfl ?_
        refine R_getP 3 62 rfl dX3_firstWriter_59 rfl rfl fl_X3_22 hk3 ?_
        refine R_getP 2 65 rfl dX3_firstWriter_62 rfl rfl fl_X3_40 (hP _ _ _ rfl) ?_
        refine R_iconst 66 rfl dX3_firstWriter_65 ?_
        refine R_aald 2 67 rfl dX3_firstWriter_66 rfl rfl (by first | rfl | omega) (by decide) (by decide) (hP _ _ _ rfl) ?_
        refine R_iload_n 68 rfl dX3_firstWriter_67 rfl ?_
        refine R_iald k 69 rfl dX3_firstWriter_68 rfl (by first | rfl | omega) (by omega) (by decide) ?_
        rw [e2]
        refine R_callV_i (M' := mX4_writes) 72 rfl dX3_firstWriter_69 ml_X3_63 kmX4_writes im_X4_writes se_X4_writes rfl ⟨by decide, rfl⟩ (c_X4_writes _ _ _ _ c hPO hLC hLO (by omega) (by omega) ⟨by omega, by omega⟩ ⟨by omega, by omega⟩ (by omega)) rfl rfl ⟨Nat.le_of_ble_eq_true rfl, Nat.le_of_ble_eq_true rfl⟩ (Nat.le_of_ble_eq_true rfl) ⟨Nat.le_of_ble_eq_true rfl, Nat.le_of_ble_eq_true rfl⟩ ?_
        refine R_ifp_eq 75 77 rfl rfl dX3_firstWriter_72 (fun h72 => ?_) (fun h72 => ?_)
        · refine R_iinc [_, _, _, _] 80 rfl dX3_firstWriter_77 rfl rfl (by decide) ?_
          refine R_goto 33 rfl dX3_firstWriter_80 ?_
          exact ih (by omega) _ (fun j q => by by_cases e : j = c; (subst e; rw [wrP_iff]; exact h72); exact hj j (by omega)) (by omega)
        · refine R_iload_n 76 rfl dX3_firstWriter_75 rfl ?_
          refine R_ireturn dX3_firstWriter_76 rfl ?_
          exact Qi_mk (by rw [hy, ew, fs1_at (by omega) hj (wrP_iff.mpr h72)])
  refine R_aload_n 1 rfl dX3_firstWriter_0 rfl ?_
  refine R_getP 3 4 rfl dX3_firstWriter_1 rfl rfl fl_X3_22 hk3 ?_
  refine R_getP 2 7 rfl dX3_firstWriter_4 rfl rfl fl_X3_40 (hP _ _ _ rfl) ?_
  refine R_iconst 8 rfl dX3_firstWriter_7 ?_
  refine R_aald 0 9 rfl dX3_firstWriter_8 rfl rfl (by first | rfl | omega) (by decide) (by decide) (hP _ _ _ rfl) ?_
  refine R_iload_n 10 rfl dX3_firstWriter_9 rfl ?_
  refine R_iald k 11 rfl dX3_firstWriter_10 rfl (by first | rfl | omega) (by omega) (by decide) ?_
  refine R_if_ne 14 17 rfl rfl dX3_firstWriter_11 (by first | assumption | exact ⟨by omega, by omega⟩) (fun h11 => ?_) (fun h11 => ?_)
  · refine R_aload_n 18 rfl dX3_firstWriter_17 rfl ?_
    refine R_getP 3 21 rfl dX3_firstWriter_18 rfl rfl fl_X3_22 hk3 ?_
    refine R_getP 1 24 rfl dX3_firstWriter_21 rfl rfl fl_X3_51 (hP _ _ _ rfl) ?_
    refine R_iconst 25 rfl dX3_firstWriter_24 ?_
    refine R_aald 0 26 rfl dX3_firstWriter_25 rfl rfl (by first | rfl | omega) (by decide) (by decide) (hP _ _ _ rfl) ?_
    refine R_iload_n 27 rfl dX3_firstWriter_26 rfl ?_
    refine R_iconst 28 rfl dX3_firstWriter_27 ?_
    refine R_idiv_p 29 rfl dX3_firstWriter_28 (by first | assumption | exact ⟨by omega, by omega⟩) (by first | assumption | exact ⟨by omega, by omega⟩) (by omega) (by omega) ?_
    refine R_iald (k / 2) 30 rfl dX3_firstWriter_29 rfl (by first | rfl | omega) (by omega) (by decide) ?_
    rw [p0]
    refine R_istore_n [_, _, _, _] 31 rfl dX3_firstWriter_30 rfl (by decide) ?_
    refine R_iconst 32 rfl dX3_firstWriter_31 ?_
    refine R_istore_n [_, _, _, _] 33 rfl dX3_firstWriter_32 rfl (by decide) ?_
    exact Lp (by omega) 0 (by omega) _ (fun j q => by omega) rfl
  · refine R_bipush 16 rfl dX3_firstWriter_14 (by decide) ?_
    refine R_ireturn dX3_firstWriter_16 rfl ?_
    exact Qi_mk (by unfold wr; rw [if_neg (by omega)])
theorem c_X3_isAble (z : Int) (k : Nat) (hPO : PO o d m) (hK : ∀ j, j < 2 * B.1 → m.1 42 j = kd L B j) (hn : B.1 ≤ 40) (hz : z = (k : Int)) (hk : k < 2 * B.1) : C Γ mX3_isAble 0 0 0 0 [vr 41, vi z] SH m (Qi SH m (pI (abl L B k = true))) := by
  refine C_of_R rfl (Nat.le_of_ble_eq_true rfl) ?_
  subst hz
  have hP := hPO.2
  have h1 := hK k hk
  have h2 := kd_rg L B k
  have h3 : abl L B k = true ↔ (m.1 42 k = 2 ∨ m.1 42 k = 3) := by simp [abl, h1]
  refine R_aload_n 1 rfl dX3_isAble_0 rfl ?_
  refine R_getP 1 4 rfl dX3_isAble_1 rfl rfl fl_X3_15 (hP _ _ _ rfl) ?_
  refine R_iload_n 5 rfl dX3_isAble_4 rfl ?_
  refine R_iald k 6 rfl dX3_isAble_5 rfl (by first | rfl | omega) (by omega) (by decide) ?_
  refine R_iconst 7 rfl dX3_isAble_6 ?_
  refine R_icmp_eq 10 20 rfl rfl dX3_isAble_7 (by first | assumption | exact ⟨by omega, by omega⟩) (by first | assumption | exact ⟨by omega, by omega⟩) (fun h7 => ?_) (fun h7 => ?_)
  · refine R_iconst 21 rfl dX3_isAble_20 ?_
    refine R_goto 25 rfl dX3_isAble_21 ?_
    refine R_zreturn dX3_isAble_25 rfl (by first | decide | exact pI_01 _) ?_
    first | exact Qi_mk (pI_1 (h3.mpr (by omega))) | exact Qi_mk (pI_0 (fun q => by have := h3.mp q; omega))
  · refine R_aload_n 11 rfl dX3_isAble_10 rfl ?_
    refine R_getP 1 14 rfl dX3_isAble_11 rfl rfl fl_X3_15 (hP _ _ _ rfl) ?_
    refine R_iload_n 15 rfl dX3_isAble_14 rfl ?_
    refine R_iald k 16 rfl dX3_isAble_15 rfl (by first | rfl | omega) (by omega) (by decide) ?_
    refine R_iconst 17 rfl dX3_isAble_16 ?_
    refine R_icmp_ne 20 24 rfl rfl dX3_isAble_17 (by first | assumption | exact ⟨by omega, by omega⟩) (by first | assumption | exact ⟨by omega, by omega⟩) (fun h17 => ?_) (fun h17 => ?_)
    · refine R_iconst 25 rfl dX3_isAble_24 ?_
      refine R_zreturn dX3_isAble_25 rfl (by first | decide | exact pI_01 _) ?_
      first | exact Qi_mk (pI_1 (h3.mpr (by omega))) | exact Qi_mk (pI_0 (fun q => by have := h3.mp q; omega))
    · refine R_iconst 21 rfl dX3_isAble_20 ?_
      refine R_goto 25 rfl dX3_isAble_21 ?_
      refine R_zreturn dX3_isAble_25 rfl (by first | decide | exact pI_01 _) ?_
      first | exact Qi_mk (pI_1 (h3.mpr (by omega))) | exact Qi_mk (pI_0 (fun q => by have := h3.mp q; omega))
theorem c_X3_writtenBy (w y : Int) (hPO : PO o d m) (hW : ∀ j, j < 2 * B.1 → m.1 43 j = wr L B j) (hLO : LdOk L) (hn : B.1 ≤ 40) (hw : rg w) (hy : y = 2 * (B.1 : Int)) : C Γ mX3_writtenBy 0 0 0 0 [vr 41, vi w, vi y] SH m (Qi SH m (cnt (fun k => decide (wr L B k = w)) (2 * B.1) : Int)) := by
  refine C_of_R rfl (Nat.le_of_ble_eq_true rfl) ?_
  have hP := hPO.2
  have h1 := hLO.1
  have Lp : ∀ k, k ≤ 2 * B.1 → ∀ a z, a = (cnt (fun k => decide (wr L B k = w)) k : Int) → z = (k : Int) → R Γ mX3_writtenBy { frames := 0, cells := 0, slots := 0, locals := 0 } 0 0 (Qi SH m (cnt (fun k => decide (wr L B k = w)) (2 * B.1) : Int)) 0 0 5 [some (vr 41), some (vi w), some (vi y), some (vi a), some (vi z)] [] SH m := by
    refine up_ind (2 * B.1) (fun k hk ih a z ha hz => ?_)
    refine R_iload 7 rfl dX3_writtenBy_5 rfl ?_
    refine R_iload_n 8 rfl dX3_writtenBy_7 rfl ?_
    refine R_icmp_ge 11 31 rfl rfl dX3_writtenBy_8 (by first | assumption | exact ⟨by omega, by omega⟩) (by first | assumption | exact ⟨by omega, by omega⟩) (fun h8 => ?_) (fun h8 => ?_)
    · refine R_iload_n 32 rfl dX3_writtenBy_31 rfl ?_
      refine R_ireturn dX3_writtenBy_32 rfl ?_
      exact Qi_mk (by rw [ha, show k = 2 * B.1 by omega])
    · have h2 := hW k (by omega)
      have h3 := wr_rg (L := L) (B := B) k
      refine R_aload_n 12 rfl dX3_writtenBy_11 rfl ?_
      refine R_getP 2 15 rfl dX3_writtenBy_12 rfl rfl fl_X3_19 (hP _ _ _ rfl) ?_
      refine R_iload 17 rfl dX3_writtenBy_15 rfl ?_
      refine R_iald k 18 rfl dX3_writtenBy_17 rfl (by first | rfl | omega) (by omega) (by decide) ?_
      refine R_iload_n 19 rfl dX3_writtenBy_18 rfl ?_
      refine R_icmp_ne 22 25 rfl rfl dX3_writtenBy_19 (by first | assumption | exact ⟨by omega, by omega⟩) (by first | assumption | exact ⟨by omega, by omega⟩) (fun h19 => ?_) (fun h19 => ?_)
      · refine R_iinc [_, _, _, _, _] 28 rfl dX3_writtenBy_25 rfl rfl (by decide) ?_
        refine R_goto 5 rfl dX3_writtenBy_28 ?_
        first | exact ih (by omega) _ _ (by rw [cnt_y (by simp; omega)]; omega) (by omega) | exact ih (by omega) _ _ (by rw [cnt_n (by simp; omega)]; omega) (by omega)
      · refine R_iinc [_, _, _, _, _] 25 rfl dX3_writtenBy_22 rfl rfl (by decide) ?_
        refine R_iinc [_, _, _, _, _] 28 rfl dX3_writtenBy_25 rfl rfl (by decide) ?_
        refine R_goto 5 rfl dX3_writtenBy_28 ?_
        first | exact ih (by omega) _ _ (by rw [cnt_y (by simp; omega)]; omega) (by omega) | exact ih (by omega) _ _ (by rw [cnt_n (by simp; omega)]; omega) (by omega)
  refine R_iconst 1 rfl dX3_writtenBy_0 ?_
  refine R_istore_n [_, _, _, _, _] 2 rfl dX3_writtenBy_1 rfl (by decide) ?_
  refine R_iconst 3 rfl dX3_writtenBy_2 ?_
  refine R_istore [_, _, _, _, _] 5 rfl dX3_writtenBy_3 rfl (by decide) ?_
  exact Lp 0 (by omega) _ _ rfl rfl
end
