section
variable {Γ : GX} {m m' m'' : Mem} {B B' : Bk} {L : Ld} {ch ch' : Cs} {T : Tp} {F N : Int} {I : Nat → Im} {S : Nat → Sht}
def sdx (K w : Nat) : Nat := 0 + 16 * (K / 2) + 3 + 5 * (K % 2) + w
theorem sdx_inj {K w k w' : Nat} (hw : w < 5) (hw' : w' < 5) (h : sdx k w' = sdx K w) : k = K ∧ w' = w := by
  unfold sdx at h
  rcases Nat.mod_two_eq_zero_or_one K with q | q <;> rcases Nat.mod_two_eq_zero_or_one k with r | r <;> rw [q, r] at h <;> omega
theorem sdx_pr {K w k w' : Nat} (hw : w < 5) (hw' : w' < 3) : 0 + 16 * k + w' ≠ sdx K w := by
  unfold sdx
  intro h
  rcases Nat.mod_two_eq_zero_or_one K with q | q <;> rw [q] at h <;> omega
theorem sdx_lt {K w : Nat} (hw : w < 5) (hK : K < 80) : sdx K w < 640 := by
  unfold sdx; omega
theorem set_RB {K w : Nat} {v : Int} (hB : RB 0 m B) (hn : B.1 ≤ 40) (hK : K < 2 * B.1) (hw : w < 5) : RB 0 (setI m 107 (sdx K w) v) (B.1, B.2.1, fun w' k' => if k' = K ∧ w' = w then v else B.2.2 w' k') := by
  have hl := sdx_lt hw (show K < 80 by omega)
  refine ⟨?_, fun k hk w' hw' => ?_, fun k hk w' hw' => ?_⟩
  · simp only [setI]; rw [if_neg (by omega)]; exact hB.1
  · simp only [setI]; rw [if_neg (fun q => sdx_pr hw hw' q.2)]; exact hB.2.1 k hk w' hw'
  · show (setI m 107 (sdx K w) v).1 107 (sdx k w') = _
    simp only [setI]
    by_cases e : k = K ∧ w' = w
    · rw [if_pos e, e.1, e.2, if_pos ⟨trivial, rfl⟩]
    · rw [if_neg e, if_neg (fun q => e (sdx_inj hw hw' q.2))]
      exact hB.2.2 k hk w' hw'
theorem RB.ext (h : RB 0 m B) (h1 : B'.1 = B.1) (h2 : ∀ w k, w < 3 → B'.2.1 w k = B.2.1 w k) (h3 : ∀ w k, w < 5 → B'.2.2 w k = B.2.2 w k) : RB 0 m B' := by
  refine ⟨by rw [h1]; exact h.1, fun k hk w hw => ?_, fun k hk w hw => ?_⟩
  · rw [h1] at hk; rw [h2 w k hw]; exact h.2.1 k hk w hw
  · rw [h1] at hk; rw [h3 w k hw]; exact h.2.2 k hk w hw
theorem c_X11_set (k s w v : Int) (hR : RS L B ch m) (hX : RX T F I S N m) (hk : rg k) (hs : rg s) (hw : rg w) (hv : rg v) : C Γ mX11_set 2 80 0 0 [vr 96, vi k, vi s, vi w, vi v] SH m (QR L (if setOk B k s w v = true ∧ ¬ setNo B k s w = true then bkSet B (2 * k + s).toNat w.toNat v else B) ch T F I S N m (if setOk B k s w v = true then (if setNo B k s w = true then -2 else B.2.2 w.toNat (2 * k + s).toNat) else -1)) := by
  refine C_of_R rfl (Nat.le_of_ble_eq_true rfl) ?_
  have hP := hR.1
  have h3 := hR.2.2.2.2.1.1
  have wr : mayB w v = true → 0 ≤ w ∧ w ≤ 4 := fun q => by
    unfold mayB at q
    by_cases a : w = 0 ∨ w = 4
    · omega
    · rw [if_neg a] at q
      by_cases b : w = 1
      · omega
      · rw [if_neg b] at q
        by_cases c : w = 2
        · omega
        · rw [if_neg c] at q
          by_cases d : w = 3
          · omega
          · rw [if_neg d] at q; exact absurd q (by decide)
  refine R_aload_n 1 rfl dX11_set_0 rfl ?_
  refine R_iload_n 2 rfl dX11_set_1 rfl ?_
  refine R_iload_n 3 rfl dX11_set_2 rfl ?_
  refine R_callV_i (M' := mX11_isMark) 6 rfl dX11_set_3 ml_X11_191 kmX11_isMark im_X11_isMark se_X11_isMark rfl ⟨by decide, rfl⟩ (c_X11_isMark _ _ hR (by first | assumption | exact ⟨by omega, by omega⟩) (by first | assumption | exact ⟨by omega, by omega⟩)) rfl rfl ⟨Nat.le_of_ble_eq_true rfl, Nat.le_of_ble_eq_true rfl⟩ (Nat.le_of_ble_eq_true rfl) ⟨Nat.le_of_ble_eq_true rfl, Nat.le_of_ble_eq_true rfl⟩ ?_
  refine R_ifp_eq 9 18 rfl rfl dX11_set_6 (fun h6 => ?_) (fun h6 => ?_)
  · refine R_iconst 19 rfl dX11_set_18 ?_
    refine R_ireturn dX11_set_19 rfl ?_
    have c1 : ¬ setOk B k s w v = true := fun q => by unfold setOk at q; have := of_decide_eq_true q; first | exact h15 this.2 | exact h6 this.1
    rw [if_neg (fun q => c1 q.1), if_neg c1]
    exact QI_mk ⟨rfl, Fl.rf, hR, hX⟩
  · refine R_iload_n 10 rfl dX11_set_9 rfl ?_
    refine R_iload 12 rfl dX11_set_10 rfl ?_
    refine R_callS_i (M' := mX11_isValue) 15 rfl dX11_set_12 ml_X11_195 kmX11_isValue st_X11_isValue (c_X11_isValue _ _ (by first | assumption | exact ⟨by omega, by omega⟩) (by first | assumption | exact ⟨by omega, by omega⟩)) rfl rfl ⟨Nat.le_of_ble_eq_true rfl, Nat.le_of_ble_eq_true rfl⟩ (Nat.le_of_ble_eq_true rfl) ⟨Nat.le_of_ble_eq_true rfl, Nat.le_of_ble_eq_true rfl⟩ ?_
    refine R_ifp_ne 18 20 rfl rfl dX11_set_15 (fun h15 => ?_) (fun h15 => ?_)
    · have c1 : setOk B k s w v = true := by unfold setOk; exact decide_eq_true ⟨h6, h15⟩
      have w5 := wr h15
      have b9 := hR.2.2.2.2.1.2.2 (2 * k + s).toNat (by omega)
      have b0 : m.1 107 (sdx (2 * k + s).toNat w.toNat) = B.2.2 w.toNat (2 * k + s).toNat := hR.2.2.2.1.2.2 (2 * k + s).toNat (by omega) w.toNat (by omega)
      refine R_iload_n 21 rfl dX11_set_20 rfl ?_
      refine R_iconst 22 rfl dX11_set_21 ?_
      refine R_icmp_ne 25 38 rfl rfl dX11_set_22 (by first | assumption | exact ⟨by omega, by omega⟩) (by first | assumption | exact ⟨by omega, by omega⟩) (fun h22 => ?_) (fun h22 => ?_)
      · refine R_bipush 40 rfl dX11_set_38 (by decide) ?_
        refine R_iload_n 41 rfl dX11_set_40 rfl ?_
        refine R_imul 42 rfl dX11_set_41 ?_
        refine R_iconst 43 rfl dX11_set_42 ?_
        refine R_iadd 44 rfl dX11_set_43 ?_
        refine R_iconst 45 rfl dX11_set_44 ?_
        refine R_iload_n 46 rfl dX11_set_45 rfl ?_
        refine R_imul 47 rfl dX11_set_46 ?_
        refine R_iadd 48 rfl dX11_set_47 ?_
        refine R_istore [_, _, _, _, _, _, _] 50 rfl dX11_set_48 rfl (by decide) ?_
        refine R_aload_n 51 rfl dX11_set_50 rfl ?_
        refine R_getP 19 54 rfl dX11_set_51 rfl rfl fl_X11_40 (hP _ _ _ rfl) ?_
        refine R_iload 56 rfl dX11_set_54 rfl ?_
        refine R_iload_n 57 rfl dX11_set_56 rfl ?_
        refine R_iadd 58 rfl dX11_set_57 ?_
        refine R_iald (sdx (2 * k + s).toNat w.toNat) 59 rfl dX11_set_58 rfl (by unfold sdx; omega) (by unfold sdx; omega) (by decide) ?_
        rw [b0]
        refine R_istore [_, _, _, _, _, _, _] 61 rfl dX11_set_59 rfl (by decide) ?_
        refine R_aload_n 62 rfl dX11_set_61 rfl ?_
        refine R_getP 19 65 rfl dX11_set_62 rfl rfl fl_X11_40 (hP _ _ _ rfl) ?_
        refine R_iload 67 rfl dX11_set_65 rfl ?_
        refine R_iload_n 68 rfl dX11_set_67 rfl ?_
        refine R_iadd 69 rfl dX11_set_68 ?_
        refine R_iload 71 rfl dX11_set_69 rfl ?_
        refine R_iast (sdx (2 * k + s).toNat w.toNat) 72 rfl dX11_set_71 rfl (by unfold sdx; omega) (by unfold sdx; omega) (by decide) ?_
        refine R_iload_n 73 rfl dX11_set_72 rfl ?_
        refine R_if_ne 76 91 rfl rfl dX11_set_73 (by first | assumption | exact ⟨by omega, by omega⟩) (fun h73 => ?_) (fun h73 => ?_)
        · refine R_iload 93 rfl dX11_set_91 rfl ?_
          refine R_ireturn dX11_set_93 rfl ?_
          have c2 : ¬ setNo B k s w = true := fun q => by unfold setNo at q; have := of_decide_eq_true q; omega
          rw [if_pos ⟨c1, c2⟩, if_pos c1, if_neg c2]
          have r1 := set_RB (v := v) hR.2.2.2.1 h3 (K := (2 * k + s).toNat) (w := w.toNat) (by omega) (by omega)
          have f1 : Fb m (setI m 107 (sdx (2 * k + s).toNat w.toNat) v) := Fb.rf.set (by unfold sdx; omega)
          have ok := bkSet_ok (k := (2 * k + s).toNat) (w := w.toNat) (v := v) hR.2.2.2.2.1 (by rw [show ((w.toNat : Nat) : Int) = w by omega]; exact h15)
          first
            | (have w0 : w.toNat = 0 := by omega
               have v0 : v = 0 := by omega
               have r2 := set_RB (v := 0) r1 (by omega) (K := (2 * k + s).toNat) (w := 2) (show (2 * k + s).toNat < 2 * B.1 by omega) (by omega)
               have f2 : Fb m (setI (setI m 107 (sdx (2 * k + s).toNat w.toNat) v) 107 (sdx (2 * k + s).toNat 2) 0) := f1.set (by unfold sdx; omega)
               have r3 : RB 0 (setI (setI m 107 (sdx (2 * k + s).toNat w.toNat) v) 107 (sdx (2 * k + s).toNat 2) 0) (bkSet B (2 * k + s).toNat w.toNat v) := r2.ext rfl (fun _ _ _ => rfl) (fun w' k' hw' => by
                 simp only [bkSet]
                 by_cases e : k' = (2 * k + s).toNat
                 · by_cases e2 : w' = 2
                   · rw [if_pos e, if_neg (by omega), if_pos ⟨e2, w0, v0⟩, if_pos ⟨e, e2⟩]
                   · by_cases e3 : w' = w.toNat
                     · rw [if_pos e, if_pos e3, if_neg (by omega), if_pos ⟨e, e3⟩]
                     · rw [if_pos e, if_neg e3, if_neg (by omega), if_neg (by omega), if_neg (by omega)]
                 · rw [if_neg e, if_neg (by omega), if_neg (by omega)])
               exact QI_mk ⟨rfl, f2.l, hR.bk f2 r3 ok, hX.fb f2⟩)
            | (have r3 : RB 0 (setI m 107 (sdx (2 * k + s).toNat w.toNat) v) (bkSet B (2 * k + s).toNat w.toNat v) := r1.ext rfl (fun _ _ _ => rfl) (fun w' k' hw' => by
                 simp only [bkSet]
                 by_cases e : k' = (2 * k + s).toNat
                 · by_cases e3 : w' = w.toNat
                   · rw [if_pos e, if_pos e3, if_pos ⟨e, e3⟩]
                   · rw [if_pos e, if_neg e3, if_neg (by omega), if_neg (by omega)]
                 · rw [if_neg e, if_neg (by omega)])
               exact QI_mk ⟨rfl, f1.l, hR.bk f1 r3 ok, hX.fb f1⟩)
        · refine R_iload 78 rfl dX11_set_76 rfl ?_
          refine R_if_ne 81 91 rfl rfl dX11_set_78 (by first | assumption | exact ⟨by omega, by omega⟩) (fun h78 => ?_) (fun h78 => ?_)
          · refine R_iload 93 rfl dX11_set_91 rfl ?_
            refine R_ireturn dX11_set_93 rfl ?_
            have c2 : ¬ setNo B k s w = true := fun q => by unfold setNo at q; have := of_decide_eq_true q; omega
            rw [if_pos ⟨c1, c2⟩, if_pos c1, if_neg c2]
            have r1 := set_RB (v := v) hR.2.2.2.1 h3 (K := (2 * k + s).toNat) (w := w.toNat) (by omega) (by omega)
            have f1 : Fb m (setI m 107 (sdx (2 * k + s).toNat w.toNat) v) := Fb.rf.set (by unfold sdx; omega)
            have ok := bkSet_ok (k := (2 * k + s).toNat) (w := w.toNat) (v := v) hR.2.2.2.2.1 (by rw [show ((w.toNat : Nat) : Int) = w by omega]; exact h15)
            first
              | (have w0 : w.toNat = 0 := by omega
                 have v0 : v = 0 := by omega
                 have r2 := set_RB (v := 0) r1 (by omega) (K := (2 * k + s).toNat) (w := 2) (show (2 * k + s).toNat < 2 * B.1 by omega) (by omega)
                 have f2 : Fb m (setI (setI m 107 (sdx (2 * k + s).toNat w.toNat) v) 107 (sdx (2 * k + s).toNat 2) 0) := f1.set (by unfold sdx; omega)
                 have r3 : RB 0 (setI (setI m 107 (sdx (2 * k + s).toNat w.toNat) v) 107 (sdx (2 * k + s).toNat 2) 0) (bkSet B (2 * k + s).toNat w.toNat v) := r2.ext rfl (fun _ _ _ => rfl) (fun w' k' hw' => by
                   simp only [bkSet]
                   by_cases e : k' = (2 * k + s).toNat
                   · by_cases e2 : w' = 2
                     · rw [if_pos e, if_neg (by omega), if_pos ⟨e2, w0, v0⟩, if_pos ⟨e, e2⟩]
                     · by_cases e3 : w' = w.toNat
                       · rw [if_pos e, if_pos e3, if_neg (by omega), if_pos ⟨e, e3⟩]
                       · rw [if_pos e, if_neg e3, if_neg (by omega), if_neg (by omega), if_neg (by omega)]
                   · rw [if_neg e, if_neg (by omega), if_neg (by omega)])
                 exact QI_mk ⟨rfl, f2.l, hR.bk f2 r3 ok, hX.fb f2⟩)
              | (have r3 : RB 0 (setI m 107 (sdx (2 * k + s).toNat w.toNat) v) (bkSet B (2 * k + s).toNat w.toNat v) := r1.ext rfl (fun _ _ _ => rfl) (fun w' k' hw' => by
                   simp only [bkSet]
                   by_cases e : k' = (2 * k + s).toNat
                   · by_cases e3 : w' = w.toNat
                     · rw [if_pos e, if_pos e3, if_pos ⟨e, e3⟩]
                     · rw [if_pos e, if_neg e3, if_neg (by omega), if_neg (by omega)]
                   · rw [if_neg e, if_neg (by omega)])
                 exact QI_mk ⟨rfl, f1.l, hR.bk f1 r3 ok, hX.fb f1⟩)
          · refine R_aload_n 82 rfl dX11_set_81 rfl ?_
            refine R_getP 19 85 rfl dX11_set_82 rfl rfl fl_X11_40 (hP _ _ _ rfl) ?_
            refine R_iload 87 rfl dX11_set_85 rfl ?_
            refine R_iconst 88 rfl dX11_set_87 ?_
            refine R_iadd 89 rfl dX11_set_88 ?_
            refine R_iconst 90 rfl dX11_set_89 ?_
            refine R_iast (sdx (2 * k + s).toNat 2) 91 rfl dX11_set_90 rfl (by unfold sdx; omega) (by unfold sdx; omega) (by decide) ?_
            refine R_iload 93 rfl dX11_set_91 rfl ?_
            refine R_ireturn dX11_set_93 rfl ?_
            have c2 : ¬ setNo B k s w = true := fun q => by unfold setNo at q; have := of_decide_eq_true q; omega
            rw [if_pos ⟨c1, c2⟩, if_pos c1, if_neg c2]
            have r1 := set_RB (v := v) hR.2.2.2.1 h3 (K := (2 * k + s).toNat) (w := w.toNat) (by omega) (by omega)
            have f1 : Fb m (setI m 107 (sdx (2 * k + s).toNat w.toNat) v) := Fb.rf.set (by unfold sdx; omega)
            have ok := bkSet_ok (k := (2 * k + s).toNat) (w := w.toNat) (v := v) hR.2.2.2.2.1 (by rw [show ((w.toNat : Nat) : Int) = w by omega]; exact h15)
            first
              | (have w0 : w.toNat = 0 := by omega
                 have v0 : v = 0 := by omega
                 have r2 := set_RB (v := 0) r1 (by omega) (K := (2 * k + s).toNat) (w := 2) (show (2 * k + s).toNat < 2 * B.1 by omega) (by omega)
                 have f2 : Fb m (setI (setI m 107 (sdx (2 * k + s).toNat w.toNat) v) 107 (sdx (2 * k + s).toNat 2) 0) := f1.set (by unfold sdx; omega)
                 have r3 : RB 0 (setI (setI m 107 (sdx (2 * k + s).toNat w.toNat) v) 107 (sdx (2 * k + s).toNat 2) 0) (bkSet B (2 * k + s).toNat w.toNat v) := r2.ext rfl (fun _ _ _ => rfl) (fun w' k' hw' => by
                   simp only [bkSet]
                   by_cases e : k' = (2 * k + s).toNat
                   · by_cases e2 : w' = 2
                     · rw [if_pos e, if_neg (by omega), if_pos ⟨e2, w0, v0⟩, if_pos ⟨e, e2⟩]
                     · by_cases e3 : w' = w.toNat
                       · rw [if_pos e, if_pos e3, if_neg (by omega), if_pos ⟨e, e3⟩]
                       · rw [if_pos e, if_neg e3, if_neg (by omega), if_neg (by omega), if_neg (by omega)]
                   · rw [if_neg e, if_neg (by omega), if_neg (by omega)])
                 exact QI_mk ⟨rfl, f2.l, hR.bk f2 r3 ok, hX.fb f2⟩)
              | (have r3 : RB 0 (setI m 107 (sdx (2 * k + s).toNat w.toNat) v) (bkSet B (2 * k + s).toNat w.toNat v) := r1.ext rfl (fun _ _ _ => rfl) (fun w' k' hw' => by
                   simp only [bkSet]
                   by_cases e : k' = (2 * k + s).toNat
                   · by_cases e3 : w' = w.toNat
                     · rw [if_pos e, if_pos e3, if_pos ⟨e, e3⟩]
                     · rw [if_pos e, if_neg e3, if_neg (by omega), if_neg (by omega)]
                   · rw [if_neg e, if_neg (by omega)])
                 exact QI_mk ⟨rfl, f1.l, hR.bk f1 r3 ok, hX.fb f1⟩)
      · refine R_aload_n 26 rfl dX11_set_25 rfl ?_
        refine R_iload_n 27 rfl dX11_set_26 rfl ?_
        refine R_iload_n 28 rfl dX11_set_27 rfl ?_
        refine R_iconst 29 rfl dX11_set_28 ?_
        refine R_callV_i (M' := mX11_of5) 32 rfl dX11_set_29 ml_X11_198 kmX11_of5 im_X11_of5 se_X11_of5 rfl ⟨by decide, rfl⟩ (c_X11_of5 _ _ _ (2 * k + s).toNat 0 hR (by omega) (by omega) (by omega) (by omega) (by omega)) rfl rfl ⟨Nat.le_of_ble_eq_true rfl, Nat.le_of_ble_eq_true rfl⟩ (Nat.le_of_ble_eq_true rfl) ⟨Nat.le_of_ble_eq_true rfl, Nat.le_of_ble_eq_true rfl⟩ ?_
        refine R_if_ne 35 38 rfl rfl dX11_set_32 (by first | assumption | exact ⟨by omega, by omega⟩) (fun h32 => ?_) (fun h32 => ?_)
        · refine R_bipush 40 rfl dX11_set_38 (by decide) ?_
          refine R_iload_n 41 rfl dX11_set_40 rfl ?_
          refine R_imul 42 rfl dX11_set_41 ?_
          refine R_iconst 43 rfl dX11_set_42 ?_
          refine R_iadd 44 rfl dX11_set_43 ?_
          refine R_iconst 45 rfl dX11_set_44 ?_
          refine R_iload_n 46 rfl dX11_set_45 rfl ?_
          refine R_imul 47 rfl dX11_set_46 ?_
          refine R_iadd 48 rfl dX11_set_47 ?_
          refine R_istore [_, _, _, _, _, _, _] 50 rfl dX11_set_48 rfl (by decide) ?_
          refine R_aload_n 51 rfl dX11_set_50 rfl ?_
          refine R_getP 19 54 rfl dX11_set_51 rfl rfl fl_X11_40 (hP _ _ _ rfl) ?_
          refine R_iload 56 rfl dX11_set_54 rfl ?_
          refine R_iload_n 57 rfl dX11_set_56 rfl ?_
          refine R_iadd 58 rfl dX11_set_57 ?_
          refine R_iald (sdx (2 * k + s).toNat w.toNat) 59 rfl dX11_set_58 rfl (by unfold sdx; omega) (by unfold sdx; omega) (by decide) ?_
          rw [b0]
          refine R_istore [_, _, _, _, _, _, _] 61 rfl dX11_set_59 rfl (by decide) ?_
          refine R_aload_n 62 rfl dX11_set_61 rfl ?_
          refine R_getP 19 65 rfl dX11_set_62 rfl rfl fl_X11_40 (hP _ _ _ rfl) ?_
          refine R_iload 67 rfl dX11_set_65 rfl ?_
          refine R_iload_n 68 rfl dX11_set_67 rfl ?_
          refine R_iadd 69 rfl dX11_set_68 ?_
          refine R_iload 71 rfl dX11_set_69 rfl ?_
          refine R_iast (sdx (2 * k + s).toNat w.toNat) 72 rfl dX11_set_71 rfl (by unfold sdx; omega) (by unfold sdx; omega) (by decide) ?_
          refine R_iload_n 73 rfl dX11_set_72 rfl ?_
          refine R_if_ne 76 91 rfl rfl dX11_set_73 (by first | assumption | exact ⟨by omega, by omega⟩) (fun h73 => ?_) (fun h73 => ?_)
          · refine R_iload 93 rfl dX11_set_91 rfl ?_
            refine R_ireturn dX11_set_93 rfl ?_
            have c2 : ¬ setNo B k s w = true := fun q => by unfold setNo at q; have := of_decide_eq_true q; omega
            rw [if_pos ⟨c1, c2⟩, if_pos c1, if_neg c2]
            have r1 := set_RB (v := v) hR.2.2.2.1 h3 (K := (2 * k + s).toNat) (w := w.toNat) (by omega) (by omega)
            have f1 : Fb m (setI m 107 (sdx (2 * k + s).toNat w.toNat) v) := Fb.rf.set (by unfold sdx; omega)
            have ok := bkSet_ok (k := (2 * k + s).toNat) (w := w.toNat) (v := v) hR.2.2.2.2.1 (by rw [show ((w.toNat : Nat) : Int) = w by omega]; exact h15)
            first
              | (have w0 : w.toNat = 0 := by omega
                 have v0 : v = 0 := by omega
                 have r2 := set_RB (v := 0) r1 (by omega) (K := (2 * k + s).toNat) (w := 2) (show (2 * k + s).toNat < 2 * B.1 by omega) (by omega)
                 have f2 : Fb m (setI (setI m 107 (sdx (2 * k + s).toNat w.toNat) v) 107 (sdx (2 * k + s).toNat 2) 0) := f1.set (by unfold sdx; omega)
                 have r3 : RB 0 (setI (setI m 107 (sdx (2 * k + s).toNat w.toNat) v) 107 (sdx (2 * k + s).toNat 2) 0) (bkSet B (2 * k + s).toNat w.toNat v) := r2.ext rfl (fun _ _ _ => rfl) (fun w' k' hw' => by
                   simp only [bkSet]
                   by_cases e : k' = (2 * k + s).toNat
                   · by_cases e2 : w' = 2
                     · rw [if_pos e, if_neg (by omega), if_pos ⟨e2, w0, v0⟩, if_pos ⟨e, e2⟩]
                     · by_cases e3 : w' = w.toNat
                       · rw [if_pos e, if_pos e3, if_neg (by omega), if_pos ⟨e, e3⟩]
                       · rw [if_pos e, if_neg e3, if_neg (by omega), if_neg (by omega), if_neg (by omega)]
                   · rw [if_neg e, if_neg (by omega), if_neg (by omega)])
                 exact QI_mk ⟨rfl, f2.l, hR.bk f2 r3 ok, hX.fb f2⟩)
              | (have r3 : RB 0 (setI m 107 (sdx (2 * k + s).toNat w.toNat) v) (bkSet B (2 * k + s).toNat w.toNat v) := r1.ext rfl (fun _ _ _ => rfl) (fun w' k' hw' => by
                   simp only [bkSet]
                   by_cases e : k' = (2 * k + s).toNat
                   · by_cases e3 : w' = w.toNat
                     · rw [if_pos e, if_pos e3, if_pos ⟨e, e3⟩]
                     · rw [if_pos e, if_neg e3, if_neg (by omega), if_neg (by omega)]
                   · rw [if_neg e, if_neg (by omega)])
                 exact QI_mk ⟨rfl, f1.l, hR.bk f1 r3 ok, hX.fb f1⟩)
          · refine R_iload 78 rfl dX11_set_76 rfl ?_
            refine R_if_ne 81 91 rfl rfl dX11_set_78 (by first | assumption | exact ⟨by omega, by omega⟩) (fun h78 => ?_) (fun h78 => ?_)
            · refine R_iload 93 rfl dX11_set_91 rfl ?_
              refine R_ireturn dX11_set_93 rfl ?_
              have c2 : ¬ setNo B k s w = true := fun q => by unfold setNo at q; have := of_decide_eq_true q; omega
              rw [if_pos ⟨c1, c2⟩, if_pos c1, if_neg c2]
              have r1 := set_RB (v := v) hR.2.2.2.1 h3 (K := (2 * k + s).toNat) (w := w.toNat) (by omega) (by omega)
              have f1 : Fb m (setI m 107 (sdx (2 * k + s).toNat w.toNat) v) := Fb.rf.set (by unfold sdx; omega)
              have ok := bkSet_ok (k := (2 * k + s).toNat) (w := w.toNat) (v := v) hR.2.2.2.2.1 (by rw [show ((w.toNat : Nat) : Int) = w by omega]; exact h15)
              first
                | (have w0 : w.toNat = 0 := by omega
                   have v0 : v = 0 := by omega
                   have r2 := set_RB (v := 0) r1 (by omega) (K := (2 * k + s).toNat) (w := 2) (show (2 * k + s).toNat < 2 * B.1 by omega) (by omega)
                   have f2 : Fb m (setI (setI m 107 (sdx (2 * k + s).toNat w.toNat) v) 107 (sdx (2 * k + s).toNat 2) 0) := f1.set (by unfold sdx; omega)
                   have r3 : RB 0 (setI (setI m 107 (sdx (2 * k + s).toNat w.toNat) v) 107 (sdx (2 * k + s).toNat 2) 0) (bkSet B (2 * k + s).toNat w.toNat v) := r2.ext rfl (fun _ _ _ => rfl) (fun w' k' hw' => by
                     simp only [bkSet]
                     by_cases e : k' = (2 * k + s).toNat
                     · by_cases e2 : w' = 2
                       · rw [if_pos e, if_neg (by omega), if_pos ⟨e2, w0, v0⟩, if_pos ⟨e, e2⟩]
                       · by_cases e3 : w' = w.toNat
                         · rw [if_pos e, if_pos e3, if_neg (by omega), if_pos ⟨e, e3⟩]
                         · rw [if_pos e, if_neg e3, if_neg (by omega), if_neg (by omega), if_neg (by omega)]
                     · rw [if_neg e, if_neg (by omega), if_neg (by omega)])
                   exact QI_mk ⟨rfl, f2.l, hR.bk f2 r3 ok, hX.fb f2⟩)
                | (have r3 : RB 0 (setI m 107 (sdx (2 * k + s).toNat w.toNat) v) (bkSet B (2 * k + s).toNat w.toNat v) := r1.ext rfl (fun _ _ _ => rfl) (fun w' k' hw' => by
                     simp only [bkSet]
                     by_cases e : k' = (2 * k + s).toNat
                     · by_cases e3 : w' = w.toNat
                       · rw [if_pos e, if_pos e3, if_pos ⟨e, e3⟩]
                       · rw [if_pos e, if_neg e3, if_neg (by omega), if_neg (by omega)]
                     · rw [if_neg e, if_neg (by omega)])
                   exact QI_mk ⟨rfl, f1.l, hR.bk f1 r3 ok, hX.fb f1⟩)
            · refine R_aload_n 82 rfl dX11_set_81 rfl ?_
              refine R_getP 19 85 rfl dX11_set_82 rfl rfl fl_X11_40 (hP _ _ _ rfl) ?_
              refine R_iload 87 rfl dX11_set_85 rfl ?_
              refine R_iconst 88 rfl dX11_set_87 ?_
              refine R_iadd 89 rfl dX11_set_88 ?_
              refine R_iconst 90 rfl dX11_set_89 ?_
              refine R_iast (sdx (2 * k + s).toNat 2) 91 rfl dX11_set_90 rfl (by unfold sdx; omega) (by unfold sdx; omega) (by decide) ?_
              refine R_iload 93 rfl dX11_set_91 rfl ?_
              refine R_ireturn dX11_set_93 rfl ?_
              have c2 : ¬ setNo B k s w = true := fun q => by unfold setNo at q; have := of_decide_eq_true q; omega
              rw [if_pos ⟨c1, c2⟩, if_pos c1, if_neg c2]
              have r1 := set_RB (v := v) hR.2.2.2.1 h3 (K := (2 * k + s).toNat) (w := w.toNat) (by omega) (by omega)
              have f1 : Fb m (setI m 107 (sdx (2 * k + s).toNat w.toNat) v) := Fb.rf.set (by unfold sdx; omega)
              have ok := bkSet_ok (k := (2 * k + s).toNat) (w := w.toNat) (v := v) hR.2.2.2.2.1 (by rw [show ((w.toNat : Nat) : Int) = w by omega]; exact h15)
              first
                | (have w0 : w.toNat = 0 := by omega
                   have v0 : v = 0 := by omega
                   have r2 := set_RB (v := 0) r1 (by omega) (K := (2 * k + s).toNat) (w := 2) (show (2 * k + s).toNat < 2 * B.1 by omega) (by omega)
                   have f2 : Fb m (setI (setI m 107 (sdx (2 * k + s).toNat w.toNat) v) 107 (sdx (2 * k + s).toNat 2) 0) := f1.set (by unfold sdx; omega)
                   have r3 : RB 0 (setI (setI m 107 (sdx (2 * k + s).toNat w.toNat) v) 107 (sdx (2 * k + s).toNat 2) 0) (bkSet B (2 * k + s).toNat w.toNat v) := r2.ext rfl (fun _ _ _ => rfl) (fun w' k' hw' => by
                     simp only [bkSet]
                     by_cases e : k' = (2 * k + s).toNat
                     · by_cases e2 : w' = 2
                       · rw [if_pos e, if_neg (by omega), if_pos ⟨e2, w0, v0⟩, if_pos ⟨e, e2⟩]
                       · by_cases e3 : w' = w.toNat
                         · rw [if_pos e, if_pos e3, if_neg (by omega), if_pos ⟨e, e3⟩]
                         · rw [if_pos e, if_neg e3, if_neg (by omega), if_neg (by omega), if_neg (by omega)]
                     · rw [if_neg e, if_neg (by omega), if_neg (by omega)])
                   exact QI_mk ⟨rfl, f2.l, hR.bk f2 r3 ok, hX.fb f2⟩)
                | (have r3 : RB 0 (setI m 107 (sdx (2 * k + s).toNat w.toNat) v) (bkSet B (2 * k + s).toNat w.toNat v) := r1.ext rfl (fun _ _ _ => rfl) (fun w' k' hw' => by
                     simp only [bkSet]
                     by_cases e : k' = (2 * k + s).toNat
                     · by_cases e3 : w' = w.toNat
                       · rw [if_pos e, if_pos e3, if_pos ⟨e, e3⟩]
                       · rw [if_pos e, if_neg e3, if_neg (by omega), if_neg (by omega)]
                     · rw [if_neg e, if_neg (by omega)])
                   exact QI_mk ⟨rfl, f1.l, hR.bk f1 r3 ok, hX.fb f1⟩)
        · refine R_bipush 37 rfl dX11_set_35 (by decide) ?_
          refine R_ireturn dX11_set_37 rfl ?_
          have c2 : setNo B k s w = true := by unfold setNo; exact decide_eq_true ⟨by omega, by omega⟩
          rw [if_neg (fun q => q.2 c2), if_pos c1, if_pos c2]
          exact QI_mk ⟨rfl, Fl.rf, hR, hX⟩
    · refine R_iconst 19 rfl dX11_set_18 ?_
      refine R_ireturn dX11_set_19 rfl ?_
      have c1 : ¬ setOk B k s w v = true := fun q => by unfold setOk at q; have := of_decide_eq_true q; first | exact h15 this.2 | exact h6 this.1
      rw [if_neg (fun q => c1 q.1), if_neg c1]
      exact QI_mk ⟨rfl, Fl.rf, hR, hX⟩
theorem c_X11_sizeP (hP : RP m) : C Γ mX11_size 0 0 0 0 [vr 96] SH m (Qi SH m (m.1 107 650)) := by
  refine C_of_R rfl (Nat.le_of_ble_eq_true rfl) ?_
  refine R_aload_n 1 rfl dX11_size_0 rfl ?_
  refine R_getP 19 4 rfl dX11_size_1 rfl rfl fl_X11_40 (hP _ _ _ rfl) ?_
  refine R_sipush 7 rfl dX11_size_4 (by decide) ?_
  refine R_iald 650 8 rfl dX11_size_7 rfl (by first | rfl | omega) (by decide) (by decide) ?_
  refine R_ireturn dX11_size_8 rfl ?_
  exact Qi_mk rfl
theorem c_X11_tear (k : Int) (hR : RS L B ch m) (hX : RX T F I S N m) (hk : rg k) : C Γ mX11_tear 1 40 0 0 [vr 96, vi k] SH m (QR L (if 0 ≤ k ∧ k < B.1 then bkDrop B k.toNat else B) ch T F I S N m (if 0 ≤ k ∧ k < B.1 then (B.1 : Int) - 1 else -1)) := by
  refine C_of_R rfl (Nat.le_of_ble_eq_true rfl) ?_
  have h3 := hR.2.2.2.2.1.1
  have hB := hR.2.2.2.1
  have Lp : 0 ≤ k ∧ k < B.1 → ∀ j, j ≤ 16 * (B.1 - 1 - k.toNat) → ∀ z m1, z = 16 * k + (j : Int) → Fb m m1 → (∀ i, (i < 16 * k.toNat ∨ 16 * k.toNat + j ≤ i) → m1.1 107 i = m.1 107 i) → (∀ i, i < j → m1.1 107 (16 * k.toNat + i) = m.1 107 (16 * k.toNat + i + 16)) → R Γ mX11_tear { frames := 1, cells := 0, slots := 0, locals := 40 } 0 0 (QR L (if 0 ≤ k ∧ k < B.1 then bkDrop B k.toNat else B) ch T F I S N m (if 0 ≤ k ∧ k < B.1 then (B.1 : Int) - 1 else -1)) 0 0 23 [some (vr 96), some (vi k), some (vi z)] [] SH m1 := by
    intro ho
    refine up_ind (16 * (B.1 - 1 - k.toNat)) (fun j hj ih z m1 hz hf h0 h1 => ?_)
    have hP : RP m1 := fun a k r q => by rw [hf.2]; exact hR.1 a k r q
    have e650 : m1.1 107 650 = (B.1 : Int) := (h0 650 (by omega)).trans hB.1
    have fin : j = 16 * (B.1 - 1 - k.toNat) → Fb m (setI m1 107 650 ((B.1 : Int) - 1)) ∧ RS L (bkDrop B k.toNat) ch (setI m1 107 650 ((B.1 : Int) - 1)) := by
      intro ej
      have f2 : Fb m (setI m1 107 650 ((B.1 : Int) - 1)) := hf.set (Or.inr rfl)
      refine ⟨f2, hR.bk f2 ⟨?_, fun i hi w hw => ?_, fun i hi w hw => ?_⟩ (bkDrop_k hR.2.2.2.2.1 (by omega))⟩
      · simp [setI, bkDrop]; omega
      · have hi2 : i < B.1 - 1 := hi
        simp only [setI, bkDrop]
        rw [if_neg (by omega)]
        by_cases e : i < k.toNat
        · rw [if_pos e, h0 _ (by omega)]; exact hB.2.1 i (by omega) w hw
        · rw [if_neg e, show 0 + 16 * i + w = 16 * k.toNat + (16 * (i - k.toNat) + w) by omega, h1 _ (by omega)]
          have := hB.2.1 (i + 1) (by omega) w hw
          rw [← this]
          exact congrArg (m.1 107) (by omega)
      · have hi2 : i < 2 * (B.1 - 1) := hi
        simp only [setI, bkDrop]
        rw [if_neg (by omega)]
        by_cases e : i < 2 * k.toNat
        · rw [if_pos e, h0 _ (by omega)]; exact hB.2.2 i (by omega) w hw
        · rw [if_neg e, show 0 + 16 * (i / 2) + 3 + 5 * (i % 2) + w = 16 * k.toNat + (16 * (i / 2 - k.toNat) + 3 + 5 * (i % 2) + w) by omega, h1 _ (by omega)]
          have := hB.2.2 (i + 2) (by omega) w hw
          rw [← this]
          exact congrArg (m.1 107) (by omega)
    refine R_iload_n 24 rfl dX11_tear_23 rfl ?_
    refine R_bipush 26 rfl dX11_tear_24 (by decide) ?_
    refine R_aload_n 27 rfl dX11_tear_26 rfl ?_
    refine R_callV_i (M' := mX11_size) 30 rfl dX11_tear_27 ml_X11_150 kmX11_size im_X11_size se_X11_size rfl ⟨by decide, rfl⟩ (c_X11_sizeP hP) rfl rfl ⟨Nat.le_of_ble_eq_true rfl, Nat.le_of_ble_eq_true rfl⟩ (Nat.le_of_ble_eq_true rfl) ⟨Nat.le_of_ble_eq_true rfl, Nat.le_of_ble_eq_true rfl⟩ ?_
    refine R_iconst 31 rfl dX11_tear_30 ?_
    refine R_isub 32 rfl dX11_tear_31 ?_
    refine R_imul 33 rfl dX11_tear_32 ?_
    refine R_icmp_ge 36 57 rfl rfl dX11_tear_33 (by first | assumption | exact ⟨by omega, by omega⟩) (by first | assumption | exact ⟨by omega, by omega⟩) (fun h33 => ?_) (fun h33 => ?_)
    · refine R_aload_n 58 rfl dX11_tear_57 rfl ?_
      refine R_getP 19 61 rfl dX11_tear_58 rfl rfl fl_X11_40 (hP _ _ _ rfl) ?_
      refine R_sipush 64 rfl dX11_tear_61 (by decide) ?_
      refine R_dup2 65 rfl dX11_tear_64 rfl rfl ?_
      refine R_iald 650 66 rfl dX11_tear_65 rfl (by first | rfl | omega) (by decide) (by decide) ?_
      rw [e650]
      obtain ⟨f66, r66⟩ := fin (by omega)
      refine R_iconst 67 rfl dX11_tear_66 ?_
      refine R_isub 68 rfl dX11_tear_67 ?_
      refine R_iast 650 69 rfl dX11_tear_68 rfl (by first | rfl | omega) (by decide) (by decide) ?_
      refine R_aload_n 70 rfl dX11_tear_69 rfl ?_
      refine R_callV_i (M' := mX11_size) 73 rfl dX11_tear_70 ml_X11_150 kmX11_size im_X11_size se_X11_size rfl ⟨by decide, rfl⟩ (c_X11_size r66) rfl rfl ⟨Nat.le_of_ble_eq_true rfl, Nat.le_of_ble_eq_true rfl⟩ (Nat.le_of_ble_eq_true rfl) ⟨Nat.le_of_ble_eq_true rfl, Nat.le_of_ble_eq_true rfl⟩ ?_
      refine R_ireturn dX11_tear_73 rfl ?_
      rw [if_pos ho, if_pos ho]
      exact QI_mk ⟨by show ((B.1 - 1 : Nat) : Int) = _; omega, f66.l, r66, hX.fb f66⟩
    · refine R_aload_n 37 rfl dX11_tear_36 rfl ?_
      refine R_getP 19 40 rfl dX11_tear_37 rfl rfl fl_X11_40 (hP _ _ _ rfl) ?_
      refine R_iload_n 41 rfl dX11_tear_40 rfl ?_
      refine R_aload_n 42 rfl dX11_tear_41 rfl ?_
      refine R_getP 19 45 rfl dX11_tear_42 rfl rfl fl_X11_40 (hP _ _ _ rfl) ?_
      refine R_iload_n 46 rfl dX11_tear_45 rfl ?_
      refine R_bipush 48 rfl dX11_tear_46 (by decide) ?_
      refine R_iadd 49 rfl dX11_tear_48 ?_
      refine R_iald (16 * k.toNat + j + 16) 50 rfl dX11_tear_49 rfl (by first | rfl | omega) (by omega) (by decide) ?_
      refine R_iast (16 * k.toNat + j) 51 rfl dX11_tear_50 rfl (by first | rfl | omega) (by omega) (by decide) ?_
      refine R_iinc [_, _, _] 54 rfl dX11_tear_51 rfl rfl (by decide) ?_
      refine R_goto 23 rfl dX11_tear_54 ?_
      refine ih (by omega) _ _ (by omega) (hf.set (by omega)) (fun i hi => ?_) (fun i hi => ?_)
      · simp only [setI]; rw [if_neg (by omega)]; exact h0 i (by omega)
      · simp only [setI]
        by_cases e : i = j
        · subst e; rw [if_pos ⟨trivial, rfl⟩]; exact h0 _ (by omega)
        · rw [if_neg (by omega)]; exact h1 i (by omega)
  refine R_iload_n 1 rfl dX11_tear_0 rfl ?_
  refine R_i2l 2 rfl dX11_tear_1 (by first | assumption | exact ⟨by omega, by omega⟩) ?_
  refine R_lconst 3 rfl dX11_tear_2 ?_
  refine R_topL (b := 0) rfl ?_
  refine R_aload_n 4 rfl dX11_tear_3 rfl ?_
  refine R_callV_i (M' := mX11_size) 7 rfl dX11_tear_4 ml_X11_150 kmX11_size im_X11_size se_X11_size rfl ⟨by decide, rfl⟩ (c_X11_size hR) rfl rfl ⟨Nat.le_of_ble_eq_true rfl, Nat.le_of_ble_eq_true rfl⟩ (Nat.le_of_ble_eq_true rfl) ⟨Nat.le_of_ble_eq_true rfl, Nat.le_of_ble_eq_true rfl⟩ ?_
  refine R_iconst 8 rfl dX11_tear_7 ?_
  refine R_isub 9 rfl dX11_tear_8 ?_
  refine R_i2l 10 rfl dX11_tear_9 (by first | assumption | exact ⟨by omega, by omega⟩) ?_
  refine R_callS_i (M' := mX11_in) 13 rfl dX11_tear_10 ml_X11_63 kmX11_in st_X11_in (c_X11_in _ _ _ (by first | assumption | exact ⟨by omega, by omega⟩ | exact rg_L (by assumption)) (by first | assumption | exact ⟨by omega, by omega⟩ | exact rg_L (by assumption)) (by first | assumption | exact ⟨by omega, by omega⟩ | exact rg_L (by assumption))) rfl rfl ⟨Nat.le_of_ble_eq_true rfl, Nat.le_of_ble_eq_true rfl⟩ (Nat.le_of_ble_eq_true rfl) ⟨Nat.le_of_ble_eq_true rfl, Nat.le_of_ble_eq_true rfl⟩ ?_
  refine R_ifp_ne 16 18 rfl rfl dX11_tear_13 (fun h13 => ?_) (fun h13 => ?_)
  · refine R_bipush 20 rfl dX11_tear_18 (by decide) ?_
    refine R_iload_n 21 rfl dX11_tear_20 rfl ?_
    refine R_imul 22 rfl dX11_tear_21 ?_
    refine R_istore_n [_, _, _] 23 rfl dX11_tear_22 rfl (by decide) ?_
    exact Lp (by omega) 0 (by omega) _ _ (by omega) Fb.rf (fun i _ => rfl) (fun i hi => by omega)
  · refine R_iconst 17 rfl dX11_tear_16 ?_
    refine R_ireturn dX11_tear_17 rfl ?_
    rw [if_neg (by omega), if_neg (by omega)]
    exact QI_mk ⟨rfl, Fl.rf, hR, hX⟩
end
