/-! images: keep, back; count -/
def imSet (I : Nat → Im) (k : Nat) (J : Im) : Nat → Im := fun j => if j = k then J else I j
def isI0 (a : Nat) : Bool := decide (48 ≤ a ∧ a ≤ 61)
def isI1 (a : Nat) : Bool := decide (62 ≤ a ∧ a ≤ 75)
def imBack (L : Ld) (J : Im) : Bool := J.1 && allN (fun k => decide (J.2.1.2.1 0 k < L.1 0)) J.2.1.1
def chBk (L : Ld) (ch : Cs) : Cs := fun c j => if j = 0 then (((ch c 0).toNat &&& (allB L).toNat : Nat) : Int) else ch c j
section
variable {Γ : GX} {m m' : Mem} {B B' : Bk} {L : Ld} {ch ch' : Cs} {o d : Nat} {T : Tp} {F N : Int} {I : Nat → Im} {S : Nat → Sht} {P : Nat → Bool}
theorem pI_e1 {c : Prop} [Decidable c] (h : pI c = 1) : c := Classical.byContradiction fun q => by rw [pI_f q] at h; exact absurd h (by decide)
theorem pI_e0 {c : Prop} [Decidable c] (h : pI c = 0) : ¬ c := fun q => by rw [pI_t q] at h; exact absurd h (by decide)
theorem BkOk.wk {np np' : Int} (h : BkOk np B) (hn : np ≤ np') : BkOk np' B := ⟨h.1, fun k hk => by have := h.2.1 k hk; omega, h.2.2⟩
theorem chBk_ok {ch : Cs} (h : ChOk ch) : ChOk (chBk L ch) := by
  intro c hc
  have h1 := h c hc
  have h2 : (ch c 0).toNat &&& (allB L).toNat ≤ (ch c 0).toNat := Nat.and_le_left
  simp only [chBk]
  simp
  omega
theorem ChR.mk5 {x : Nat} {f : Nat → Int} (p q t s r : Int) (h0 : p = f 0) (h1 : q = f 1) (h2 : t = f 2) (h3 : s = f 3) (h4 : r = f 4) : ChR x (chM m x p q t s r) f := by
  subst h0 h1 h2 h3 h4
  refine ⟨?_, ?_, ?_, ?_, ?_⟩ <;> simp [chM, setI]
theorem ChR.nc {x y : Nat} {f : Nat → Int} {p q t s r : Int} (h : ChR x m f) (hxy : x ≠ y) : ChR x (chM m y p q t s r) f := h.eq (fun k => by simp [chM, setI, hxy])
theorem Fr.cm {y : Nat} {p q t s r : Int} (h : Fr P m m') (hy : P y = true) : Fr P m (chM m' y p q t s r) := ((((h.set hy).set hy).set hy).set hy).set hy
theorem ChR.fr {x : Nat} {f : Nat → Int} (h : ChR x m f) (hf : Fr P m m') (hx : P x = false) : ChR x m' f := h.eq (fun k => hf.1 x k hx)
theorem Ex.im0 {J : Im} (h : Ex T F I S N m) (hf : Fr isI0 m m') (hI : ImC0 m' J) (hO : ImOk J) : Ex T F (imSet I 0 J) S N m' := by
  obtain ⟨⟨h1, h1'⟩, h2, ⟨h3, h4, h5, h6⟩, h7, h8, h9⟩ := h
  have e : ∀ a k, a < 48 ∨ 61 < a → m'.1 a k = m.1 a k := fun a k q => hf.1 a k (by simp [isI0]; omega)
  refine ⟨⟨h1.eq (fun a k q1 q2 => e a k (by omega)), h1'⟩, ⟨by rw [e 0 4 (by omega)]; exact h2.1, h2.2⟩, ?_, fun k hk => ⟨(h7 k hk).1.eq (fun a j q1 q2 => e a j (by omega)), (h7 k hk).2⟩, by rw [e 0 10 (by omega)]; exact h8, h9⟩
  first
    | exact ⟨hI, h4.eq (fun a k q1 q2 => e a k (by omega)), hO, h6⟩
    | exact ⟨h3.eq (fun a k q1 q2 => e a k (by omega)), hI, h5, hO⟩
theorem Ex.im1 {J : Im} (h : Ex T F I S N m) (hf : Fr isI1 m m') (hI : ImC1 m' J) (hO : ImOk J) : Ex T F (imSet I 1 J) S N m' := by
  obtain ⟨⟨h1, h1'⟩, h2, ⟨h3, h4, h5, h6⟩, h7, h8, h9⟩ := h
  have e : ∀ a k, a < 62 ∨ 75 < a → m'.1 a k = m.1 a k := fun a k q => hf.1 a k (by simp [isI1]; omega)
  refine ⟨⟨h1.eq (fun a k q1 q2 => e a k (by omega)), h1'⟩, ⟨by rw [e 0 4 (by omega)]; exact h2.1, h2.2⟩, ?_, fun k hk => ⟨(h7 k hk).1.eq (fun a j q1 q2 => e a j (by omega)), (h7 k hk).2⟩, by rw [e 0 10 (by omega)]; exact h8, h9⟩
  first
    | exact ⟨hI, h4.eq (fun a k q1 q2 => e a k (by omega)), hO, h6⟩
    | exact ⟨h3.eq (fun a k q1 q2 => e a k (by omega)), hI, h5, hO⟩
theorem c_X10_keep0 (hCS : CS o d L B ch m) (hEx : Ex T F I S N m) : C Γ mX10_keep 3 120 0 0 [vr 0, vi 0] SH m (QS o d L B ch T F (imSet I 0 (true, B, ch)) S N m (pI ((I 0).1 = true))) := by
  refine C_of_R rfl (Nat.le_of_ble_eq_true rfl) ?_
  obtain ⟨hPO, hB, hO, hL, hLO, hC, hCO, hst, hkc⟩ := id hCS
  have hP := hPO.2
  have hI := hEx.2.2.1.1
  have hI1 := hI.1
  have h01 : m.1 48 0 = 0 ∨ m.1 48 0 = 1 := by rw [hI.1]; exact pI_01 _
  have fa : Fr isI0 m (setI m 48 0 1) := Fr.rf.set rfl
  have fb : Fr isI0 m (bkCpc (setI m 48 0 1) B.1) := fa.tr ((bkCpc_fr _ _).wk (fun a h => by simp [isI0] at h; simp; omega))
  have hB1 : Bk0 (setI m 48 0 1) B := hB.fr fa (fun a q1 q2 => by simp [isI0]; omega)
  have hB2 := bkCpc_ok hB1
  have hPa := hPO.eq fa.2
  have hPb := (hPO.eq fb.2).2
  have hCb := hC.fr fb rfl rfl
  refine R_iload_n 1 rfl dX10_keep_0 rfl ?_
  refine R_iconst 2 rfl dX10_keep_1 ?_
  refine R_iconst 3 rfl dX10_keep_2 ?_
  refine R_callS_i (M' := mX10_within) 6 rfl dX10_keep_3 ml_X10_108 kmX10_within st_X10_within (c_X10_within _ _ _ (by first | assumption | exact ⟨by omega, by omega⟩) (by first | assumption | exact ⟨by omega, by omega⟩) (by first | assumption | exact ⟨by omega, by omega⟩)) rfl rfl ⟨Nat.le_of_ble_eq_true rfl, Nat.le_of_ble_eq_true rfl⟩ (Nat.le_of_ble_eq_true rfl) ⟨Nat.le_of_ble_eq_true rfl, Nat.le_of_ble_eq_true rfl⟩ ?_
  refine R_ifp_ne 9 11 rfl rfl dX10_keep_6 (fun h6 => ?_) (fun h6 => ?_)
  · refine R_aload_n 12 rfl dX10_keep_11 rfl ?_
    refine R_getP 8 15 rfl dX10_keep_12 rfl rfl fl_X10_61 (hP _ _ _ rfl) ?_
    refine R_iload_n 16 rfl dX10_keep_15 rfl ?_
    refine R_aald 0 17 rfl dX10_keep_16 rfl rfl (by first | rfl | omega) (by decide) (by decide) (hP _ _ _ rfl) ?_
    refine R_astore_n [_, _, _, _] 18 rfl dX10_keep_17 rfl (by decide) ?_
    refine R_aload_n 19 rfl dX10_keep_18 rfl ?_
    refine R_getI 0 22 rfl dX10_keep_19 rfl rfl fl_X10_346 ?_
    refine R_if_eq 25 29 rfl rfl dX10_keep_22 (by first | assumption | exact ⟨by omega, by omega⟩) (fun h22 => ?_) (fun h22 => ?_)
    · refine R_iconst 30 rfl dX10_keep_29 ?_
      refine R_istore_n [_, _, _, _] 31 rfl dX10_keep_30 rfl (by decide) ?_
      refine R_aload_n 32 rfl dX10_keep_31 rfl ?_
      refine R_iconst 33 rfl dX10_keep_32 ?_
      refine R_putZ 0 36 rfl dX10_keep_33 rfl rfl fl_X10_346 (Or.inr rfl) ?_
      refine R_aload_n 37 rfl dX10_keep_36 rfl ?_
      refine R_getP 1 40 rfl dX10_keep_37 rfl rfl fl_X10_349 (hP _ _ _ rfl) ?_
      refine R_aload_n 41 rfl dX10_keep_40 rfl ?_
      refine R_getP 5 44 rfl dX10_keep_41 rfl rfl fl_X10_40 (hP _ _ _ rfl) ?_
      refine R_callV_v (M' := mX0_copy) 47 rfl dX10_keep_44 ml_X10_350 kmX0_copy im_X0_copy se_X0_copy rfl ⟨by decide, rfl⟩ (c_X0_copyc hPa hB1 hO.1) rfl rfl ⟨Nat.le_of_ble_eq_true rfl, Nat.le_of_ble_eq_true rfl⟩ (Nat.le_of_ble_eq_true rfl) ⟨Nat.le_of_ble_eq_true rfl, Nat.le_of_ble_eq_true rfl⟩ ?_
      refine R_aload_n 48 rfl dX10_keep_47 rfl ?_
      refine R_getP 2 51 rfl dX10_keep_48 rfl rfl fl_X10_354 (hPb _ _ _ rfl) ?_
      refine R_aload_n 52 rfl dX10_keep_51 rfl ?_
      refine R_getP 7 55 rfl dX10_keep_52 rfl rfl fl_X10_54 (hPb _ _ _ rfl) ?_
      refine R_iconst 56 rfl dX10_keep_55 ?_
      refine R_aald 0 57 rfl dX10_keep_56 rfl rfl (by first | rfl | omega) (by decide) (by decide) (hPb _ _ _ rfl) ?_
      refine R_callV_v (M' := mX1_copy) 60 rfl dX10_keep_57 ml_X10_358 kmX1_copy im_X1_copy se_X1_copy rfl ⟨by decide, rfl⟩ (c_X1_copy 60 45 rfl rfl) rfl rfl ⟨Nat.le_of_ble_eq_true rfl, Nat.le_of_ble_eq_true rfl⟩ (Nat.le_of_ble_eq_true rfl) ⟨Nat.le_of_ble_eq_true rfl, Nat.le_of_ble_eq_true rfl⟩ ?_
      refine R_aload_n 61 rfl dX10_keep_60 rfl ?_
      refine R_getP 3 64 rfl dX10_keep_61 rfl rfl fl_X10_361 (hPb _ _ _ rfl) ?_
      refine R_aload_n 65 rfl dX10_keep_64 rfl ?_
      refine R_getP 7 68 rfl dX10_keep_65 rfl rfl fl_X10_54 (hPb _ _ _ rfl) ?_
      refine R_iconst 69 rfl dX10_keep_68 ?_
      refine R_aald 1 70 rfl dX10_keep_69 rfl rfl (by first | rfl | omega) (by decide) (by decide) (hPb _ _ _ rfl) ?_
      refine R_callV_v (M' := mX1_copy) 73 rfl dX10_keep_70 ml_X10_358 kmX1_copy im_X1_copy se_X1_copy rfl ⟨by decide, rfl⟩ (c_X1_copy 61 46 rfl rfl) rfl rfl ⟨Nat.le_of_ble_eq_true rfl, Nat.le_of_ble_eq_true rfl⟩ (Nat.le_of_ble_eq_true rfl) ⟨Nat.le_of_ble_eq_true rfl, Nat.le_of_ble_eq_true rfl⟩ ?_
      refine R_iload_n 74 rfl dX10_keep_73 rfl ?_
      refine R_ireturn dX10_keep_74 rfl ?_
      refine QI_mk ⟨?_, ?_, ?_, ?_⟩
      · first | exact pI_1 (pI_e1 (by omega)) | exact pI_0 (pI_e0 (by omega))
      · exact ((fb.cm rfl).cm rfl).h (fun a q => by simp [isI0]; omega)
      · exact hCS.fr (((fb.cm rfl).cm rfl) : Fr isI0 m _) (fun a q1 q2 => by simp [isI0]; omega)
      · refine hEx.im0 ((fb.cm rfl).cm rfl) ⟨?_, fun _ => ⟨?_, ?_, ?_⟩⟩ (fun _ => ⟨hO.wk hLO.1.2.1, hCO⟩)
        · refine Eq.trans ?_ (pI_1 (c := (true = true)) rfl)
          simp [chM, bkCpc, cpyB, cpyI, setI]
        · exact (hB2.eq (fun a k ha => by simp only [chM, setI]; rw [if_neg (by omega), if_neg (by omega), if_neg (by omega), if_neg (by omega), if_neg (by omega), if_neg (by omega), if_neg (by omega), if_neg (by omega), if_neg (by omega), if_neg (by omega)]))
        · exact (ChR.mk5 _ _ _ _ _ hCb.1.1 hCb.1.2.1 hCb.1.2.2.1 hCb.1.2.2.2.1 hCb.1.2.2.2.2).nc (by decide)
        · obtain ⟨g0, g1, g2, g3, g4⟩ := hCb.2.nc (y := 60) (p := _) (q := _) (t := _) (s := _) (r := _) (by decide)
          exact ChR.mk5 _ _ _ _ _ g0 g1 g2 g3 g4
    · refine R_iconst 26 rfl dX10_keep_25 ?_
      refine R_goto 30 rfl dX10_keep_26 ?_
      refine R_istore_n [_, _, _, _] 31 rfl dX10_keep_30 rfl (by decide) ?_
      refine R_aload_n 32 rfl dX10_keep_31 rfl ?_
      refine R_iconst 33 rfl dX10_keep_32 ?_
      refine R_putZ 0 36 rfl dX10_keep_33 rfl rfl fl_X10_346 (Or.inr rfl) ?_
      refine R_aload_n 37 rfl dX10_keep_36 rfl ?_
      refine R_getP 1 40 rfl dX10_keep_37 rfl rfl fl_X10_349 (hP _ _ _ rfl) ?_
      refine R_aload_n 41 rfl dX10_keep_40 rfl ?_
      refine R_getP 5 44 rfl dX10_keep_41 rfl rfl fl_X10_40 (hP _ _ _ rfl) ?_
      refine R_callV_v (M' := mX0_copy) 47 rfl dX10_keep_44 ml_X10_350 kmX0_copy im_X0_copy se_X0_copy rfl ⟨by decide, rfl⟩ (c_X0_copyc hPa hB1 hO.1) rfl rfl ⟨Nat.le_of_ble_eq_true rfl, Nat.le_of_ble_eq_true rfl⟩ (Nat.le_of_ble_eq_true rfl) ⟨Nat.le_of_ble_eq_true rfl, Nat.le_of_ble_eq_true rfl⟩ ?_
      refine R_aload_n 48 rfl dX10_keep_47 rfl ?_
      refine R_getP 2 51 rfl dX10_keep_48 rfl rfl fl_X10_354 (hPb _ _ _ rfl) ?_
      refine R_aload_n 52 rfl dX10_keep_51 rfl ?_
      refine R_getP 7 55 rfl dX10_keep_52 rfl rfl fl_X10_54 (hPb _ _ _ rfl) ?_
      refine R_iconst 56 rfl dX10_keep_55 ?_
      refine R_aald 0 57 rfl dX10_keep_56 rfl rfl (by first | rfl | omega) (by decide) (by decide) (hPb _ _ _ rfl) ?_
      refine R_callV_v (M' := mX1_copy) 60 rfl dX10_keep_57 ml_X10_358 kmX1_copy im_X1_copy se_X1_copy rfl ⟨by decide, rfl⟩ (c_X1_copy 60 45 rfl rfl) rfl rfl ⟨Nat.le_of_ble_eq_true rfl, Nat.le_of_ble_eq_true rfl⟩ (Nat.le_of_ble_eq_true rfl) ⟨Nat.le_of_ble_eq_true rfl, Nat.le_of_ble_eq_true rfl⟩ ?_
      refine R_aload_n 61 rfl dX10_keep_60 rfl ?_
      refine R_getP 3 64 rfl dX10_keep_61 rfl rfl fl_X10_361 (hPb _ _ _ rfl) ?_
      refine R_aload_n 65 rfl dX10_keep_64 rfl ?_
      refine R_getP 7 68 rfl dX10_keep_65 rfl rfl fl_X10_54 (hPb _ _ _ rfl) ?_
      refine R_iconst 69 rfl dX10_keep_68 ?_
      refine R_aald 1 70 rfl dX10_keep_69 rfl rfl (by first | rfl | omega) (by decide) (by decide) (hPb _ _ _ rfl) ?_
      refine R_callV_v (M' := mX1_copy) 73 rfl dX10_keep_70 ml_X10_358 kmX1_copy im_X1_copy se_X1_copy rfl ⟨by decide, rfl⟩ (c_X1_copy 61 46 rfl rfl) rfl rfl ⟨Nat.le_of_ble_eq_true rfl, Nat.le_of_ble_eq_true rfl⟩ (Nat.le_of_ble_eq_true rfl) ⟨Nat.le_of_ble_eq_true rfl, Nat.le_of_ble_eq_true rfl⟩ ?_
      refine R_iload_n 74 rfl dX10_keep_73 rfl ?_
      refine R_ireturn dX10_keep_74 rfl ?_
      refine QI_mk ⟨?_, ?_, ?_, ?_⟩
      · first | exact pI_1 (pI_e1 (by omega)) | exact pI_0 (pI_e0 (by omega))
      · exact ((fb.cm rfl).cm rfl).h (fun a q => by simp [isI0]; omega)
      · exact hCS.fr (((fb.cm rfl).cm rfl) : Fr isI0 m _) (fun a q1 q2 => by simp [isI0]; omega)
      · refine hEx.im0 ((fb.cm rfl).cm rfl) ⟨?_, fun _ => ⟨?_, ?_, ?_⟩⟩ (fun _ => ⟨hO.wk hLO.1.2.1, hCO⟩)
        · refine Eq.trans ?_ (pI_1 (c := (true = true)) rfl)
          simp [chM, bkCpc, cpyB, cpyI, setI]
        · exact (hB2.eq (fun a k ha => by simp only [chM, setI]; rw [if_neg (by omega), if_neg (by omega), if_neg (by omega), if_neg (by omega), if_neg (by omega), if_neg (by omega), if_neg (by omega), if_neg (by omega), if_neg (by omega), if_neg (by omega)]))
        · exact (ChR.mk5 _ _ _ _ _ hCb.1.1 hCb.1.2.1 hCb.1.2.2.1 hCb.1.2.2.2.1 hCb.1.2.2.2.2).nc (by decide)
        · obtain ⟨g0, g1, g2, g3, g4⟩ := hCb.2.nc (y := 60) (p := _) (q := _) (t := _) (s := _) (r := _) (by decide)
          exact ChR.mk5 _ _ _ _ _ g0 g1 g2 g3 g4
  · refine R_iconst 10 rfl dX10_keep_9 ?_
    refine R_ireturn dX10_keep_10 rfl ?_
    exfalso; omega
theorem c_X10_keep1 (hCS : CS o d L B ch m) (hEx : Ex T F I S N m) : C Γ mX10_keep 3 120 0 0 [vr 0, vi 1] SH m (QS o d L B ch T F (imSet I 1 (true, B, ch)) S N m (pI ((I 1).1 = true))) := by
  refine C_of_R rfl (Nat.le_of_ble_eq_true rfl) ?_
  obtain ⟨hPO, hB, hO, hL, hLO, hC, hCO, hst, hkc⟩ := id hCS
  have hP := hPO.2
  have hI := hEx.2.2.1.2.1
  have hI1 := hI.1
  have h01 : m.1 62 0 = 0 ∨ m.1 62 0 = 1 := by rw [hI.1]; exact pI_01 _
  have fa : Fr isI1 m (setI m 62 0 1) := Fr.rf.set rfl
  have fb : Fr isI1 m (bkCpd (setI m 62 0 1) B.1) := fa.tr ((bkCpd_fr _ _).wk (fun a h => by simp [isI1] at h; simp; omega))
  have hB1 : Bk0 (setI m 62 0 1) B := hB.fr fa (fun a q1 q2 => by simp [isI1]; omega)
  have hB2 := bkCpd_ok hB1
  have hPa := hPO.eq fa.2
  have hPb := (hPO.eq fb.2).2
  have hCb := hC.fr fb rfl rfl
  refine R_iload_n 1 rfl dX10_keep_0 rfl ?_
  refine R_iconst 2 rfl dX10_keep_1 ?_
  refine R_iconst 3 rfl dX10_keep_2 ?_
  refine R_callS_i (M' := mX10_within) 6 rfl dX10_keep_3 ml_X10_108 kmX10_within st_X10_within (c_X10_within _ _ _ (by first | assumption | exact ⟨by omega, by omega⟩) (by first | assumption | exact ⟨by omega, by omega⟩) (by first | assumption | exact ⟨by omega, by omega⟩)) rfl rfl ⟨Nat.le_of_ble_eq_true rfl, Nat.le_of_ble_eq_true rfl⟩ (Nat.le_of_ble_eq_true rfl) ⟨Nat.le_of_ble_eq_true rfl, Nat.le_of_ble_eq_true rfl⟩ ?_
  refine R_ifp_ne 9 11 rfl rfl dX10_keep_6 (fun h6 => ?_) (fun h6 => ?_)
  · refine R_aload_n 12 rfl dX10_keep_11 rfl ?_
    refine R_getP 8 15 rfl dX10_keep_12 rfl rfl fl_X10_61 (hP _ _ _ rfl) ?_
    refine R_iload_n 16 rfl dX10_keep_15 rfl ?_
    refine R_aald 1 17 rfl dX10_keep_16 rfl rfl (by first | rfl | omega) (by decide) (by decide) (hP _ _ _ rfl) ?_
    refine R_astore_n [_, _, _, _] 18 rfl dX10_keep_17 rfl (by decide) ?_
    refine R_aload_n 19 rfl dX10_keep_18 rfl ?_
    refine R_getI 0 22 rfl dX10_keep_19 rfl rfl fl_X10_346 ?_
    refine R_if_eq 25 29 rfl rfl dX10_keep_22 (by first | assumption | exact ⟨by omega, by omega⟩) (fun h22 => ?_) (fun h22 => ?_)
    · refine R_iconst 30 rfl dX10_keep_29 ?_
      refine R_istore_n [_, _, _, _] 31 rfl dX10_keep_30 rfl (by decide) ?_
      refine R_aload_n 32 rfl dX10_keep_31 rfl ?_
      refine R_iconst 33 rfl dX10_keep_32 ?_
      refine R_putZ 0 36 rfl dX10_keep_33 rfl rfl fl_X10_346 (Or.inr rfl) ?_
      refine R_aload_n 37 rfl dX10_keep_36 rfl ?_
      refine R_getP 1 40 rfl dX10_keep_37 rfl rfl fl_X10_349 (hP _ _ _ rfl) ?_
      refine R_aload_n 41 rfl dX10_keep_40 rfl ?_
      refine R_getP 5 44 rfl dX10_keep_41 rfl rfl fl_X10_40 (hP _ _ _ rfl) ?_
      refine R_callV_v (M' := mX0_copy) 47 rfl dX10_keep_44 ml_X10_350 kmX0_copy im_X0_copy se_X0_copy rfl ⟨by decide, rfl⟩ (c_X0_copyd hPa hB1 hO.1) rfl rfl ⟨Nat.le_of_ble_eq_true rfl, Nat.le_of_ble_eq_true rfl⟩ (Nat.le_of_ble_eq_true rfl) ⟨Nat.le_of_ble_eq_true rfl, Nat.le_of_ble_eq_true rfl⟩ ?_
      refine R_aload_n 48 rfl dX10_keep_47 rfl ?_
      refine R_getP 2 51 rfl dX10_keep_48 rfl rfl fl_X10_354 (hPb _ _ _ rfl) ?_
      refine R_aload_n 52 rfl dX10_keep_51 rfl ?_
      refine R_getP 7 55 rfl dX10_keep_52 rfl rfl fl_X10_54 (hPb _ _ _ rfl) ?_
      refine R_iconst 56 rfl dX10_keep_55 ?_
      refine R_aald 0 57 rfl dX10_keep_56 rfl rfl (by first | rfl | omega) (by decide) (by decide) (hPb _ _ _ rfl) ?_
      refine R_callV_v (M' := mX1_copy) 60 rfl dX10_keep_57 ml_X10_358 kmX1_copy im_X1_copy se_X1_copy rfl ⟨by decide, rfl⟩ (c_X1_copy 74 45 rfl rfl) rfl rfl ⟨Nat.le_of_ble_eq_true rfl, Nat.le_of_ble_eq_true rfl⟩ (Nat.le_of_ble_eq_true rfl) ⟨Nat.le_of_ble_eq_true rfl, Nat.le_of_ble_eq_true rfl⟩ ?_
      refine R_aload_n 61 rfl dX10_keep_60 rfl ?_
      refine R_getP 3 64 rfl dX10_keep_61 rfl rfl fl_X10_361 (hPb _ _ _ rfl) ?_
      refine R_aload_n 65 rfl dX10_keep_64 rfl ?_
      refine R_getP 7 68 rfl dX10_keep_65 rfl rfl fl_X10_54 (hPb _ _ _ rfl) ?_
      refine R_iconst 69 rfl dX10_keep_68 ?_
      refine R_aald 1 70 rfl dX10_keep_69 rfl rfl (by first | rfl | omega) (by decide) (by decide) (hPb _ _ _ rfl) ?_
      refine R_callV_v (M' := mX1_copy) 73 rfl dX10_keep_70 ml_X10_358 kmX1_copy im_X1_copy se_X1_copy rfl ⟨by decide, rfl⟩ (c_X1_copy 75 46 rfl rfl) rfl rfl ⟨Nat.le_of_ble_eq_true rfl, Nat.le_of_ble_eq_true rfl⟩ (Nat.le_of_ble_eq_true rfl) ⟨Nat.le_of_ble_eq_true rfl, Nat.le_of_ble_eq_true rfl⟩ ?_
      refine R_iload_n 74 rfl dX10_keep_73 rfl ?_
      refine R_ireturn dX10_keep_74 rfl ?_
      refine QI_mk ⟨?_, ?_, ?_, ?_⟩
      · first | exact pI_1 (pI_e1 (by omega)) | exact pI_0 (pI_e0 (by omega))
      · exact ((fb.cm rfl).cm rfl).h (fun a q => by simp [isI1]; omega)
      · exact hCS.fr (((fb.cm rfl).cm rfl) : Fr isI1 m _) (fun a q1 q2 => by simp [isI1]; omega)
      · refine hEx.im1 ((fb.cm rfl).cm rfl) ⟨?_, fun _ => ⟨?_, ?_, ?_⟩⟩ (fun _ => ⟨hO.wk hLO.1.2.1, hCO⟩)
        · refine Eq.trans ?_ (pI_1 (c := (true = true)) rfl)
          simp [chM, bkCpd, cpyB, cpyI, setI]
        · exact (hB2.eq (fun a k ha => by simp only [chM, setI]; rw [if_neg (by omega), if_neg (by omega), if_neg (by omega), if_neg (by omega), if_neg (by omega), if_neg (by omega), if_neg (by omega), if_neg (by omega), if_neg (by omega), if_neg (by omega)]))
        · exact (ChR.mk5 _ _ _ _ _ hCb.1.1 hCb.1.2.1 hCb.1.2.2.1 hCb.1.2.2.2.1 hCb.1.2.2.2.2).nc (by decide)
        · obtain ⟨g0, g1, g2, g3, g4⟩ := hCb.2.nc (y := 74) (p := _) (q := _) (t := _) (s := _) (r := _) (by decide)
          exact ChR.mk5 _ _ _ _ _ g0 g1 g2 g3 g4
    · refine R_iconst 26 rfl dX10_keep_25 ?_
      refine R_goto 30 rfl dX10_keep_26 ?_
      refine R_istore_n [_, _, _, _] 31 rfl dX10_keep_30 rfl (by decide) ?_
      refine R_aload_n 32 rfl dX10_keep_31 rfl ?_
      refine R_iconst 33 rfl dX10_keep_32 ?_
      refine R_putZ 0 36 rfl dX10_keep_33 rfl rfl fl_X10_346 (Or.inr rfl) ?_
      refine R_aload_n 37 rfl dX10_keep_36 rfl ?_
      refine R_getP 1 40 rfl dX10_keep_37 rfl rfl fl_X10_349 (hP _ _ _ rfl) ?_
      refine R_aload_n 41 rfl dX10_keep_40 rfl ?_
      refine R_getP 5 44 rfl dX10_keep_41 rfl rfl fl_X10_40 (hP _ _ _ rfl) ?_
      refine R_callV_v (M' := mX0_copy) 47 rfl dX10_keep_44 ml_X10_350 kmX0_copy im_X0_copy se_X0_copy rfl ⟨by decide, rfl⟩ (c_X0_copyd hPa hB1 hO.1) rfl rfl ⟨Nat.le_of_ble_eq_true rfl, Nat.le_of_ble_eq_true rfl⟩ (Nat.le_of_ble_eq_true rfl) ⟨Nat.le_of_ble_eq_true rfl, Nat.le_of_ble_eq_true rfl⟩ ?_
      refine R_aload_n 48 rfl dX10_keep_47 rfl ?_
      refine R_getP 2 51 rfl dX10_keep_48 rfl rfl fl_X10_354 (hPb _ _ _ rfl) ?_
      refine R_aload_n 52 rfl dX10_keep_51 rfl ?_
      refine R_getP 7 55 rfl dX10_keep_52 rfl rfl fl_X10_54 (hPb _ _ _ rfl) ?_
      refine R_iconst 56 rfl dX10_keep_55 ?_
      refine R_aald 0 57 rfl dX10_keep_56 rfl rfl (by first | rfl | omega) (by decide) (by decide) (hPb _ _ _ rfl) ?_
      refine R_callV_v (M' := mX1_copy) 60 rfl dX10_keep_57 ml_X10_358 kmX1_copy im_X1_copy se_X1_copy rfl ⟨by decide, rfl⟩ (c_X1_copy 74 45 rfl rfl) rfl rfl ⟨Nat.le_of_ble_eq_true rfl, Nat.le_of_ble_eq_true rfl⟩ (Nat.le_of_ble_eq_true rfl) ⟨Nat.le_of_ble_eq_true rfl, Nat.le_of_ble_eq_true rfl⟩ ?_
      refine R_aload_n 61 rfl dX10_keep_60 rfl ?_
      refine R_getP 3 64 rfl dX10_keep_61 rfl rfl fl_X10_361 (hPb _ _ _ rfl) ?_
      refine R_aload_n 65 rfl dX10_keep_64 rfl ?_
      refine R_getP 7 68 rfl dX10_keep_65 rfl rfl fl_X10_54 (hPb _ _ _ rfl) ?_
      refine R_iconst 69 rfl dX10_keep_68 ?_
      refine R_aald 1 70 rfl dX10_keep_69 rfl rfl (by first | rfl | omega) (by decide) (by decide) (hPb _ _ _ rfl) ?_
      refine R_callV_v (M' := mX1_copy) 73 rfl dX10_keep_70 ml_X10_358 kmX1_copy im_X1_copy se_X1_copy rfl ⟨by decide, rfl⟩ (c_X1_copy 75 46 rfl rfl) rfl rfl ⟨Nat.le_of_ble_eq_true rfl, Nat.le_of_ble_eq_true rfl⟩ (Nat.le_of_ble_eq_true rfl) ⟨Nat.le_of_ble_eq_true rfl, Nat.le_of_ble_eq_true rfl⟩ ?_
      refine R_iload_n 74 rfl dX10_keep_73 rfl ?_
      refine R_ireturn dX10_keep_74 rfl ?_
      refine QI_mk ⟨?_, ?_, ?_, ?_⟩
      · first | exact pI_1 (pI_e1 (by omega)) | exact pI_0 (pI_e0 (by omega))
      · exact ((fb.cm rfl).cm rfl).h (fun a q => by simp [isI1]; omega)
      · exact hCS.fr (((fb.cm rfl).cm rfl) : Fr isI1 m _) (fun a q1 q2 => by simp [isI1]; omega)
      · refine hEx.im1 ((fb.cm rfl).cm rfl) ⟨?_, fun _ => ⟨?_, ?_, ?_⟩⟩ (fun _ => ⟨hO.wk hLO.1.2.1, hCO⟩)
        · refine Eq.trans ?_ (pI_1 (c := (true = true)) rfl)
          simp [chM, bkCpd, cpyB, cpyI, setI]
        · exact (hB2.eq (fun a k ha => by simp only [chM, setI]; rw [if_neg (by omega), if_neg (by omega), if_neg (by omega), if_neg (by omega), if_neg (by omega), if_neg (by omega), if_neg (by omega), if_neg (by omega), if_neg (by omega), if_neg (by omega)]))
        · exact (ChR.mk5 _ _ _ _ _ hCb.1.1 hCb.1.2.1 hCb.1.2.2.1 hCb.1.2.2.2.1 hCb.1.2.2.2.2).nc (by decide)
        · obtain ⟨g0, g1, g2, g3, g4⟩ := hCb.2.nc (y := 74) (p := _) (q := _) (t := _) (s := _) (r := _) (by decide)
          exact ChR.mk5 _ _ _ _ _ g0 g1 g2 g3 g4
  · refine R_iconst 10 rfl dX10_keep_9 ?_
    refine R_ireturn dX10_keep_10 rfl ?_
    exfalso; omega
theorem c_X10_keep (k : Int) (hCS : CS o d L B ch m) (hEx : Ex T F I S N m) (hk : rg k) : C Γ mX10_keep 3 120 0 0 [vr 0, vi k] SH m (QS o d L B ch T F (if 0 ≤ k ∧ k ≤ 1 then imSet I k.toNat (true, B, ch) else I) S N m (if 0 ≤ k ∧ k ≤ 1 then pI ((I k.toNat).1 = true) else -1)) := by
  rcases (show k = 0 ∨ k = 1 ∨ ¬ (0 ≤ k ∧ k ≤ 1) by omega) with rfl | rfl | hk3
  · exact c_X10_keep0 hCS hEx
  · exact c_X10_keep1 hCS hEx
  · rw [if_neg hk3, if_neg hk3]
    refine C_of_R rfl (Nat.le_of_ble_eq_true rfl) ?_
    refine R_iload_n 1 rfl dX10_keep_0 rfl ?_
    refine R_iconst 2 rfl dX10_keep_1 ?_
    refine R_iconst 3 rfl dX10_keep_2 ?_
    refine R_callS_i (M' := mX10_within) 6 rfl dX10_keep_3 ml_X10_108 kmX10_within st_X10_within (c_X10_within _ _ _ (by first | assumption | exact ⟨by omega, by omega⟩) (by first | assumption | exact ⟨by omega, by omega⟩) (by first | assumption | exact ⟨by omega, by omega⟩)) rfl rfl ⟨Nat.le_of_ble_eq_true rfl, Nat.le_of_ble_eq_true rfl⟩ (Nat.le_of_ble_eq_true rfl) ⟨Nat.le_of_ble_eq_true rfl, Nat.le_of_ble_eq_true rfl⟩ ?_
    refine R_ifp_ne 9 11 rfl rfl dX10_keep_6 (fun h6 => ?_) (fun h6 => ?_)
    · exfalso; omega
    · refine R_iconst 10 rfl dX10_keep_9 ?_
      refine R_ireturn dX10_keep_10 rfl ?_
      exact QI_mk ⟨rfl, fun _ _ _ => rfl, hCS, hEx⟩
theorem allN_BkOk {np : Int} (hO : BkOk 12 B) (h : allN (fun k => decide (B.2.1 0 k < np)) B.1 = true) : BkOk np B := by
  have h1 := (allN_iff _ _).mp h
  refine ⟨hO.1, fun k hk => ?_, hO.2.2⟩
  have h2 := hO.2.1 k hk
  have h3 := of_decide_eq_true (h1 k hk)
  omega
def isBC (a : Nat) : Bool := decide (30 ≤ a ∧ a ≤ 41 ∨ 45 ≤ a ∧ a ≤ 46)
theorem isBC_4 : ∀ a, 4 ≤ a → a ≤ 29 → isBC a = false := fun a h1 h2 => by simp [isBC]; omega
theorem c_X10_back0 (hCS : CS o d L B ch m) (hEx : Ex T F I S N m) : C Γ mX10_back 3 120 0 0 [vr 0, vi 0] SH m (QS o d L (if imBack L (I 0) = true then (I 0).2.1 else B) (if imBack L (I 0) = true then chBk L (I 0).2.2 else ch) T F I S N m (if imBack L (I 0) = true then ((I 0).2.1.1 : Int) else -2)) := by
  refine C_of_R rfl (Nat.le_of_ble_eq_true rfl) ?_
  obtain ⟨hPO, hB, hO, hL, hLO, hC, hCO, hst, hkc⟩ := id hCS
  have hP := hPO.2
  have hI := hEx.2.2.1.1
  have hI1 := hI.1
  have hIO := hEx.2.2.1.2.2.1
  have h01 : m.1 48 0 = 0 ∨ m.1 48 0 = 1 := by rw [hI.1]; exact pI_01 _
  have hl1 := hLO.1
  have hab := allB_rg hLO
  have hnp : m.1 o 0 = L.1 0 := by
    rcases hL with ⟨rfl, hL⟩ | ⟨rfl, hL⟩
    · exact hL.1.1
    · exact hL.1.1
  have hso : shp SH o = some (4, 10) := by rcases hPO.1 with ⟨rfl, -⟩ | ⟨rfl, -⟩ <;> rfl
  rcases Classical.em ((I 0).1 = true) with hkp | hkp
  · obtain ⟨hIB, hI5, hI6⟩ := hI.2 hkp
    obtain ⟨hOB, hOC⟩ := hIO hkp
    have fb : Fr isBC m (bkCpa m (I 0).2.1.1) := (bkCpa_fr _ _).wk (fun a h => by simp [isBC] at h; simp; omega)
    have hB2 : Bk0 (bkCpa m (I 0).2.1.1) (I 0).2.1 := bkCpa_ok hIB
    have hPOb := hPO.eq fb.2
    have hPb := hPOb.2
    have hc0 := hOC 0 (by omega)
    have hc1 := hOC 1 (by omega)
    obtain ⟨a0, a1, a2, a3, a4⟩ := hI5.fr fb rfl
    obtain ⟨e0, e1, e2, e3, e4⟩ := hI6.fr fb rfl
    rw [pI_t hkp] at hI1
    have key : ∀ m5, Fr isBC m m5 → Bk0 m5 (I 0).2.1 → ChC m5 (chBk L (I 0).2.2) → m5.1 41 0 = 1 → allN (fun k => decide ((I 0).2.1.2.1 0 k < L.1 0)) (I 0).2.1.1 = true → (m5.1 30 0 = ((I 0).2.1.1 : Int) ∧ Fh m m5 ∧ CS o d L (I 0).2.1 (chBk L (I 0).2.2) m5 ∧ Ex T F I S N m5) := fun m5 f5 b5 c5 s5 h39 => ⟨b5.1, f5.h (fun a q => by simp [isBC]; omega), ⟨hPO.eq f5.2, b5, allN_BkOk hOB h39, hL.fr f5 isBC_4, hLO, c5, chBk_ok hOC, Or.inr s5, fun q => by omega⟩, hEx.fr f5 (fun a q => by simp [isBC]; omega)⟩
    refine R_iload_n 1 rfl dX10_back_0 rfl ?_
    refine R_iconst 2 rfl dX10_back_1 ?_
    refine R_iconst 3 rfl dX10_back_2 ?_
    refine R_callS_i (M' := mX10_within) 6 rfl dX10_back_3 ml_X10_108 kmX10_within st_X10_within (c_X10_within _ _ _ (by first | assumption | exact ⟨by omega, by omega⟩) (by first | assumption | exact ⟨by omega, by omega⟩) (by first | assumption | exact ⟨by omega, by omega⟩)) rfl rfl ⟨Nat.le_of_ble_eq_true rfl, Nat.le_of_ble_eq_true rfl⟩ (Nat.le_of_ble_eq_true rfl) ⟨Nat.le_of_ble_eq_true rfl, Nat.le_of_ble_eq_true rfl⟩ ?_
    refine R_ifp_ne 9 11 rfl rfl dX10_back_6 (fun h6 => ?_) (fun h6 => ?_)
    · refine R_aload_n 12 rfl dX10_back_11 rfl ?_
      refine R_getP 8 15 rfl dX10_back_12 rfl rfl fl_X10_61 (hP _ _ _ rfl) ?_
      refine R_iload_n 16 rfl dX10_back_15 rfl ?_
      refine R_aald 0 17 rfl dX10_back_16 rfl rfl (by first | rfl | omega) (by decide) (by decide) (hP _ _ _ rfl) ?_
      refine R_astore_n [_, _, _] 18 rfl dX10_back_17 rfl (by decide) ?_
      refine R_aload_n 19 rfl dX10_back_18 rfl ?_
      refine R_getI 0 22 rfl dX10_back_19 rfl rfl fl_X10_346 ?_
      refine R_if_eq 25 42 rfl rfl dX10_back_22 (by first | assumption | exact ⟨by omega, by omega⟩) (fun h22 => ?_) (fun h22 => ?_)
      · refine R_bipush 44 rfl dX10_back_42 (by decide) ?_
        refine R_ireturn dX10_back_44 rfl ?_
        first
          | (exfalso; omega)
          | (have hc : ¬ imBack L (I 0) = true := fun q => h39 (by unfold imBack at q; rw [hkp] at q; simpa using q)
             rw [if_neg hc, if_neg hc, if_neg hc]
             exact QI_mk ⟨rfl, fun _ _ _ => rfl, hCS, hEx⟩)
      · refine R_aload_n 26 rfl dX10_back_25 rfl ?_
        refine R_getP 1 29 rfl dX10_back_26 rfl rfl fl_X10_349 (hP _ _ _ rfl) ?_
        refine R_aload_n 30 rfl dX10_back_29 rfl ?_
        refine R_getP 2 33 rfl dX10_back_30 rfl rfl fl_X10_26 (PO_o hPO) ?_
        refine R_getI 0 36 rfl dX10_back_33 hso rfl fl_X10_125 ?_
        rw [hnp]
        refine R_callV_i (M' := mX0_areAllBelow) 39 rfl dX10_back_36 ml_X10_364 kmX0_areAllBelow im_X0_areAllBelow se_X0_areAllBelow rfl ⟨by decide, rfl⟩ (c_X0_areAllBelow 49 51 52 53 55 56 57 58 59 (49 + 1) _ rfl rfl rfl (hP _ _ _ rfl) (hP _ _ _ rfl) hIB hOB ⟨by omega, by omega⟩) rfl rfl ⟨Nat.le_of_ble_eq_true rfl, Nat.le_of_ble_eq_true rfl⟩ (Nat.le_of_ble_eq_true rfl) ⟨Nat.le_of_ble_eq_true rfl, Nat.le_of_ble_eq_true rfl⟩ ?_
        refine R_ifp_ne 42 45 rfl rfl dX10_back_39 (fun h39 => ?_) (fun h39 => ?_)
        · refine R_aload_n 46 rfl dX10_back_45 rfl ?_
          refine R_getP 5 49 rfl dX10_back_46 rfl rfl fl_X10_40 (hP _ _ _ rfl) ?_
          refine R_aload_n 50 rfl dX10_back_49 rfl ?_
          refine R_getP 1 53 rfl dX10_back_50 rfl rfl fl_X10_349 (hP _ _ _ rfl) ?_
          refine R_callV_v (M' := mX0_copy) 56 rfl dX10_back_53 ml_X10_350 kmX0_copy im_X0_copy se_X0_copy rfl ⟨by decide, rfl⟩ (c_X0_copya hPO hIB hOB.1) rfl rfl ⟨Nat.le_of_ble_eq_true rfl, Nat.le_of_ble_eq_true rfl⟩ (Nat.le_of_ble_eq_true rfl) ⟨Nat.le_of_ble_eq_true rfl, Nat.le_of_ble_eq_true rfl⟩ ?_
          refine R_aload_n 57 rfl dX10_back_56 rfl ?_
          refine R_getP 7 60 rfl dX10_back_57 rfl rfl fl_X10_54 (hPb _ _ _ rfl) ?_
          refine R_iconst 61 rfl dX10_back_60 ?_
          refine R_aald 0 62 rfl dX10_back_61 rfl rfl (by first | rfl | omega) (by decide) (by decide) (hPb _ _ _ rfl) ?_
          refine R_aload_n 63 rfl dX10_back_62 rfl ?_
          refine R_getP 2 66 rfl dX10_back_63 rfl rfl fl_X10_354 (hPb _ _ _ rfl) ?_
          refine R_callV_v (M' := mX1_copy) 69 rfl dX10_back_66 ml_X10_358 kmX1_copy im_X1_copy se_X1_copy rfl ⟨by decide, rfl⟩ (c_X1_copy 45 60 rfl rfl) rfl rfl ⟨Nat.le_of_ble_eq_true rfl, Nat.le_of_ble_eq_true rfl⟩ (Nat.le_of_ble_eq_true rfl) ⟨Nat.le_of_ble_eq_true rfl, Nat.le_of_ble_eq_true rfl⟩ ?_
          refine R_aload_n 70 rfl dX10_back_69 rfl ?_
          refine R_getP 7 73 rfl dX10_back_70 rfl rfl fl_X10_54 (hPb _ _ _ rfl) ?_
          refine R_iconst 74 rfl dX10_back_73 ?_
          refine R_aald 1 75 rfl dX10_back_74 rfl rfl (by first | rfl | omega) (by decide) (by decide) (hPb _ _ _ rfl) ?_
          refine R_aload_n 76 rfl dX10_back_75 rfl ?_
          refine R_getP 3 79 rfl dX10_back_76 rfl rfl fl_X10_361 (hPb _ _ _ rfl) ?_
          refine R_callV_v (M' := mX1_copy) 82 rfl dX10_back_79 ml_X10_358 kmX1_copy im_X1_copy se_X1_copy rfl ⟨by decide, rfl⟩ (c_X1_copy 46 61 rfl rfl) rfl rfl ⟨Nat.le_of_ble_eq_true rfl, Nat.le_of_ble_eq_true rfl⟩ (Nat.le_of_ble_eq_true rfl) ⟨Nat.le_of_ble_eq_true rfl, Nat.le_of_ble_eq_true rfl⟩ ?_
          refine R_aload_n 83 rfl dX10_back_82 rfl ?_
          refine R_getP 7 86 rfl dX10_back_83 rfl rfl fl_X10_54 (hPb _ _ _ rfl) ?_
          refine R_iconst 87 rfl dX10_back_86 ?_
          refine R_aald 0 88 rfl dX10_back_87 rfl rfl (by first | rfl | omega) (by decide) (by decide) (hPb _ _ _ rfl) ?_
          refine R_dup 89 rfl dX10_back_88 rfl ?_
          refine R_getI 0 92 rfl dX10_back_89 rfl rfl fl_X10_367 ?_
          refine R_top (b := (((I 0).2.2 0 0).toNat : Int)) (by simp only [chM, setI]; simp; omega) ?_
          refine R_aload_n 93 rfl dX10_back_92 rfl ?_
          refine R_getP 2 96 rfl dX10_back_93 rfl rfl fl_X10_26 (PO_o hPOb) ?_
          refine R_callV_i (M' := mX4_allParishes) 99 rfl dX10_back_96 ml_X10_273 kmX4_allParishes im_X4_allParishes se_X4_allParishes hso ⟨by decide, rfl⟩ (c_X4_allParishes (hL.fr (F := isBC) ((fb.cm (y := 45) rfl).cm (y := 46) rfl) isBC_4) hLO) rfl rfl ⟨Nat.le_of_ble_eq_true rfl, Nat.le_of_ble_eq_true rfl⟩ (Nat.le_of_ble_eq_true rfl) ⟨Nat.le_of_ble_eq_true rfl, Nat.le_of_ble_eq_true rfl⟩ ?_
          refine R_top (b := ((allB L).toNat : Int)) (by omega) ?_
          refine R_iand 100 rfl dX10_back_99 ?_
          refine R_putI 0 103 rfl dX10_back_100 rfl rfl fl_X10_367 ?_
          refine R_aload_n 104 rfl dX10_back_103 rfl ?_
          refine R_getP 7 107 rfl dX10_back_104 rfl rfl fl_X10_54 (hPb _ _ _ rfl) ?_
          refine R_iconst 108 rfl dX10_back_107 ?_
          refine R_aald 1 109 rfl dX10_back_108 rfl rfl (by first | rfl | omega) (by decide) (by decide) (hPb _ _ _ rfl) ?_
          refine R_dup 110 rfl dX10_back_109 rfl ?_
          refine R_getI 0 113 rfl dX10_back_110 rfl rfl fl_X10_367 ?_
          refine R_top (b := (((I 0).2.2 1 0).toNat : Int)) (by simp only [chM, setI]; simp; omega) ?_
          refine R_aload_n 114 rfl dX10_back_113 rfl ?_
          refine R_getP 2 117 rfl dX10_back_114 rfl rfl fl_X10_26 (PO_o hPOb) ?_
          refine R_callV_i (M' := mX4_allParishes) 120 rfl dX10_back_117 ml_X10_273 kmX4_allParishes im_X4_allParishes se_X4_allParishes hso ⟨by decide, rfl⟩ (c_X4_allParishes (hL.fr (F := isBC) (((fb.cm (y := 45) rfl).cm (y := 46) rfl).set (o := 45) rfl) isBC_4) hLO) rfl rfl ⟨Nat.le_of_ble_eq_true rfl, Nat.le_of_ble_eq_true rfl⟩ (Nat.le_of_ble_eq_true rfl) ⟨Nat.le_of_ble_eq_true rfl, Nat.le_of_ble_eq_true rfl⟩ ?_
          refine R_top (b := ((allB L).toNat : Int)) (by omega) ?_
          refine R_iand 121 rfl dX10_back_120 ?_
          refine R_putI 0 124 rfl dX10_back_121 rfl rfl fl_X10_367 ?_
          refine R_aload_n 125 rfl dX10_back_124 rfl ?_
          refine R_getP 6 128 rfl dX10_back_125 rfl rfl fl_X10_47 (hPb _ _ _ rfl) ?_
          refine R_iconst 129 rfl dX10_back_128 ?_
          refine R_putZ 0 132 rfl dX10_back_129 rfl rfl fl_X10_182 (by decide) ?_
          refine R_aload_n 133 rfl dX10_back_132 rfl ?_
          refine R_getP 5 136 rfl dX10_back_133 rfl rfl fl_X10_40 (hPb _ _ _ rfl) ?_
          refine R_getI 0 139 rfl dX10_back_136 rfl rfl fl_X10_179 ?_
          refine R_ireturn dX10_back_139 rfl ?_
          have hc : imBack L (I 0) = true := by unfold imBack; rw [hkp, h39]; rfl
          rw [if_pos hc, if_pos hc, if_pos hc]
          refine QI_mk (key _ (((((fb.cm (y := 45) rfl).cm (y := 46) rfl).set (o := 45) rfl).set (o := 46) rfl).set (o := 41) rfl) ?_ ?_ (by simp [setI]) h39)
          · exact hB2.fr (F := fun a => decide (41 ≤ a ∧ a ≤ 46)) (((((Fr.rf.cm (y := 45) rfl).cm (y := 46) rfl).set (o := 45) rfl).set (o := 46) rfl).set (o := 41) rfl) (fun a q1 q2 => by simp; omega)
          · refine ⟨⟨?_, ?_, ?_, ?_, ?_⟩, ?_, ?_, ?_, ?_, ?_⟩ <;> simp [chM, setI, chBk] <;> assumption
        · refine R_bipush 44 rfl dX10_back_42 (by decide) ?_
          refine R_ireturn dX10_back_44 rfl ?_
          first
            | (exfalso; omega)
            | (have hc : ¬ imBack L (I 0) = true := fun q => h39 (by unfold imBack at q; rw [hkp] at q; simpa using q)
               rw [if_neg hc, if_neg hc, if_neg hc]
               exact QI_mk ⟨rfl, fun _ _ _ => rfl, hCS, hEx⟩)
    · refine R_iconst 10 rfl dX10_back_9 ?_
      refine R_ireturn dX10_back_10 rfl ?_
      exfalso; omega
  · have hc : ¬ imBack L (I 0) = true := fun q => hkp (by unfold imBack at q; simp only [Bool.and_eq_true] at q; exact q.1)
    rw [if_neg hc, if_neg hc, if_neg hc]
    rw [pI_f hkp] at hI1
    refine R_iload_n 1 rfl dX10_back_0 rfl ?_
    refine R_iconst 2 rfl dX10_back_1 ?_
    refine R_iconst 3 rfl dX10_back_2 ?_
    refine R_callS_i (M' := mX10_within) 6 rfl dX10_back_3 ml_X10_108 kmX10_within st_X10_within (c_X10_within _ _ _ (by first | assumption | exact ⟨by omega, by omega⟩) (by first | assumption | exact ⟨by omega, by omega⟩) (by first | assumption | exact ⟨by omega, by omega⟩)) rfl rfl ⟨Nat.le_of_ble_eq_true rfl, Nat.le_of_ble_eq_true rfl⟩ (Nat.le_of_ble_eq_true rfl) ⟨Nat.le_of_ble_eq_true rfl, Nat.le_of_ble_eq_true rfl⟩ ?_
    refine R_ifp_ne 9 11 rfl rfl dX10_back_6 (fun h6 => ?_) (fun h6 => ?_)
    · refine R_aload_n 12 rfl dX10_back_11 rfl ?_
      refine R_getP 8 15 rfl dX10_back_12 rfl rfl fl_X10_61 (hP _ _ _ rfl) ?_
      refine R_iload_n 16 rfl dX10_back_15 rfl ?_
      refine R_aald 0 17 rfl dX10_back_16 rfl rfl (by first | rfl | omega) (by decide) (by decide) (hP _ _ _ rfl) ?_
      refine R_astore_n [_, _, _] 18 rfl dX10_back_17 rfl (by decide) ?_
      refine R_aload_n 19 rfl dX10_back_18 rfl ?_
      refine R_getI 0 22 rfl dX10_back_19 rfl rfl fl_X10_346 ?_
      refine R_if_eq 25 42 rfl rfl dX10_back_22 (by first | assumption | exact ⟨by omega, by omega⟩) (fun h22 => ?_) (fun h22 => ?_)
      · refine R_bipush 44 rfl dX10_back_42 (by decide) ?_
        refine R_ireturn dX10_back_44 rfl ?_
        exact QI_mk ⟨rfl, fun _ _ _ => rfl, hCS, hEx⟩
      · exfalso; omega
    · refine R_iconst 10 rfl dX10_back_9 ?_
      refine R_ireturn dX10_back_10 rfl ?_
      exfalso; omega
theorem c_X10_back1 (hCS : CS o d L B ch m) (hEx : Ex T F I S N m) : C Γ mX10_back 3 120 0 0 [vr 0, vi 1] SH m (QS o d L (if imBack L (I 1) = true then (I 1).2.1 else B) (if imBack L (I 1) = true then chBk L (I 1).2.2 else ch) T F I S N m (if imBack L (I 1) = true then ((I 1).2.1.1 : Int) else -2)) := by
  refine C_of_R rfl (Nat.le_of_ble_eq_true rfl) ?_
  obtain ⟨hPO, hB, hO, hL, hLO, hC, hCO, hst, hkc⟩ := id hCS
  have hP := hPO.2
  have hI := hEx.2.2.1.2.1
  have hI1 := hI.1
  have hIO := hEx.2.2.1.2.2.2
  have h01 : m.1 62 0 = 0 ∨ m.1 62 0 = 1 := by rw [hI.1]; exact pI_01 _
  have hl1 := hLO.1
  have hab := allB_rg hLO
  have hnp : m.1 o 0 = L.1 0 := by
    rcases hL with ⟨rfl, hL⟩ | ⟨rfl, hL⟩
    · exact hL.1.1
    · exact hL.1.1
  have hso : shp SH o = some (4, 10) := by rcases hPO.1 with ⟨rfl, -⟩ | ⟨rfl, -⟩ <;> rfl
  rcases Classical.em ((I 1).1 = true) with hkp | hkp
  · obtain ⟨hIB, hI5, hI6⟩ := hI.2 hkp
    obtain ⟨hOB, hOC⟩ := hIO hkp
    have fb : Fr isBC m (bkCpb m (I 1).2.1.1) := (bkCpb_fr _ _).wk (fun a h => by simp [isBC] at h; simp; omega)
    have hB2 : Bk0 (bkCpb m (I 1).2.1.1) (I 1).2.1 := bkCpb_ok hIB
    have hPOb := hPO.eq fb.2
    have hPb := hPOb.2
    have hc0 := hOC 0 (by omega)
    have hc1 := hOC 1 (by omega)
    obtain ⟨a0, a1, a2, a3, a4⟩ := hI5.fr fb rfl
    obtain ⟨e0, e1, e2, e3, e4⟩ := hI6.fr fb rfl
    rw [pI_t hkp] at hI1
    have key : ∀ m5, Fr isBC m m5 → Bk0 m5 (I 1).2.1 → ChC m5 (chBk L (I 1).2.2) → m5.1 41 0 = 1 → allN (fun k => decide ((I 1).2.1.2.1 0 k < L.1 0)) (I 1).2.1.1 = true → (m5.1 30 0 = ((I 1).2.1.1 : Int) ∧ Fh m m5 ∧ CS o d L (I 1).2.1 (chBk L (I 1).2.2) m5 ∧ Ex T F I S N m5) := fun m5 f5 b5 c5 s5 h39 => ⟨b5.1, f5.h (fun a q => by simp [isBC]; omega), ⟨hPO.eq f5.2, b5, allN_BkOk hOB h39, hL.fr f5 isBC_4, hLO, c5, chBk_ok hOC, Or.inr s5, fun q => by omega⟩, hEx.fr f5 (fun a q => by simp [isBC]; omega)⟩
    refine R_iload_n 1 rfl dX10_back_0 rfl ?_
    refine R_iconst 2 rfl dX10_back_1 ?_
    refine R_iconst 3 rfl dX10_back_2 ?_
    refine R_callS_i (M' := mX10_within) 6 rfl dX10_back_3 ml_X10_108 kmX10_within st_X10_within (c_X10_within _ _ _ (by first | assumption | exact ⟨by omega, by omega⟩) (by first | assumption | exact ⟨by omega, by omega⟩) (by first | assumption | exact ⟨by omega, by omega⟩)) rfl rfl ⟨Nat.le_of_ble_eq_true rfl, Nat.le_of_ble_eq_true rfl⟩ (Nat.le_of_ble_eq_true rfl) ⟨Nat.le_of_ble_eq_true rfl, Nat.le_of_ble_eq_true rfl⟩ ?_
    refine R_ifp_ne 9 11 rfl rfl dX10_back_6 (fun h6 => ?_) (fun h6 => ?_)
    · refine R_aload_n 12 rfl dX10_back_11 rfl ?_
      refine R_getP 8 15 rfl dX10_back_12 rfl rfl fl_X10_61 (hP _ _ _ rfl) ?_
      refine R_iload_n 16 rfl dX10_back_15 rfl ?_
      refine R_aald 1 17 rfl dX10_back_16 rfl rfl (by first | rfl | omega) (by decide) (by decide) (hP _ _ _ rfl) ?_
      refine R_astore_n [_, _, _] 18 rfl dX10_back_17 rfl (by decide) ?_
      refine R_aload_n 19 rfl dX10_back_18 rfl ?_
      refine R_getI 0 22 rfl dX10_back_19 rfl rfl fl_X10_346 ?_
      refine R_if_eq 25 42 rfl rfl dX10_back_22 (by first | assumption | exact ⟨by omega, by omega⟩) (fun h22 => ?_) (fun h22 => ?_)
      · refine R_bipush 44 rfl dX10_back_42 (by decide) ?_
        refine R_ireturn dX10_back_44 rfl ?_
        first
          | (exfalso; omega)
          | (have hc : ¬ imBack L (I 1) = true := fun q => h39 (by unfold imBack at q; rw [hkp] at q; simpa using q)
             rw [if_neg hc, if_neg hc, if_neg hc]
             exact QI_mk ⟨rfl, fun _ _ _ => rfl, hCS, hEx⟩)
      · refine R_aload_n 26 rfl dX10_back_25 rfl ?_
        refine R_getP 1 29 rfl dX10_back_26 rfl rfl fl_X10_349 (hP _ _ _ rfl) ?_
        refine R_aload_n 30 rfl dX10_back_29 rfl ?_
        refine R_getP 2 33 rfl dX10_back_30 rfl rfl fl_X10_26 (PO_o hPO) ?_
        refine R_getI 0 36 rfl dX10_back_33 hso rfl fl_X10_125 ?_
        rw [hnp]
        refine R_callV_i (M' := mX0_areAllBelow) 39 rfl dX10_back_36 ml_X10_364 kmX0_areAllBelow im_X0_areAllBelow se_X0_areAllBelow rfl ⟨by decide, rfl⟩ (c_X0_areAllBelow 63 65 66 67 69 70 71 72 73 (63 + 1) _ rfl rfl rfl (hP _ _ _ rfl) (hP _ _ _ rfl) hIB hOB ⟨by omega, by omega⟩) rfl rfl ⟨Nat.le_of_ble_eq_true rfl, Nat.le_of_ble_eq_true rfl⟩ (Nat.le_of_ble_eq_true rfl) ⟨Nat.le_of_ble_eq_true rfl, Nat.le_of_ble_eq_true rfl⟩ ?_
        refine R_ifp_ne 42 45 rfl rfl dX10_back_39 (fun h39 => ?_) (fun h39 => ?_)
        · refine R_aload_n 46 rfl dX10_back_45 rfl ?_
          refine R_getP 5 49 rfl dX10_back_46 rfl rfl fl_X10_40 (hP _ _ _ rfl) ?_
          refine R_aload_n 50 rfl dX10_back_49 rfl ?_
          refine R_getP 1 53 rfl dX10_back_50 rfl rfl fl_X10_349 (hP _ _ _ rfl) ?_
          refine R_callV_v (M' := mX0_copy) 56 rfl dX10_back_53 ml_X10_350 kmX0_copy im_X0_copy se_X0_copy rfl ⟨by decide, rfl⟩ (c_X0_copyb hPO hIB hOB.1) rfl rfl ⟨Nat.le_of_ble_eq_true rfl, Nat.le_of_ble_eq_true rfl⟩ (Nat.le_of_ble_eq_true rfl) ⟨Nat.le_of_ble_eq_true rfl, Nat.le_of_ble_eq_true rfl⟩ ?_
          refine R_aload_n 57 rfl dX10_back_56 rfl ?_
          refine R_getP 7 60 rfl dX10_back_57 rfl rfl fl_X10_54 (hPb _ _ _ rfl) ?_
          refine R_iconst 61 rfl dX10_back_60 ?_
          refine R_aald 0 62 rfl dX10_back_61 rfl rfl (by first | rfl | omega) (by decide) (by decide) (hPb _ _ _ rfl) ?_
          refine R_aload_n 63 rfl dX10_back_62 rfl ?_
          refine R_getP 2 66 rfl dX10_back_63 rfl rfl fl_X10_354 (hPb _ _ _ rfl) ?_
          refine R_callV_v (M' := mX1_copy) 69 rfl dX10_back_66 ml_X10_358 kmX1_copy im_X1_copy se_X1_copy rfl ⟨by decide, rfl⟩ (c_X1_copy 45 74 rfl rfl) rfl rfl ⟨Nat.le_of_ble_eq_true rfl, Nat.le_of_ble_eq_true rfl⟩ (Nat.le_of_ble_eq_true rfl) ⟨Nat.le_of_ble_eq_true rfl, Nat.le_of_ble_eq_true rfl⟩ ?_
          refine R_aload_n 70 rfl dX10_back_69 rfl ?_
          refine R_getP 7 73 rfl dX10_back_70 rfl rfl fl_X10_54 (hPb _ _ _ rfl) ?_
          refine R_iconst 74 rfl dX10_back_73 ?_
          refine R_aald 1 75 rfl dX10_back_74 rfl rfl (by first | rfl | omega) (by decide) (by decide) (hPb _ _ _ rfl) ?_
          refine R_aload_n 76 rfl dX10_back_75 rfl ?_
          refine R_getP 3 79 rfl dX10_back_76 rfl rfl fl_X10_361 (hPb _ _ _ rfl) ?_
          refine R_callV_v (M' := mX1_copy) 82 rfl dX10_back_79 ml_X10_358 kmX1_copy im_X1_copy se_X1_copy rfl ⟨by decide, rfl⟩ (c_X1_copy 46 75 rfl rfl) rfl rfl ⟨Nat.le_of_ble_eq_true rfl, Nat.le_of_ble_eq_true rfl⟩ (Nat.le_of_ble_eq_true rfl) ⟨Nat.le_of_ble_eq_true rfl, Nat.le_of_ble_eq_true rfl⟩ ?_
          refine R_aload_n 83 rfl dX10_back_82 rfl ?_
          refine R_getP 7 86 rfl dX10_back_83 rfl rfl fl_X10_54 (hPb _ _ _ rfl) ?_
          refine R_iconst 87 rfl dX10_back_86 ?_
          refine R_aald 0 88 rfl dX10_back_87 rfl rfl (by first | rfl | omega) (by decide) (by decide) (hPb _ _ _ rfl) ?_
          refine R_dup 89 rfl dX10_back_88 rfl ?_
          refine R_getI 0 92 rfl dX10_back_89 rfl rfl fl_X10_367 ?_
          refine R_top (b := (((I 1).2.2 0 0).toNat : Int)) (by simp only [chM, setI]; simp; omega) ?_
          refine R_aload_n 93 rfl dX10_back_92 rfl ?_
          refine R_getP 2 96 rfl dX10_back_93 rfl rfl fl_X10_26 (PO_o hPOb) ?_
          refine R_callV_i (M' := mX4_allParishes) 99 rfl dX10_back_96 ml_X10_273 kmX4_allParishes im_X4_allParishes se_X4_allParishes hso ⟨by decide, rfl⟩ (c_X4_allParishes (hL.fr (F := isBC) ((fb.cm (y := 45) rfl).cm (y := 46) rfl) isBC_4) hLO) rfl rfl ⟨Nat.le_of_ble_eq_true rfl, Nat.le_of_ble_eq_true rfl⟩ (Nat.le_of_ble_eq_true rfl) ⟨Nat.le_of_ble_eq_true rfl, Nat.le_of_ble_eq_true rfl⟩ ?_
          refine R_top (b := ((allB L).toNat : Int)) (by omega) ?_
          refine R_iand 100 rfl dX10_back_99 ?_
          refine R_putI 0 103 rfl dX10_back_100 rfl rfl fl_X10_367 ?_
          refine R_aload_n 104 rfl dX10_back_103 rfl ?_
          refine R_getP 7 107 rfl dX10_back_104 rfl rfl fl_X10_54 (hPb _ _ _ rfl) ?_
          refine R_iconst 108 rfl dX10_back_107 ?_
          refine R_aald 1 109 rfl dX10_back_108 rfl rfl (by first | rfl | omega) (by decide) (by decide) (hPb _ _ _ rfl) ?_
          refine R_dup 110 rfl dX10_back_109 rfl ?_
          refine R_getI 0 113 rfl dX10_back_110 rfl rfl fl_X10_367 ?_
          refine R_top (b := (((I 1).2.2 1 0).toNat : Int)) (by simp only [chM, setI]; simp; omega) ?_
          refine R_aload_n 114 rfl dX10_back_113 rfl ?_
          refine R_getP 2 117 rfl dX10_back_114 rfl rfl fl_X10_26 (PO_o hPOb) ?_
          refine R_callV_i (M' := mX4_allParishes) 120 rfl dX10_back_117 ml_X10_273 kmX4_allParishes im_X4_allParishes se_X4_allParishes hso ⟨by decide, rfl⟩ (c_X4_allParishes (hL.fr (F := isBC) (((fb.cm (y := 45) rfl).cm (y := 46) rfl).set (o := 45) rfl) isBC_4) hLO) rfl rfl ⟨Nat.le_of_ble_eq_true rfl, Nat.le_of_ble_eq_true rfl⟩ (Nat.le_of_ble_eq_true rfl) ⟨Nat.le_of_ble_eq_true rfl, Nat.le_of_ble_eq_true rfl⟩ ?_
          refine R_top (b := ((allB L).toNat : Int)) (by omega) ?_
          refine R_iand 121 rfl dX10_back_120 ?_
          refine R_putI 0 124 rfl dX10_back_121 rfl rfl fl_X10_367 ?_
          refine R_aload_n 125 rfl dX10_back_124 rfl ?_
          refine R_getP 6 128 rfl dX10_back_125 rfl rfl fl_X10_47 (hPb _ _ _ rfl) ?_
          refine R_iconst 129 rfl dX10_back_128 ?_
          refine R_putZ 0 132 rfl dX10_back_129 rfl rfl fl_X10_182 (by decide) ?_
          refine R_aload_n 133 rfl dX10_back_132 rfl ?_
          refine R_getP 5 136 rfl dX10_back_133 rfl rfl fl_X10_40 (hPb _ _ _ rfl) ?_
          refine R_getI 0 139 rfl dX10_back_136 rfl rfl fl_X10_179 ?_
          refine R_ireturn dX10_back_139 rfl ?_
          have hc : imBack L (I 1) = true := by unfold imBack; rw [hkp, h39]; rfl
          rw [if_pos hc, if_pos hc, if_pos hc]
          refine QI_mk (key _ (((((fb.cm (y := 45) rfl).cm (y := 46) rfl).set (o := 45) rfl).set (o := 46) rfl).set (o := 41) rfl) ?_ ?_ (by simp [setI]) h39)
          · exact hB2.fr (F := fun a => decide (41 ≤ a ∧ a ≤ 46)) (((((Fr.rf.cm (y := 45) rfl).cm (y := 46) rfl).set (o := 45) rfl).set (o := 46) rfl).set (o := 41) rfl) (fun a q1 q2 => by simp; omega)
          · refine ⟨⟨?_, ?_, ?_, ?_, ?_⟩, ?_, ?_, ?_, ?_, ?_⟩ <;> simp [chM, setI, chBk] <;> assumption
        · refine R_bipush 44 rfl dX10_back_42 (by decide) ?_
          refine R_ireturn dX10_back_44 rfl ?_
          first
            | (exfalso; omega)
            | (have hc : ¬ imBack L (I 1) = true := fun q => h39 (by unfold imBack at q; rw [hkp] at q; simpa using q)
               rw [if_neg hc, if_neg hc, if_neg hc]
               exact QI_mk ⟨rfl, fun _ _ _ => rfl, hCS, hEx⟩)
    · refine R_iconst 10 rfl dX10_back_9 ?_
      refine R_ireturn dX10_back_10 rfl ?_
      exfalso; omega
  · have hc : ¬ imBack L (I 1) = true := fun q => hkp (by unfold imBack at q; simp only [Bool.and_eq_true] at q; exact q.1)
    rw [if_neg hc, if_neg hc, if_neg hc]
    rw [pI_f hkp] at hI1
    refine R_iload_n 1 rfl dX10_back_0 rfl ?_
    refine R_iconst 2 rfl dX10_back_1 ?_
    refine R_iconst 3 rfl dX10_back_2 ?_
    refine R_callS_i (M' := mX10_within) 6 rfl dX10_back_3 ml_X10_108 kmX10_within st_X10_within (c_X10_within _ _ _ (by first | assumption | exact ⟨by omega, by omega⟩) (by first | assumption | exact ⟨by omega, by omega⟩) (by first | assumption | exact ⟨by omega, by omega⟩)) rfl rfl ⟨Nat.le_of_ble_eq_true rfl, Nat.le_of_ble_eq_true rfl⟩ (Nat.le_of_ble_eq_true rfl) ⟨Nat.le_of_ble_eq_true rfl, Nat.le_of_ble_eq_true rfl⟩ ?_
    refine R_ifp_ne 9 11 rfl rfl dX10_back_6 (fun h6 => ?_) (fun h6 => ?_)
    · refine R_aload_n 12 rfl dX10_back_11 rfl ?_
      refine R_getP 8 15 rfl dX10_back_12 rfl rfl fl_X10_61 (hP _ _ _ rfl) ?_
      refine R_iload_n 16 rfl dX10_back_15 rfl ?_
      refine R_aald 1 17 rfl dX10_back_16 rfl rfl (by first | rfl | omega) (by decide) (by decide) (hP _ _ _ rfl) ?_
      refine R_astore_n [_, _, _] 18 rfl dX10_back_17 rfl (by decide) ?_
      refine R_aload_n 19 rfl dX10_back_18 rfl ?_
      refine R_getI 0 22 rfl dX10_back_19 rfl rfl fl_X10_346 ?_
      refine R_if_eq 25 42 rfl rfl dX10_back_22 (by first | assumption | exact ⟨by omega, by omega⟩) (fun h22 => ?_) (fun h22 => ?_)
      · refine R_bipush 44 rfl dX10_back_42 (by decide) ?_
        refine R_ireturn dX10_back_44 rfl ?_
        exact QI_mk ⟨rfl, fun _ _ _ => rfl, hCS, hEx⟩
      · exfalso; omega
    · refine R_iconst 10 rfl dX10_back_9 ?_
      refine R_ireturn dX10_back_10 rfl ?_
      exfalso; omega
theorem c_X10_back (k : Int) (hCS : CS o d L B ch m) (hEx : Ex T F I S N m) (hk : rg k) : C Γ mX10_back 3 120 0 0 [vr 0, vi k] SH m (QS o d L (if (0 ≤ k ∧ k ≤ 1) ∧ imBack L (I k.toNat) = true then (I k.toNat).2.1 else B) (if (0 ≤ k ∧ k ≤ 1) ∧ imBack L (I k.toNat) = true then chBk L (I k.toNat).2.2 else ch) T F I S N m (if 0 ≤ k ∧ k ≤ 1 then (if imBack L (I k.toNat) = true then ((I k.toNat).2.1.1 : Int) else -2) else -1)) := by
  rcases (show k = 0 ∨ k = 1 ∨ ¬ (0 ≤ k ∧ k ≤ 1) by omega) with rfl | rfl | hk3
  · have h := c_X10_back0 (Γ := Γ) hCS hEx
    simpa using h
  · have h := c_X10_back1 (Γ := Γ) hCS hEx
    simpa using h
  · rw [if_neg (fun q => hk3 q.1), if_neg (fun q => hk3 q.1), if_neg hk3]
    refine C_of_R rfl (Nat.le_of_ble_eq_true rfl) ?_
    refine R_iload_n 1 rfl dX10_back_0 rfl ?_
    refine R_iconst 2 rfl dX10_back_1 ?_
    refine R_iconst 3 rfl dX10_back_2 ?_
    refine R_callS_i (M' := mX10_within) 6 rfl dX10_back_3 ml_X10_108 kmX10_within st_X10_within (c_X10_within _ _ _ (by first | assumption | exact ⟨by omega, by omega⟩) (by first | assumption | exact ⟨by omega, by omega⟩) (by first | assumption | exact ⟨by omega, by omega⟩)) rfl rfl ⟨Nat.le_of_ble_eq_true rfl, Nat.le_of_ble_eq_true rfl⟩ (Nat.le_of_ble_eq_true rfl) ⟨Nat.le_of_ble_eq_true rfl, Nat.le_of_ble_eq_true rfl⟩ ?_
    refine R_ifp_ne 9 11 rfl rfl dX10_back_6 (fun h6 => ?_) (fun h6 => ?_)
    · exfalso; omega
    · refine R_iconst 10 rfl dX10_back_9 ?_
      refine R_ireturn dX10_back_10 rfl ?_
      exact QI_mk ⟨rfl, fun _ _ _ => rfl, hCS, hEx⟩
def a_count (L : Ld) (B : Bk) (T : Tp) (I : Nat → Im) (S : Nat → Sht) (w : Int) : Int := if w = 0 then (B.1 : Int) else if w = 1 then (T.1 : Int) else if w = 2 then (if (S 0).1 < 0 then -4 else (S 0).1) else if w = 3 then pI ((I 0).1 = true) + pI ((I 1).1 = true) else if w = 4 then sumN (L.2.1 1) (npN L) else -1
theorem c_X10_count (w : Int) (hCS : CS o d L B ch m) (hEx : Ex T F I S N m) (hw : rg w) : C Γ mX10_count 2 80 0 0 [vr 0, vi w] SH m (QS o d L B ch T F I S N m (a_count L B T I S w)) := by
  refine C_of_R rfl (Nat.le_of_ble_eq_true rfl) ?_
  obtain ⟨hPO, hB, hO, hL, hLO, hC, hCO, hst, hkc⟩ := id hCS
  have hP := hPO.2
  have hw1 := hw.1
  have hw2 := hw.2
  have g0 := hEx.2.2.1.1.1
  have g1 := hEx.2.2.1.2.1.1
  have s0 := (hEx.2.2.2.1 0 (by omega)).1.1
  have s1 := (hEx.2.2.2.1 0 (by omega)).2.1
  have k0 : m.1 48 0 = 0 ∨ m.1 48 0 = 1 := by rw [g0]; exact pI_01 _
  have k1 : m.1 62 0 = 0 ∨ m.1 62 0 = 1 := by rw [g1]; exact pI_01 _
  have s2 : m.1 77 0 = (S 0).1 := s0
  have hso : shp SH o = some (4, 10) := by rcases hPO.1 with ⟨rfl, -⟩ | ⟨rfl, -⟩ <;> rfl
  refine R_iload_n 1 rfl dX10_count_0 rfl ?_
  rcases (show w < 0 ∨ 4 < w ∨ w = 0 ∨ w = 1 ∨ w = 2 ∨ w = 3 ∨ w = 4 by omega) with h1 | h1 | rfl | rfl | rfl | rfl | rfl
  · refine R_tsOut 123 dX10_count_1 (by first | assumption | exact ⟨by omega, by omega⟩) (by omega) rfl ?_
    refine R_iconst 124 rfl dX10_count_123 ?_
    refine R_ireturn dX10_count_124 rfl ?_
    exact QI_mk ⟨by unfold a_count; rw [if_neg (by omega), if_neg (by omega), if_neg (by omega), if_neg (by omega), if_neg (by omega)], fun _ _ _ => rfl, hCS, hEx⟩
  · refine R_tsOut 123 dX10_count_1 (by first | assumption | exact ⟨by omega, by omega⟩) (by omega) rfl ?_
    refine R_iconst 124 rfl dX10_count_123 ?_
    refine R_ireturn dX10_count_124 rfl ?_
    exact QI_mk ⟨by unfold a_count; rw [if_neg (by omega), if_neg (by omega), if_neg (by omega), if_neg (by omega), if_neg (by omega)], fun _ _ _ => rfl, hCS, hEx⟩
  · refine R_tsIn 36 dX10_count_1 ⟨by omega, by omega⟩ (by omega) (by omega) rfl rfl ?_
    refine R_aload_n 37 rfl dX10_count_36 rfl ?_
    refine R_getP 5 40 rfl dX10_count_37 rfl rfl fl_X10_40 (hP _ _ _ rfl) ?_
    refine R_getI 0 43 rfl dX10_count_40 rfl rfl fl_X10_179 ?_
    refine R_ireturn dX10_count_43 rfl ?_
    exact QI_mk ⟨by unfold a_count; simp; exact hB.1, fun _ _ _ => rfl, hCS, hEx⟩
  · refine R_tsIn 44 dX10_count_1 ⟨by omega, by omega⟩ (by omega) (by omega) rfl rfl ?_
    refine R_aload_n 45 rfl dX10_count_44 rfl ?_
    refine R_getP 0 48 rfl dX10_count_45 rfl rfl fl_X10_10 (hP _ _ _ rfl) ?_
    refine R_getI 1 51 rfl dX10_count_48 rfl rfl fl_X10_105 ?_
    refine R_ireturn dX10_count_51 rfl ?_
    exact QI_mk ⟨by unfold a_count; simp; exact hEx.1.1.1, fun _ _ _ => rfl, hCS, hEx⟩
  · refine R_tsIn 52 dX10_count_1 ⟨by omega, by omega⟩ (by omega) (by omega) rfl rfl ?_
    refine R_aload_n 53 rfl dX10_count_52 rfl ?_
    refine R_getP 9 56 rfl dX10_count_53 rfl rfl fl_X10_68 (hP _ _ _ rfl) ?_
    refine R_iconst 57 rfl dX10_count_56 ?_
    refine R_aald 0 58 rfl dX10_count_57 rfl rfl (by first | rfl | omega) (by decide) (by decide) (hP _ _ _ rfl) ?_
    refine R_getI 0 61 rfl dX10_count_58 rfl rfl fl_X10_377 ?_
    refine R_if_ge 64 69 rfl rfl dX10_count_61 (by first | assumption | exact ⟨by omega, by omega⟩) (fun h61 => ?_) (fun h61 => ?_)
    · refine R_aload_n 70 rfl dX10_count_69 rfl ?_
      refine R_getP 9 73 rfl dX10_count_70 rfl rfl fl_X10_68 (hP _ _ _ rfl) ?_
      refine R_iconst 74 rfl dX10_count_73 ?_
      refine R_aald 0 75 rfl dX10_count_74 rfl rfl (by first | rfl | omega) (by decide) (by decide) (hP _ _ _ rfl) ?_
      refine R_getI 0 78 rfl dX10_count_75 rfl rfl fl_X10_377 ?_
      refine R_ireturn dX10_count_78 rfl ?_
      first | exact QI_mk ⟨by unfold a_count; simp; omega, fun _ _ _ => rfl, hCS, hEx⟩ | exact QI_mk ⟨by unfold a_count; simp; split <;> omega, fun _ _ _ => rfl, hCS, hEx⟩
    · refine R_bipush 66 rfl dX10_count_64 (by decide) ?_
      refine R_goto 78 rfl dX10_count_66 ?_
      refine R_ireturn dX10_count_78 rfl ?_
      first | exact QI_mk ⟨by unfold a_count; simp; omega, fun _ _ _ => rfl, hCS, hEx⟩ | exact QI_mk ⟨by unfold a_count; simp; split <;> omega, fun _ _ _ => rfl, hCS, hEx⟩
  · refine R_tsIn 79 dX10_count_1 ⟨by omega, by omega⟩ (by omega) (by omega) rfl rfl ?_
    refine R_aload_n 80 rfl dX10_count_79 rfl ?_
    refine R_getP 8 83 rfl dX10_count_80 rfl rfl fl_X10_61 (hP _ _ _ rfl) ?_
    refine R_iconst 84 rfl dX10_count_83 ?_
    refine R_aald 0 85 rfl dX10_count_84 rfl rfl (by first | rfl | omega) (by decide) (by decide) (hP _ _ _ rfl) ?_
    refine R_getI 0 88 rfl dX10_count_85 rfl rfl fl_X10_346 ?_
    refine R_if_eq 91 95 rfl rfl dX10_count_88 (by first | assumption | exact ⟨by omega, by omega⟩) (fun h88 => ?_) (fun h88 => ?_)
    · refine R_iconst 96 rfl dX10_count_95 ?_
      refine R_aload_n 97 rfl dX10_count_96 rfl ?_
      refine R_getP 8 100 rfl dX10_count_97 rfl rfl fl_X10_61 (hP _ _ _ rfl) ?_
      refine R_iconst 101 rfl dX10_count_100 ?_
      refine R_aald 1 102 rfl dX10_count_101 rfl rfl (by first | rfl | omega) (by decide) (by decide) (hP _ _ _ rfl) ?_
      refine R_getI 0 105 rfl dX10_count_102 rfl rfl fl_X10_346 ?_
      refine R_if_eq 108 112 rfl rfl dX10_count_105 (by first | assumption | exact ⟨by omega, by omega⟩) (fun h105 => ?_) (fun h105 => ?_)
      · refine R_iconst 113 rfl dX10_count_112 ?_
        refine R_iadd 114 rfl dX10_count_113 ?_
        refine R_ireturn dX10_count_114 rfl ?_
        exact QI_mk ⟨by unfold a_count; simp; omega, fun _ _ _ => rfl, hCS, hEx⟩
      · refine R_iconst 109 rfl dX10_count_108 ?_
        refine R_goto 113 rfl dX10_count_109 ?_
        refine R_iadd 114 rfl dX10_count_113 ?_
        refine R_ireturn dX10_count_114 rfl ?_
        exact QI_mk ⟨by unfold a_count; simp; omega, fun _ _ _ => rfl, hCS, hEx⟩
    · refine R_iconst 92 rfl dX10_count_91 ?_
      refine R_goto 96 rfl dX10_count_92 ?_
      refine R_aload_n 97 rfl dX10_count_96 rfl ?_
      refine R_getP 8 100 rfl dX10_count_97 rfl rfl fl_X10_61 (hP _ _ _ rfl) ?_
      refine R_iconst 101 rfl dX10_count_100 ?_
      refine R_aald 1 102 rfl dX10_count_101 rfl rfl (by first | rfl | omega) (by decide) (by decide) (hP _ _ _ rfl) ?_
      refine R_getI 0 105 rfl dX10_count_102 rfl rfl fl_X10_346 ?_
      refine R_if_eq 108 112 rfl rfl dX10_count_105 (by first | assumption | exact ⟨by omega, by omega⟩) (fun h105 => ?_) (fun h105 => ?_)
      · refine R_iconst 113 rfl dX10_count_112 ?_
        refine R_iadd 114 rfl dX10_count_113 ?_
        refine R_ireturn dX10_count_114 rfl ?_
        exact QI_mk ⟨by unfold a_count; simp; omega, fun _ _ _ => rfl, hCS, hEx⟩
      · refine R_iconst 109 rfl dX10_count_108 ?_
        refine R_goto 113 rfl dX10_count_109 ?_
        refine R_iadd 114 rfl dX10_count_113 ?_
        refine R_ireturn dX10_count_114 rfl ?_
        exact QI_mk ⟨by unfold a_count; simp; omega, fun _ _ _ => rfl, hCS, hEx⟩
  · refine R_tsIn 115 dX10_count_1 ⟨by omega, by omega⟩ (by omega) (by omega) rfl rfl ?_
    refine R_aload_n 116 rfl dX10_count_115 rfl ?_
    refine R_getP 2 119 rfl dX10_count_116 rfl rfl fl_X10_26 (PO_o hPO) ?_
    refine R_callV_i (M' := mX4_towns) 122 rfl dX10_count_119 ml_X10_395 kmX4_towns im_X4_towns se_X4_towns hso ⟨by decide, rfl⟩ (c_X4_towns hPO hL hLO) rfl rfl ⟨Nat.le_of_ble_eq_true rfl, Nat.le_of_ble_eq_true rfl⟩ (Nat.le_of_ble_eq_true rfl) ⟨Nat.le_of_ble_eq_true rfl, Nat.le_of_ble_eq_true rfl⟩ ?_
    refine R_ireturn dX10_count_122 rfl ?_
    exact QI_mk ⟨by unfold a_count; simp, fun _ _ _ => rfl, hCS, hEx⟩
end
