/-! the rest of the state: tape, fault, images, sheets, torn -/
abbrev Tp : Type := Nat × (Nat → Int)
abbrev Im : Type := Bool × Bk × Cs
abbrev Sht : Type := Int × Int × (Nat → Int)
def TpC (m : Mem) (T : Tp) : Prop := m.1 1 1 = (T.1 : Int) ∧ ∀ k, k < T.1 → m.1 2 k = (T.2 k).bmod 256
def TpOk (T : Tp) : Prop := T.1 ≤ 320 ∧ ∀ k, k < T.1 → 0 ≤ T.2 k ∧ T.2 k ≤ 255
def ImC0 (m : Mem) (I : Im) : Prop := m.1 48 0 = pI (I.1 = true) ∧ (I.1 = true → BkC 49 51 52 53 55 56 57 58 59 m I.2.1 ∧ ChR 60 m (I.2.2 0) ∧ ChR 61 m (I.2.2 1))
def ImC1 (m : Mem) (I : Im) : Prop := m.1 62 0 = pI (I.1 = true) ∧ (I.1 = true → BkC 63 65 66 67 69 70 71 72 73 m I.2.1 ∧ ChR 74 m (I.2.2 0) ∧ ChR 75 m (I.2.2 1))
def ImOk (I : Im) : Prop := I.1 = true → BkOk 12 I.2.1 ∧ ChOk I.2.2
def ShC (k : Nat) (m : Mem) (s : Sht) : Prop := m.1 (77 + 2 * k) 0 = s.1 ∧ (0 ≤ s.1 → m.1 (77 + 2 * k) 1 = s.2.1) ∧ ∀ i, i < 60 → m.1 (78 + 2 * k) i = s.2.2 i
def ShOk (s : Sht) : Prop := (s.1 = -1 ∨ (0 ≤ s.1 ∧ s.1 ≤ 60 ∧ 0 ≤ s.2.1 ∧ s.2.1 ≤ 2)) ∧ ∀ i, i < 60 → rg (s.2.2 i)
def Ex (T : Tp) (F : Int) (I : Nat → Im) (S : Nat → Sht) (N : Int) (m : Mem) : Prop := (TpC m T ∧ TpOk T) ∧ (m.1 0 4 = F ∧ 0 ≤ F ∧ F ≤ 5) ∧ (ImC0 m (I 0) ∧ ImC1 m (I 1) ∧ ImOk (I 0) ∧ ImOk (I 1)) ∧ (∀ k, k < 4 → ShC k m (S k) ∧ ShOk (S k)) ∧ m.1 0 10 = N ∧ 0 ≤ N ∧ N ≤ 3
def Fh (m m' : Mem) : Prop := ∀ a k, 96 ≤ a → m'.1 a k = m.1 a k
def QS (o d : Nat) (L : Ld) (B : Bk) (ch : Cs) (T : Tp) (F : Int) (I : Nat → Im) (S : Nat → Sht) (N : Int) (m : Mem) (z : Int) : Option AV → Shp → Mem → Prop := QI SH (fun z' m' => z' = z ∧ Fh m m' ∧ CS o d L B ch m' ∧ Ex T F I S N m')
section
variable {Γ : GX} {m m' : Mem} {B B' : Bk} {L : Ld} {ch ch' : Cs} {o d : Nat} {T : Tp} {F N : Int} {I : Nat → Im} {S : Nat → Sht} {P : Nat → Bool}
theorem Fs.h (h : Fs m m') : Fh m m' := fun a k q => h.1 a k (by simp [isQ]; omega)
theorem Fr.h (h : Fr P m m') (hP : ∀ a, 96 ≤ a → P a = false) : Fh m m' := fun a k q => h.1 a k (hP a q)
theorem Fh.tr {m1 m2 m3 : Mem} (h : Fh m1 m2) (h' : Fh m2 m3) : Fh m1 m3 := fun a k q => (h' a k q).trans (h a k q)
theorem TpC.eq (h : TpC m T) (e : ∀ a k, 1 ≤ a → a ≤ 2 → m'.1 a k = m.1 a k) : TpC m' T := ⟨by rw [e 1 1 (by omega) (by omega)]; exact h.1, fun k hk => by rw [e 2 k (by omega) (by omega)]; exact h.2 k hk⟩
theorem ChR.eq {c : Nat} {f : Nat → Int} (h : ChR c m f) (e : ∀ k, m'.1 c k = m.1 c k) : ChR c m' f := by
  obtain ⟨h0, h1, h2, h3, h4⟩ := h
  exact ⟨by rw [e]; exact h0, by rw [e]; exact h1, by rw [e]; exact h2, by rw [e]; exact h3, by rw [e]; exact h4⟩
theorem ImC0.eq {J : Im} (h : ImC0 m J) (e : ∀ a k, 48 ≤ a → a ≤ 61 → m'.1 a k = m.1 a k) : ImC0 m' J := by
  refine ⟨by rw [e 48 0 (by omega) (by omega)]; exact h.1, fun q => ?_⟩
  obtain ⟨h1, h2, h3⟩ := h.2 q
  exact ⟨h1.eq (fun a k ha => e a k (by omega) (by omega)), h2.eq (fun k => e 60 k (by omega) (by omega)), h3.eq (fun k => e 61 k (by omega) (by omega))⟩
theorem ImC1.eq {J : Im} (h : ImC1 m J) (e : ∀ a k, 62 ≤ a → a ≤ 75 → m'.1 a k = m.1 a k) : ImC1 m' J := by
  refine ⟨by rw [e 62 0 (by omega) (by omega)]; exact h.1, fun q => ?_⟩
  obtain ⟨h1, h2, h3⟩ := h.2 q
  exact ⟨h1.eq (fun a k ha => e a k (by omega) (by omega)), h2.eq (fun k => e 74 k (by omega) (by omega)), h3.eq (fun k => e 75 k (by omega) (by omega))⟩
theorem ShC.eq {k : Nat} {s : Sht} (h : ShC k m s) (e : ∀ a j, 77 + 2 * k ≤ a → a ≤ 78 + 2 * k → m'.1 a j = m.1 a j) : ShC k m' s :=
  ⟨by rw [e _ 0 (by omega) (by omega)]; exact h.1, fun q => by rw [e _ 1 (by omega) (by omega)]; exact h.2.1 q, fun i hi => by rw [e _ i (by omega) (by omega)]; exact h.2.2 i hi⟩
theorem Ex.eq (h : Ex T F I S N m) (e : ∀ a k, a ≤ 2 ∨ 47 ≤ a ∧ a ≤ 84 → m'.1 a k = m.1 a k) : Ex T F I S N m' := by
  obtain ⟨⟨h1, h1'⟩, h2, ⟨h3, h4, h5, h6⟩, h7, h8, h9⟩ := h
  exact ⟨⟨h1.eq (fun a k q1 q2 => e a k (by omega)), h1'⟩, ⟨by rw [e 0 4 (by omega)]; exact h2.1, h2.2⟩, ⟨h3.eq (fun a k q1 q2 => e a k (by omega)), h4.eq (fun a k q1 q2 => e a k (by omega)), h5, h6⟩, fun k hk => ⟨(h7 k hk).1.eq (fun a j q1 q2 => e a j (by omega)), (h7 k hk).2⟩, by rw [e 0 10 (by omega)]; exact h8, h9⟩
theorem Ex.fs (h : Ex T F I S N m) (hf : Fs m m') : Ex T F I S N m' := h.eq (fun a k q => hf.1 a k (by simp [isQ]; omega))
theorem Ex.fr (h : Ex T F I S N m) (hf : Fr P m m') (hP : ∀ a, a ≤ 2 ∨ 47 ≤ a ∧ a ≤ 84 → P a = false) : Ex T F I S N m' := h.eq (fun a k q => hf.1 a k (hP a q))
theorem CS.mkB (h : CS o d L B ch m) (hf : Fr P m m') (hP : ∀ a, 4 ≤ a → a ≤ 29 → P a = false) (h45 : P 45 = false) (h46 : P 46 = false) (hB : Bk0 m' B') (hO : BkOk (L.1 0) B') (hs : m'.1 41 0 = 1) : CS o d L B' ch m' :=
  ⟨h.1.eq hf.2, hB, hO, h.2.2.2.1.fr hf hP, h.2.2.2.2.1, h.2.2.2.2.2.1.fr hf h45 h46, h.2.2.2.2.2.2.1, Or.inr hs, fun q => by omega⟩
/-- an answer that leaves the state -/
theorem QA.s {z : Int} (hEx : Ex T F I S N m) {r : Option AV} {S' : Shp} (h : QA o d L B ch m z r S' m') : QS o d L B ch T F I S N m z r S' m' := by
  obtain ⟨z', h1, h2, h3, h4, h5⟩ := h
  exact ⟨z', h1, h2, h3, h4.h, h5, hEx.fs h4⟩
def isKB (a : Nat) : Bool := decide (30 ≤ a ∧ a ≤ 41)
theorem isKB_4 : ∀ a, 4 ≤ a → a ≤ 29 → isKB a = false := fun a h1 h2 => by simp [isKB]; omega
theorem isKB_h : ∀ a, 96 ≤ a → isKB a = false := fun a h => by simp [isKB]; omega
theorem isKB_x : ∀ a, a ≤ 2 ∨ 47 ≤ a ∧ a ≤ 84 → isKB a = false := fun a h => by simp [isKB]; omega
theorem isBk_KB : ∀ a, isKB a = false → isBk a = false := fun a h => by simp [isKB] at h; simp [isBk]; omega
/-! tape -/
def fdT (T : Tp) (v : Int) : Tp := (T.1 + 8, fun k => if k < T.1 then T.2 k else v / 2 ^ (56 - 8 * (k - T.1)) % 256)
def is12 (a : Nat) : Bool := decide (1 ≤ a ∧ a ≤ 2)
theorem bmod_emod (x : Int) : (x % 256).bmod 256 = x.bmod 256 := by
  have := Int.emod_bmod x 256
  simpa using this
theorem c_X9_append (v : Int) (hPO : PO o d m) (hT : TpC m T) (hO : TpOk T) (hv : rgL v) : C Γ mX9_append 0 0 0 0 [vr 1, vl v] SH m (QI SH (fun z m' => z = pI (T.1 + 8 ≤ 320) ∧ Fr is12 m m' ∧ TpC m' (if T.1 + 8 ≤ 320 then fdT T v else T))) := by
  refine C_of_R rfl (Nat.le_of_ble_eq_true rfl) ?_
  have hP0 := hPO.2
  have h0 := hT.1
  have h1 := hO.1
  have Lp : ∀ j : Nat, j ≤ 8 → ∀ mm z, T.1 + 8 ≤ 320 → Fr is12 m mm → mm.1 1 1 = (T.1 : Int) + j → (∀ k, k < T.1 + j → mm.1 2 k = ((fdT T v).2 k).bmod 256) → z = 56 - 8 * (j : Int) → R Γ mX9_append { frames := 0, cells := 0, slots := 0, locals := 0 } 0 0 (QI SH (fun z m' => z = pI (T.1 + 8 ≤ 320) ∧ Fr is12 m m' ∧ TpC m' (if T.1 + 8 ≤ 320 then fdT T v else T))) 0 0 18 [some (vr 1), some (vl v), none, some (vi z)] [] SH mm := by
    refine up_ind 8 (fun j hj ih mm z hle hf h3 h4 hz => ?_)
    have hP := (hPO.eq hf.2).2
    refine R_iload_n 19 rfl dX9_append_18 rfl ?_
    refine R_if_lt 22 52 rfl rfl dX9_append_19 (by first | assumption | exact ⟨by omega, by omega⟩) (fun h19 => ?_) (fun h19 => ?_)
    · refine R_iconst 53 rfl dX9_append_52 ?_
      refine R_zreturn dX9_append_53 rfl (by first | decide | exact pI_01 _) ?_
      refine QI_mk ⟨pI_1 hle, hf, ?_⟩
      rw [if_pos hle]
      exact ⟨by show _ = ((T.1 + 8 : Nat) : Int); omega, fun k hk => h4 k (by have : k < T.1 + 8 := hk; omega)⟩
    · refine R_aload_n 23 rfl dX9_append_22 rfl ?_
      refine R_getP 0 26 rfl dX9_append_23 rfl rfl fl_X9_9 (hP _ _ _ rfl) ?_
      refine R_aload_n 27 rfl dX9_append_26 rfl ?_
      refine R_getI 1 30 rfl dX9_append_27 rfl rfl fl_X9_15 ?_
      refine R_lload_n 31 rfl dX9_append_30 rfl ?_
      refine R_iload_n 32 rfl dX9_append_31 rfl ?_
      refine R_lshr 33 rfl dX9_append_32 hv (by omega) (by omega) ?_
      refine R_l2i 34 rfl dX9_append_33 ?_
      refine R_i2b 35 rfl dX9_append_34 ?_
      refine R_bast (T.1 + j) 36 rfl dX9_append_35 rfl (by first | rfl | omega) (by omega) (by decide) ?_
      refine R_aload_n 37 rfl dX9_append_36 rfl ?_
      refine R_dup 38 rfl dX9_append_37 rfl ?_
      refine R_getI 1 41 rfl dX9_append_38 rfl rfl fl_X9_15 ?_
      refine R_iconst 42 rfl dX9_append_41 ?_
      refine R_iadd 43 rfl dX9_append_42 ?_
      refine R_putI 1 46 rfl dX9_append_43 rfl rfl fl_X9_15 ?_
      refine R_iinc [_, _, _, _] 49 rfl dX9_append_46 rfl rfl (by decide) ?_
      refine R_goto 18 rfl dX9_append_49 ?_
      refine ih (by omega) _ _ hle ((hf.set rfl).set rfl) (by simp [setI]; omega) (fun k hk => ?_) (by omega)
      by_cases e : k = T.1 + j
      · subst e
        simp only [setI]
        simp only [fdT]
        rw [if_neg (by omega), if_pos (by simp), if_neg (by omega), bmod_emod, show z.toNat = 56 - 8 * (T.1 + j - T.1) by omega]
        first | exact Int.bmod_bmod | simp
      · simp only [setI]
        rw [if_neg (by omega), if_neg (by omega)]
        exact h4 k (by omega)
  refine R_aload_n 1 rfl dX9_append_0 rfl ?_
  refine R_getI 1 4 rfl dX9_append_1 rfl rfl fl_X9_15 ?_
  refine R_bipush 6 rfl dX9_append_4 (by decide) ?_
  refine R_iadd 7 rfl dX9_append_6 ?_
  refine R_sipush 10 rfl dX9_append_7 (by decide) ?_
  refine R_icmp_le 13 15 rfl rfl dX9_append_10 (by first | assumption | exact ⟨by omega, by omega⟩) (by first | assumption | exact ⟨by omega, by omega⟩) (fun h10 => ?_) (fun h10 => ?_)
  · refine R_bipush 17 rfl dX9_append_15 (by decide) ?_
    refine R_istore_n [_, _, _, _] 18 rfl dX9_append_17 rfl (by decide) ?_
    exact Lp 0 (by omega) _ _ (by omega) Fr.rf (by omega) (fun k hk => by rw [hT.2 k (by omega)]; simp only [fdT]; rw [if_pos (by omega)]) rfl
  · refine R_iconst 14 rfl dX9_append_13 ?_
    refine R_zreturn dX9_append_14 rfl (by first | decide | exact pI_01 _) ?_
    exact QI_mk ⟨pI_0 (by omega), Fr.rf, by rw [if_neg (by omega)]; exact hT⟩
theorem fdT_ok (hO : TpOk T) (v : Int) (h : T.1 + 8 ≤ 320) : TpOk (fdT T v) := by
  refine ⟨h, fun k hk => ?_⟩
  simp only [fdT]
  split
  · exact hO.2 k (by assumption)
  · omega
theorem is12_46 : ∀ a, 4 ≤ a → a ≤ 46 → is12 a = false := fun a h1 h2 => by simp [is12]; omega
/-- a change of the tape alone -/
theorem Ex.tape {T' : Tp} (h : Ex T F I S N m) (hf : Fr is12 m m') (hT : TpC m' T') (hO : TpOk T') : Ex T' F I S N m' := by
  obtain ⟨⟨h1, h1'⟩, h2, ⟨h3, h4, h5, h6⟩, h7, h8, h9⟩ := h
  have e : ∀ a k, a = 0 ∨ 3 ≤ a → m'.1 a k = m.1 a k := fun a k q => hf.1 a k (by simp [is12]; omega)
  exact ⟨⟨hT, hO⟩, ⟨by rw [e 0 4 (by omega)]; exact h2.1, h2.2⟩, ⟨h3.eq (fun a k q1 q2 => e a k (by omega)), h4.eq (fun a k q1 q2 => e a k (by omega)), h5, h6⟩, fun k hk => ⟨(h7 k hk).1.eq (fun a j q1 q2 => e a j (by omega)), (h7 k hk).2⟩, by rw [e 0 10 (by omega)]; exact h8, h9⟩
theorem c_X10_feed (v : Int) (hCS : CS o d L B ch m) (hEx : Ex T F I S N m) (hv : rgL v) : C Γ mX10_feed 2 80 0 0 [vr 0, vl v] SH m (QS o d L B ch (if T.1 + 8 ≤ 320 then fdT T v else T) F I S N m (if T.1 + 8 ≤ 320 then (T.1 : Int) + 8 else -3)) := by
  refine C_of_R rfl (Nat.le_of_ble_eq_true rfl) ?_
  have hPO := hCS.1
  have hP := hPO.2
  obtain ⟨hT, hO⟩ := hEx.1
  refine R_aload_n 1 rfl dX10_feed_0 rfl ?_
  refine R_getP 0 4 rfl dX10_feed_1 rfl rfl fl_X10_10 (hP _ _ _ rfl) ?_
  refine R_lload_n 5 rfl dX10_feed_4 rfl ?_
  refine R_callV_I (M' := mX9_append) 8 rfl dX10_feed_5 ml_X10_101 kmX9_append im_X9_append se_X9_append rfl ⟨by decide, rfl⟩ (c_X9_append _ hPO hT hO hv) rfl rfl ⟨Nat.le_of_ble_eq_true rfl, Nat.le_of_ble_eq_true rfl⟩ (Nat.le_of_ble_eq_true rfl) ⟨Nat.le_of_ble_eq_true rfl, Nat.le_of_ble_eq_true rfl⟩ ?_
  rintro z5 m5 h5
  obtain ⟨e5, f5, t5⟩ := h5
  replace hCS := hCS.fr f5 is12_46
  replace hP := hCS.1.2
  rw [e5]
  refine R_ifp_eq 11 21 rfl rfl dX10_feed_8 (fun h8 => ?_) (fun h8 => ?_)
  · refine R_bipush 23 rfl dX10_feed_21 (by decide) ?_
    refine R_ireturn dX10_feed_23 rfl ?_
    first
      | (rw [if_pos h8] at t5
         rw [if_pos h8, if_pos h8]
         exact QI_mk ⟨by rw [t5.1]; simp [fdT], f5.h (fun a q => by simp [is12]; omega), hCS, hEx.tape f5 t5 (fdT_ok hO v h8)⟩)
      | (rw [if_neg h8] at t5
         rw [if_neg h8, if_neg h8]
         exact QI_mk ⟨rfl, f5.h (fun a q => by simp [is12]; omega), hCS, hEx.tape f5 t5 hO⟩)
  · refine R_aload_n 12 rfl dX10_feed_11 rfl ?_
    refine R_getP 0 15 rfl dX10_feed_12 rfl rfl fl_X10_10 (hP _ _ _ rfl) ?_
    refine R_getI 1 18 rfl dX10_feed_15 rfl rfl fl_X10_105 ?_
    refine R_goto 23 rfl dX10_feed_18 ?_
    refine R_ireturn dX10_feed_23 rfl ?_
    first
      | (rw [if_pos h8] at t5
         rw [if_pos h8, if_pos h8]
         exact QI_mk ⟨by rw [t5.1]; simp [fdT], f5.h (fun a q => by simp [is12]; omega), hCS, hEx.tape f5 t5 (fdT_ok hO v h8)⟩)
      | (rw [if_neg h8] at t5
         rw [if_neg h8, if_neg h8]
         exact QI_mk ⟨rfl, f5.h (fun a q => by simp [is12]; omega), hCS, hEx.tape f5 t5 hO⟩)
theorem c_X10_end (n : Int) (hCS : CS o d L B ch m) (hEx : Ex T F I S N m) (hn : rg n) : C Γ mX10_end 2 80 0 0 [vr 0, vi n] SH m (QS o d L B ch (if 0 ≤ n ∧ n ≤ T.1 then (n.toNat, T.2) else T) F I S N m (if 0 ≤ n ∧ n ≤ T.1 then (T.1 : Int) else -1)) := by
  refine C_of_R rfl (Nat.le_of_ble_eq_true rfl) ?_
  have hPO := hCS.1
  have hP := hPO.2
  obtain ⟨hT, hO⟩ := hEx.1
  have h0 := hT.1
  have h1 := hO.1
  refine R_iload_n 1 rfl dX10_end_0 rfl ?_
  refine R_iconst 2 rfl dX10_end_1 ?_
  refine R_aload_n 3 rfl dX10_end_2 rfl ?_
  refine R_getP 0 6 rfl dX10_end_3 rfl rfl fl_X10_10 (hP _ _ _ rfl) ?_
  refine R_getI 1 9 rfl dX10_end_6 rfl rfl fl_X10_105 ?_
  refine R_callS_i (M' := mX10_within) 12 rfl dX10_end_9 ml_X10_108 kmX10_within st_X10_within (c_X10_within _ _ _ (by first | assumption | exact ⟨by omega, by omega⟩) (by first | assumption | exact ⟨by omega, by omega⟩) (by first | assumption | exact ⟨by omega, by omega⟩)) rfl rfl ⟨Nat.le_of_ble_eq_true rfl, Nat.le_of_ble_eq_true rfl⟩ (Nat.le_of_ble_eq_true rfl) ⟨Nat.le_of_ble_eq_true rfl, Nat.le_of_ble_eq_true rfl⟩ ?_
  refine R_ifp_ne 15 17 rfl rfl dX10_end_12 (fun h12 => ?_) (fun h12 => ?_)
  · refine R_aload_n 18 rfl dX10_end_17 rfl ?_
    refine R_getP 0 21 rfl dX10_end_18 rfl rfl fl_X10_10 (hP _ _ _ rfl) ?_
    refine R_getI 1 24 rfl dX10_end_21 rfl rfl fl_X10_105 ?_
    refine R_istore_n [_, _, _] 25 rfl dX10_end_24 rfl (by decide) ?_
    refine R_aload_n 26 rfl dX10_end_25 rfl ?_
    refine R_getP 0 29 rfl dX10_end_26 rfl rfl fl_X10_10 (hP _ _ _ rfl) ?_
    refine R_iload_n 30 rfl dX10_end_29 rfl ?_
    refine R_putI 1 33 rfl dX10_end_30 rfl rfl fl_X10_105 ?_
    refine R_iload_n 34 rfl dX10_end_33 rfl ?_
    refine R_ireturn dX10_end_34 rfl ?_
    rw [if_pos (by omega), if_pos (by omega)]
    have f : Fr is12 m (setI m 1 1 n) := Fr.rf.set rfl
    exact QI_mk ⟨h0, f.h (fun a q => by simp [is12]; omega), hCS.fr f is12_46, hEx.tape f ⟨by simp [setI]; omega, fun k hk => by have : k < n.toNat := hk; simp only [setI]; rw [if_neg (by omega)]; exact hT.2 k (by omega)⟩ ⟨by show n.toNat ≤ 320; omega, fun k hk => hO.2 k (by have : k < n.toNat := hk; omega)⟩⟩
  · refine R_iconst 16 rfl dX10_end_15 ?_
    refine R_ireturn dX10_end_16 rfl ?_
    rw [if_neg (by omega), if_neg (by omega)]
    exact QI_mk ⟨rfl, fun _ _ _ => rfl, hCS, hEx⟩
theorem c_X10_fault (hCS : CS o d L B ch m) (hEx : Ex T F I S N m) : C Γ mX10_fault 2 80 0 0 [vr 0] SH m (QS o d L B ch T F I S N m F) := by
  refine C_of_R rfl (Nat.le_of_ble_eq_true rfl) ?_
  refine R_aload_n 1 rfl dX10_fault_0 rfl ?_
  refine R_getI 4 4 rfl dX10_fault_1 rfl rfl fl_X10_33 ?_
  refine R_ireturn dX10_fault_4 rfl ?_
  exact QI_mk ⟨hEx.2.1.1, fun _ _ _ => rfl, hCS, hEx⟩
theorem c_X10_torn (hCS : CS o d L B ch m) (hEx : Ex T F I S N m) : C Γ mX10_torn 2 80 0 0 [vr 0] SH m (QS o d L B ch T F I S N m N) := by
  refine C_of_R rfl (Nat.le_of_ble_eq_true rfl) ?_
  refine R_aload_n 1 rfl dX10_torn_0 rfl ?_
  refine R_getI 10 4 rfl dX10_torn_1 rfl rfl fl_X10_72 ?_
  refine R_ireturn dX10_torn_4 rfl ?_
  exact QI_mk ⟨hEx.2.2.2.2.1, fun _ _ _ => rfl, hCS, hEx⟩
/-! books -/
def isMrB (L : Ld) (p y t g b : Int) : Bool := decide ((0 ≤ p ∧ p < L.1 0) ∧ (0 ≤ y ∧ y ≤ 89) ∧ (0 ≤ t ∧ t ≤ 7) ∧ (0 ≤ g ∧ g ≤ 1) ∧ (0 ≤ b ∧ b ≤ 1))
theorem isMrB_iff {p y t g b : Int} : isMrB L p y t g b = true ↔ ((0 ≤ p ∧ p < L.1 0) ∧ (0 ≤ y ∧ y ≤ 89) ∧ (0 ≤ t ∧ t ≤ 7) ∧ (0 ≤ g ∧ g ≤ 1) ∧ (0 ≤ b ∧ b ≤ 1)) := by simp [isMrB]
theorem bkAdd_k {np p y t g b : Int} (hO : BkOk np B) (hn : B.1 < 40) (hp : 0 ≤ p ∧ p < np) (hy : 0 ≤ y ∧ y ≤ 89) (ht : 0 ≤ t ∧ t ≤ 7) (hg : 0 ≤ g ∧ g ≤ 1) (hb : 0 ≤ b ∧ b ≤ 1) : BkOk np (bkAdd B p y t g b) := by
  refine ⟨hn, fun k hk => ?_, fun k hk => ?_⟩
  · have hk' : k < B.1 + 1 := hk
    simp only [bkAdd]
    by_cases e : k = B.1
    · simp only [e, if_true]; simp; omega
    · simp only [if_neg e]; exact hO.2.1 k (by omega)
  · have hk' : k < 2 * (B.1 + 1) := hk
    simp only [bkAdd]
    by_cases e : k = 2 * B.1
    · simp only [e, if_true]; simp [sideI]; omega
    · by_cases e2 : k = 2 * B.1 + 1
      · simp only [if_neg e, if_pos e2]; simp [sideI]; omega
      · simp only [if_neg e, if_neg e2]; exact hO.2.2 k (by omega)
theorem c_X10_marry (p y t g b : Int) (hCS : CS o d L B ch m) (hEx : Ex T F I S N m) (hp : rg p) (hy : rg y) (ht : rg t) (hg : rg g) (hb : rg b) : C Γ mX10_marry 3 120 0 0 [vr 0, vi p, vi y, vi t, vi g, vi b] SH m (QS o d L (if isMrB L p y t g b = true ∧ B.1 < 40 then bkAdd B p y t g b else B) ch T F I S N m (if isMrB L p y t g b = true then (if 40 ≤ B.1 then -3 else (B.1 : Int)) else -1)) := by
  refine C_of_R rfl (Nat.le_of_ble_eq_true rfl) ?_
  have hPO := hCS.1
  have hP := hPO.2
  have hB := hCS.2.1
  have hO := hCS.2.2.1
  have h0 := hB.1
  have h1 := hO.1
  have fk : Fr isKB m (setI m 41 0 1) := Fr.rf.set rfl
  have hB2 : Bk0 (setI m 41 0 1) B := hB.fr (F := fun a => decide (a = 41)) (Fr.rf.set rfl) (fun a q1 q2 => by simp; omega)
  refine R_aload_n 1 rfl dX10_marry_0 rfl ?_
  refine R_iload_n 2 rfl dX10_marry_1 rfl ?_
  refine R_iload_n 3 rfl dX10_marry_2 rfl ?_
  refine R_iload_n 4 rfl dX10_marry_3 rfl ?_
  refine R_iload 6 rfl dX10_marry_4 rfl ?_
  refine R_iload 8 rfl dX10_marry_6 rfl ?_
  refine R_callV_i (M' := mX10_isMarriage) 11 rfl dX10_marry_8 ml_X10_175 kmX10_isMarriage im_X10_isMarriage se_X10_isMarriage rfl ⟨by decide, rfl⟩ (c_X10_isMarriage _ _ _ _ _ hCS (by first | assumption | exact ⟨by omega, by omega⟩) (by first | assumption | exact ⟨by omega, by omega⟩) (by first | assumption | exact ⟨by omega, by omega⟩) (by first | assumption | exact ⟨by omega, by omega⟩) (by first | assumption | exact ⟨by omega, by omega⟩)) rfl rfl ⟨Nat.le_of_ble_eq_true rfl, Nat.le_of_ble_eq_true rfl⟩ (Nat.le_of_ble_eq_true rfl) ⟨Nat.le_of_ble_eq_true rfl, Nat.le_of_ble_eq_true rfl⟩ ?_
  refine R_ifp_ne 14 16 rfl rfl dX10_marry_11 (fun h11 => ?_) (fun h11 => ?_)
  · refine R_aload_n 17 rfl dX10_marry_16 rfl ?_
    refine R_getP 5 20 rfl dX10_marry_17 rfl rfl fl_X10_40 (hP _ _ _ rfl) ?_
    refine R_getI 0 23 rfl dX10_marry_20 rfl rfl fl_X10_179 ?_
    refine R_bipush 25 rfl dX10_marry_23 (by decide) ?_
    refine R_icmp_lt 28 31 rfl rfl dX10_marry_25 (by first | assumption | exact ⟨by omega, by omega⟩) (by first | assumption | exact ⟨by omega, by omega⟩) (fun h25 => ?_) (fun h25 => ?_)
    · refine R_aload_n 32 rfl dX10_marry_31 rfl ?_
      refine R_getP 6 35 rfl dX10_marry_32 rfl rfl fl_X10_47 (hP _ _ _ rfl) ?_
      refine R_iconst 36 rfl dX10_marry_35 ?_
      refine R_putZ 0 39 rfl dX10_marry_36 rfl rfl fl_X10_182 (by decide) ?_
      refine R_aload_n 40 rfl dX10_marry_39 rfl ?_
      refine R_getP 5 43 rfl dX10_marry_40 rfl rfl fl_X10_40 (hP _ _ _ rfl) ?_
      refine R_iload_n 44 rfl dX10_marry_43 rfl ?_
      refine R_iload_n 45 rfl dX10_marry_44 rfl ?_
      refine R_iload_n 46 rfl dX10_marry_45 rfl ?_
      refine R_iload 48 rfl dX10_marry_46 rfl ?_
      refine R_iload 50 rfl dX10_marry_48 rfl ?_
      refine R_callV_i (M' := mX0_append) 53 rfl dX10_marry_50 ml_X10_186 kmX0_append im_X0_append se_X0_append rfl ⟨by decide, rfl⟩ (c_X0_append _ _ _ _ _ (hPO.eq rfl) hB2 (by omega)) rfl rfl ⟨Nat.le_of_ble_eq_true rfl, Nat.le_of_ble_eq_true rfl⟩ (Nat.le_of_ble_eq_true rfl) ⟨Nat.le_of_ble_eq_true rfl, Nat.le_of_ble_eq_true rfl⟩ ?_
      refine R_ireturn dX10_marry_53 rfl ?_
      rw [if_pos ⟨isMrB_iff.mpr h11, by omega⟩, if_pos (isMrB_iff.mpr h11), if_neg (by omega)]
      have f2 : Fr isKB m (bkAddM (setI m 41 0 1) B.1 p y t g b) := fk.tr ((bkAdd_fr _ _ _ _ _ _ _).wk isBk_KB)
      refine QI_mk ⟨rfl, f2.h isKB_h, hCS.mkB f2 isKB_4 rfl rfl (bkAdd_ok hB2 p y t g b) (bkAdd_k hO (by omega) h11.1 h11.2.1 h11.2.2.1 h11.2.2.2.1 h11.2.2.2.2) ?_, hEx.fr f2 isKB_x⟩
      rw [(bkAdd_fr (setI m 41 0 1) B.1 p y t g b).1 41 0 rfl]
      simp [setI]
    · refine R_bipush 30 rfl dX10_marry_28 (by decide) ?_
      refine R_ireturn dX10_marry_30 rfl ?_
      rw [if_neg (fun q => by omega), if_pos (isMrB_iff.mpr h11), if_pos (by omega)]
      exact QI_mk ⟨rfl, fun _ _ _ => rfl, hCS, hEx⟩
  · refine R_iconst 15 rfl dX10_marry_14 ?_
    refine R_ireturn dX10_marry_15 rfl ?_
    rw [if_neg (fun q => h11 (isMrB_iff.mp q.1)), if_neg (fun q => h11 (isMrB_iff.mp q))]
    exact QI_mk ⟨rfl, fun _ _ _ => rfl, hCS, hEx⟩
def bkSet (B : Bk) (k w : Nat) (v : Int) : Bk := (B.1, B.2.1, fun w' k' => if k' = k then (if w' = w then v else if w' = 2 ∧ w = 0 ∧ v = 0 then 0 else B.2.2 w' k') else B.2.2 w' k')
def setOk (B : Bk) (k s w v : Int) : Bool := decide (((0 ≤ k ∧ k < B.1) ∧ 0 ≤ s ∧ s ≤ 1) ∧ mayB w v = true)
def setNo (B : Bk) (k s w : Int) : Bool := decide (w = 2 ∧ B.2.2 0 (2 * k + s).toNat = 0)
theorem bkSet_ok {np : Int} {k w : Nat} {v : Int} (hO : BkOk np B) (hm : mayB (w : Int) v = true) : BkOk np (bkSet B k w v) := by
  refine ⟨hO.1, hO.2.1, fun j hj => ?_⟩
  have h := hO.2.2 j hj
  by_cases e : j = k
  · simp only [bkSet, if_pos e]
    simp only [mayB] at hm
    rcases (show w = 0 ∨ w = 1 ∨ w = 2 ∨ w = 3 ∨ w = 4 ∨ 5 ≤ w by omega) with rfl | rfl | rfl | rfl | rfl | h5
    · simp at hm ⊢
      by_cases hv : v = 0
      · simp [hv]; omega
      · simp [hv]; omega
    · simp at hm ⊢; omega
    · simp at hm ⊢; omega
    · simp at hm ⊢; omega
    · simp at hm ⊢; omega
    · rw [if_neg (by omega), if_neg (by omega), if_neg (by omega), if_neg (by omega)] at hm
      exact absurd hm (by decide)
  · simp only [bkSet, if_neg e]; exact h
theorem c_X10_set0 (k s v : Int) (hCS : CS o d L B ch m) (hEx : Ex T F I S N m) (hk : rg k) (hs : rg s) (hv : rg v) : C Γ mX10_set 3 120 0 0 [vr 0, vi k, vi s, vi 0, vi v] SH m (QS o d L (if setOk B k s 0 v = true ∧ ¬ setNo B k s 0 = true then bkSet B (2 * k + s).toNat 0 v else B) ch T F I S N m (if setOk B k s 0 v = true then (if setNo B k s 0 = true then -2 else B.2.2 0 (2 * k + s).toNat) else -1)) := by
  refine C_of_R rfl (Nat.le_of_ble_eq_true rfl) ?_
  have hPO := hCS.1
  have hP := hPO.2
  have hB := hCS.2.1
  have hO := hCS.2.2.1
  have h0 := hB.1
  have h1 := hO.1
  have h9 := hEx
  refine R_aload_n 1 rfl dX10_set_0 rfl ?_
  refine R_iload_n 2 rfl dX10_set_1 rfl ?_
  refine R_iload_n 3 rfl dX10_set_2 rfl ?_
  refine R_callV_i (M' := mX10_isMark) 6 rfl dX10_set_3 ml_X10_189 kmX10_isMark im_X10_isMark se_X10_isMark rfl ⟨by decide, rfl⟩ (c_X10_isMark _ _ hCS (by first | assumption | exact ⟨by omega, by omega⟩) (by first | assumption | exact ⟨by omega, by omega⟩)) rfl rfl ⟨Nat.le_of_ble_eq_true rfl, Nat.le_of_ble_eq_true rfl⟩ (Nat.le_of_ble_eq_true rfl) ⟨Nat.le_of_ble_eq_true rfl, Nat.le_of_ble_eq_true rfl⟩ ?_
  refine R_ifp_eq 9 18 rfl rfl dX10_set_6 (fun h6 => ?_) (fun h6 => ?_)
  · refine R_iconst 19 rfl dX10_set_18 ?_
    refine R_ireturn dX10_set_19 rfl ?_
    have c1 : ¬ setOk B k s 0 v = true := fun q => by simp only [setOk] at q; have := of_decide_eq_true q; first | exact h15 this.2 | exact h6 this.1
    rw [if_neg (fun q => c1 q.1), if_neg c1]
    exact QI_mk ⟨rfl, fun _ _ _ => rfl, hCS, hEx⟩
  · refine R_iload_n 10 rfl dX10_set_9 rfl ?_
    refine R_iload 12 rfl dX10_set_10 rfl ?_
    refine R_callS_i (M' := mX10_mayBe) 15 rfl dX10_set_12 ml_X10_193 kmX10_mayBe st_X10_mayBe (c_X10_mayBe _ _ (by first | assumption | exact ⟨by omega, by omega⟩) (by first | assumption | exact ⟨by omega, by omega⟩)) rfl rfl ⟨Nat.le_of_ble_eq_true rfl, Nat.le_of_ble_eq_true rfl⟩ (Nat.le_of_ble_eq_true rfl) ⟨Nat.le_of_ble_eq_true rfl, Nat.le_of_ble_eq_true rfl⟩ ?_
    refine R_ifp_ne 18 20 rfl rfl dX10_set_15 (fun h15 => ?_) (fun h15 => ?_)
    · have c1 : setOk B k s 0 v = true := by simp only [setOk]; exact decide_eq_true ⟨h6, h15⟩
      obtain ⟨b0, b1, b2, b3, b4⟩ := hB.2.2 (2 * k + s).toNat (by omega)
      have b9 := hO.2.2 (2 * k + s).toNat (by omega)
      refine R_iconst 21 rfl dX10_set_20 ?_
      refine R_iload_n 22 rfl dX10_set_21 rfl ?_
      refine R_imul 23 rfl dX10_set_22 ?_
      refine R_iload_n 24 rfl dX10_set_23 rfl ?_
      refine R_iadd 25 rfl dX10_set_24 ?_
      refine R_istore [_, _, _, _, _, _, _] 27 rfl dX10_set_25 rfl (by decide) ?_
      refine R_iload_n 28 rfl dX10_set_27 rfl ?_
      refine R_iconst 29 rfl dX10_set_28 ?_
      refine R_icmp_ne 32 50 rfl rfl dX10_set_29 (by first | assumption | exact ⟨by omega, by omega⟩) (by first | assumption | exact ⟨by omega, by omega⟩) (fun h29 => ?_) (fun h29 => ?_)
      rotate_left
      · exact absurd h29 (by omega)
      refine R_aload_n 51 rfl dX10_set_50 rfl ?_
      refine R_getP 5 54 rfl dX10_set_51 rfl rfl fl_X10_40 (hP _ _ _ rfl) ?_
      refine R_getP 2 57 rfl dX10_set_54 rfl rfl fl_X10_196 (hP _ _ _ rfl) ?_
      refine R_iload_n 58 rfl dX10_set_57 rfl ?_
      refine R_aald 0 59 rfl dX10_set_58 rfl rfl (by first | rfl | omega) (by decide) (by decide) (hP _ _ _ rfl) ?_
      refine R_iload 61 rfl dX10_set_59 rfl ?_
      refine R_iald (2 * k + s).toNat 62 rfl dX10_set_61 rfl (by first | rfl | omega) (by omega) (by decide) ?_
      refine R_istore [_, _, _, _, _, _, _] 64 rfl dX10_set_62 rfl (by decide) ?_
      refine R_aload_n 65 rfl dX10_set_64 rfl ?_
      refine R_getP 5 68 rfl dX10_set_65 rfl rfl fl_X10_40 (hP _ _ _ rfl) ?_
      refine R_getP 2 71 rfl dX10_set_68 rfl rfl fl_X10_196 (hP _ _ _ rfl) ?_
      refine R_iload_n 72 rfl dX10_set_71 rfl ?_
      refine R_aald 0 73 rfl dX10_set_72 rfl rfl (by first | rfl | omega) (by decide) (by decide) (hP _ _ _ rfl) ?_
      refine R_iload 75 rfl dX10_set_73 rfl ?_
      refine R_iload 77 rfl dX10_set_75 rfl ?_
      refine R_iast (2 * k + s).toNat 78 rfl dX10_set_77 rfl (by first | rfl | omega) (by omega) (by decide) ?_
      refine R_iload_n 79 rfl dX10_set_78 rfl ?_
      refine R_if_ne 82 100 rfl rfl dX10_set_79 (by first | assumption | exact ⟨by omega, by omega⟩) (fun h79 => ?_) (fun h79 => ?_)
      · exact absurd h79 (by omega)
      refine R_iload 84 rfl dX10_set_82 rfl ?_
      refine R_if_ne 87 100 rfl rfl dX10_set_84 (by first | assumption | exact ⟨by omega, by omega⟩) (fun h84 => ?_) (fun h84 => ?_)
      · refine R_aload_n 101 rfl dX10_set_100 rfl ?_
        refine R_getP 6 104 rfl dX10_set_101 rfl rfl fl_X10_47 (hP _ _ _ rfl) ?_
        refine R_iconst 105 rfl dX10_set_104 ?_
        refine R_putZ 0 108 rfl dX10_set_105 rfl rfl fl_X10_182 (by decide) ?_
        refine R_iload 110 rfl dX10_set_108 rfl ?_
        refine R_ireturn dX10_set_110 rfl ?_
        have c2 : ¬ setNo B k s 0 = true := fun q => by simp only [setNo] at q; have := of_decide_eq_true q; omega
        rw [if_pos ⟨c1, c2⟩, if_pos c1, if_neg c2]
        refine QI_mk ⟨b0, ?_, ?_, ?_⟩
        · first
            | exact (((Fr.rf.set rfl).set rfl).set rfl : Fr isKB m _).h isKB_h
            | exact ((Fr.rf.set rfl).set rfl : Fr isKB m _).h isKB_h
        · first
            | (refine hCS.mkB (P := isKB) (((Fr.rf.set rfl).set rfl).set rfl) isKB_4 rfl rfl ⟨?_, ?_, ?_⟩ (bkSet_ok hO h15) (by simp [setI])
               · simp [setI, bkSet]; exact h0
               · intro j hj; simp [setI, bkSet]; exact hB.2.1 j hj
               · intro j hj
                 have hb := hB.2.2 j hj
                 by_cases e : j = (2 * k + s).toNat
                 · subst e; simp [setI, bkSet]; omega
                 · simp [setI, bkSet, e]; exact hb)
            | (refine hCS.mkB (P := isKB) ((Fr.rf.set rfl).set rfl) isKB_4 rfl rfl ⟨?_, ?_, ?_⟩ (bkSet_ok hO h15) (by simp [setI])
               · simp [setI, bkSet]; exact h0
               · intro j hj; simp [setI, bkSet]; exact hB.2.1 j hj
               · intro j hj
                 have hb := hB.2.2 j hj
                 by_cases e : j = (2 * k + s).toNat
                 · subst e; simp [setI, bkSet]; omega
                 · simp [setI, bkSet, e]; exact hb)
        · first
            | exact hEx.fr (P := isKB) (((Fr.rf.set rfl).set rfl).set rfl) isKB_x
            | exact hEx.fr (P := isKB) ((Fr.rf.set rfl).set rfl) isKB_x
      · refine R_aload_n 88 rfl dX10_set_87 rfl ?_
        refine R_getP 5 91 rfl dX10_set_88 rfl rfl fl_X10_40 (hP _ _ _ rfl) ?_
        refine R_getP 2 94 rfl dX10_set_91 rfl rfl fl_X10_196 (hP _ _ _ rfl) ?_
        refine R_iconst 95 rfl dX10_set_94 ?_
        refine R_aald 2 96 rfl dX10_set_95 rfl rfl (by first | rfl | omega) (by decide) (by decide) (hP _ _ _ rfl) ?_
        refine R_iload 98 rfl dX10_set_96 rfl ?_
        refine R_iconst 99 rfl dX10_set_98 ?_
        refine R_iast (2 * k + s).toNat 100 rfl dX10_set_99 rfl (by first | rfl | omega) (by omega) (by decide) ?_
        refine R_aload_n 101 rfl dX10_set_100 rfl ?_
        refine R_getP 6 104 rfl dX10_set_101 rfl rfl fl_X10_47 (hP _ _ _ rfl) ?_
        refine R_iconst 105 rfl dX10_set_104 ?_
        refine R_putZ 0 108 rfl dX10_set_105 rfl rfl fl_X10_182 (by decide) ?_
        refine R_iload 110 rfl dX10_set_108 rfl ?_
        refine R_ireturn dX10_set_110 rfl ?_
        have c2 : ¬ setNo B k s 0 = true := fun q => by simp only [setNo] at q; have := of_decide_eq_true q; omega
        rw [if_pos ⟨c1, c2⟩, if_pos c1, if_neg c2]
        refine QI_mk ⟨b0, ?_, ?_, ?_⟩
        · first
            | exact (((Fr.rf.set rfl).set rfl).set rfl : Fr isKB m _).h isKB_h
            | exact ((Fr.rf.set rfl).set rfl : Fr isKB m _).h isKB_h
        · first
            | (refine hCS.mkB (P := isKB) (((Fr.rf.set rfl).set rfl).set rfl) isKB_4 rfl rfl ⟨?_, ?_, ?_⟩ (bkSet_ok hO h15) (by simp [setI])
               · simp [setI, bkSet]; exact h0
               · intro j hj; simp [setI, bkSet]; exact hB.2.1 j hj
               · intro j hj
                 have hb := hB.2.2 j hj
                 by_cases e : j = (2 * k + s).toNat
                 · subst e; simp [setI, bkSet]; omega
                 · simp [setI, bkSet, e]; exact hb)
            | (refine hCS.mkB (P := isKB) ((Fr.rf.set rfl).set rfl) isKB_4 rfl rfl ⟨?_, ?_, ?_⟩ (bkSet_ok hO h15) (by simp [setI])
               · simp [setI, bkSet]; exact h0
               · intro j hj; simp [setI, bkSet]; exact hB.2.1 j hj
               · intro j hj
                 have hb := hB.2.2 j hj
                 by_cases e : j = (2 * k + s).toNat
                 · subst e; simp [setI, bkSet]; omega
                 · simp [setI, bkSet, e]; exact hb)
        · first
            | exact hEx.fr (P := isKB) (((Fr.rf.set rfl).set rfl).set rfl) isKB_x
            | exact hEx.fr (P := isKB) ((Fr.rf.set rfl).set rfl) isKB_x
    · refine R_iconst 19 rfl dX10_set_18 ?_
      refine R_ireturn dX10_set_19 rfl ?_
      have c1 : ¬ setOk B k s 0 v = true := fun q => by simp only [setOk] at q; have := of_decide_eq_true q; first | exact h15 this.2 | exact h6 this.1
      rw [if_neg (fun q => c1 q.1), if_neg c1]
      exact QI_mk ⟨rfl, fun _ _ _ => rfl, hCS, hEx⟩
theorem c_X10_set1 (k s v : Int) (hCS : CS o d L B ch m) (hEx : Ex T F I S N m) (hk : rg k) (hs : rg s) (hv : rg v) : C Γ mX10_set 3 120 0 0 [vr 0, vi k, vi s, vi 1, vi v] SH m (QS o d L (if setOk B k s 1 v = true ∧ ¬ setNo B k s 1 = true then bkSet B (2 * k + s).toNat 1 v else B) ch T F I S N m (if setOk B k s 1 v = true then (if setNo B k s 1 = true then -2 else B.2.2 1 (2 * k + s).toNat) else -1)) := by
  refine C_of_R rfl (Nat.le_of_ble_eq_true rfl) ?_
  have hPO := hCS.1
  have hP := hPO.2
  have hB := hCS.2.1
  have hO := hCS.2.2.1
  have h0 := hB.1
  have h1 := hO.1
  have h9 := hEx
  refine R_aload_n 1 rfl dX10_set_0 rfl ?_
  refine R_iload_n 2 rfl dX10_set_1 rfl ?_
  refine R_iload_n 3 rfl dX10_set_2 rfl ?_
  refine R_callV_i (M' := mX10_isMark) 6 rfl dX10_set_3 ml_X10_189 kmX10_isMark im_X10_isMark se_X10_isMark rfl ⟨by decide, rfl⟩ (c_X10_isMark _ _ hCS (by first | assumption | exact ⟨by omega, by omega⟩) (by first | assumption | exact ⟨by omega, by omega⟩)) rfl rfl ⟨Nat.le_of_ble_eq_true rfl, Nat.le_of_ble_eq_true rfl⟩ (Nat.le_of_ble_eq_true rfl) ⟨Nat.le_of_ble_eq_true rfl, Nat.le_of_ble_eq_true rfl⟩ ?_
  refine R_ifp_eq 9 18 rfl rfl dX10_set_6 (fun h6 => ?_) (fun h6 => ?_)
  · refine R_iconst 19 rfl dX10_set_18 ?_
    refine R_ireturn dX10_set_19 rfl ?_
    have c1 : ¬ setOk B k s 1 v = true := fun q => by simp only [setOk] at q; have := of_decide_eq_true q; first | exact h15 this.2 | exact h6 this.1
    rw [if_neg (fun q => c1 q.1), if_neg c1]
    exact QI_mk ⟨rfl, fun _ _ _ => rfl, hCS, hEx⟩
  · refine R_iload_n 10 rfl dX10_set_9 rfl ?_
    refine R_iload 12 rfl dX10_set_10 rfl ?_
    refine R_callS_i (M' := mX10_mayBe) 15 rfl dX10_set_12 ml_X10_193 kmX10_mayBe st_X10_mayBe (c_X10_mayBe _ _ (by first | assumption | exact ⟨by omega, by omega⟩) (by first | assumption | exact ⟨by omega, by omega⟩)) rfl rfl ⟨Nat.le_of_ble_eq_true rfl, Nat.le_of_ble_eq_true rfl⟩ (Nat.le_of_ble_eq_true rfl) ⟨Nat.le_of_ble_eq_true rfl, Nat.le_of_ble_eq_true rfl⟩ ?_
    refine R_ifp_ne 18 20 rfl rfl dX10_set_15 (fun h15 => ?_) (fun h15 => ?_)
    · have c1 : setOk B k s 1 v = true := by simp only [setOk]; exact decide_eq_true ⟨h6, h15⟩
      obtain ⟨b0, b1, b2, b3, b4⟩ := hB.2.2 (2 * k + s).toNat (by omega)
      have b9 := hO.2.2 (2 * k + s).toNat (by omega)
      refine R_iconst 21 rfl dX10_set_20 ?_
      refine R_iload_n 22 rfl dX10_set_21 rfl ?_
      refine R_imul 23 rfl dX10_set_22 ?_
      refine R_iload_n 24 rfl dX10_set_23 rfl ?_
      refine R_iadd 25 rfl dX10_set_24 ?_
      refine R_istore [_, _, _, _, _, _, _] 27 rfl dX10_set_25 rfl (by decide) ?_
      refine R_iload_n 28 rfl dX10_set_27 rfl ?_
      refine R_iconst 29 rfl dX10_set_28 ?_
      refine R_icmp_ne 32 50 rfl rfl dX10_set_29 (by first | assumption | exact ⟨by omega, by omega⟩) (by first | assumption | exact ⟨by omega, by omega⟩) (fun h29 => ?_) (fun h29 => ?_)
      rotate_left
      · exact absurd h29 (by omega)
      refine R_aload_n 51 rfl dX10_set_50 rfl ?_
      refine R_getP 5 54 rfl dX10_set_51 rfl rfl fl_X10_40 (hP _ _ _ rfl) ?_
      refine R_getP 2 57 rfl dX10_set_54 rfl rfl fl_X10_196 (hP _ _ _ rfl) ?_
      refine R_iload_n 58 rfl dX10_set_57 rfl ?_
      refine R_aald 1 59 rfl dX10_set_58 rfl rfl (by first | rfl | omega) (by decide) (by decide) (hP _ _ _ rfl) ?_
      refine R_iload 61 rfl dX10_set_59 rfl ?_
      refine R_iald (2 * k + s).toNat 62 rfl dX10_set_61 rfl (by first | rfl | omega) (by omega) (by decide) ?_
      refine R_istore [_, _, _, _, _, _, _] 64 rfl dX10_set_62 rfl (by decide) ?_
      refine R_aload_n 65 rfl dX10_set_64 rfl ?_
      refine R_getP 5 68 rfl dX10_set_65 rfl rfl fl_X10_40 (hP _ _ _ rfl) ?_
      refine R_getP 2 71 rfl dX10_set_68 rfl rfl fl_X10_196 (hP _ _ _ rfl) ?_
      refine R_iload_n 72 rfl dX10_set_71 rfl ?_
      refine R_aald 1 73 rfl dX10_set_72 rfl rfl (by first | rfl | omega) (by decide) (by decide) (hP _ _ _ rfl) ?_
      refine R_iload 75 rfl dX10_set_73 rfl ?_
      refine R_iload 77 rfl dX10_set_75 rfl ?_
      refine R_iast (2 * k + s).toNat 78 rfl dX10_set_77 rfl (by first | rfl | omega) (by omega) (by decide) ?_
      refine R_iload_n 79 rfl dX10_set_78 rfl ?_
      refine R_if_ne 82 100 rfl rfl dX10_set_79 (by first | assumption | exact ⟨by omega, by omega⟩) (fun h79 => ?_) (fun h79 => ?_)
      rotate_left
      · exact absurd h79 (by omega)
      refine R_aload_n 101 rfl dX10_set_100 rfl ?_
      refine R_getP 6 104 rfl dX10_set_101 rfl rfl fl_X10_47 (hP _ _ _ rfl) ?_
      refine R_iconst 105 rfl dX10_set_104 ?_
      refine R_putZ 0 108 rfl dX10_set_105 rfl rfl fl_X10_182 (by decide) ?_
      refine R_iload 110 rfl dX10_set_108 rfl ?_
      refine R_ireturn dX10_set_110 rfl ?_
      have c2 : ¬ setNo B k s 1 = true := fun q => by simp only [setNo] at q; have := of_decide_eq_true q; omega
      rw [if_pos ⟨c1, c2⟩, if_pos c1, if_neg c2]
      refine QI_mk ⟨b1, ?_, ?_, ?_⟩
      · first
          | exact (((Fr.rf.set rfl).set rfl).set rfl : Fr isKB m _).h isKB_h
          | exact ((Fr.rf.set rfl).set rfl : Fr isKB m _).h isKB_h
      · first
          | (refine hCS.mkB (P := isKB) (((Fr.rf.set rfl).set rfl).set rfl) isKB_4 rfl rfl ⟨?_, ?_, ?_⟩ (bkSet_ok hO h15) (by simp [setI])
             · simp [setI, bkSet]; exact h0
             · intro j hj; simp [setI, bkSet]; exact hB.2.1 j hj
             · intro j hj
               have hb := hB.2.2 j hj
               by_cases e : j = (2 * k + s).toNat
               · subst e; simp [setI, bkSet]; omega
               · simp [setI, bkSet, e]; exact hb)
          | (refine hCS.mkB (P := isKB) ((Fr.rf.set rfl).set rfl) isKB_4 rfl rfl ⟨?_, ?_, ?_⟩ (bkSet_ok hO h15) (by simp [setI])
             · simp [setI, bkSet]; exact h0
             · intro j hj; simp [setI, bkSet]; exact hB.2.1 j hj
             · intro j hj
               have hb := hB.2.2 j hj
               by_cases e : j = (2 * k + s).toNat
               · subst e; simp [setI, bkSet]; omega
               · simp [setI, bkSet, e]; exact hb)
      · first
          | exact hEx.fr (P := isKB) (((Fr.rf.set rfl).set rfl).set rfl) isKB_x
          | exact hEx.fr (P := isKB) ((Fr.rf.set rfl).set rfl) isKB_x
    · refine R_iconst 19 rfl dX10_set_18 ?_
      refine R_ireturn dX10_set_19 rfl ?_
      have c1 : ¬ setOk B k s 1 v = true := fun q => by simp only [setOk] at q; have := of_decide_eq_true q; first | exact h15 this.2 | exact h6 this.1
      rw [if_neg (fun q => c1 q.1), if_neg c1]
      exact QI_mk ⟨rfl, fun _ _ _ => rfl, hCS, hEx⟩
theorem c_X10_set2 (k s v : Int) (hCS : CS o d L B ch m) (hEx : Ex T F I S N m) (hk : rg k) (hs : rg s) (hv : rg v) : C Γ mX10_set 3 120 0 0 [vr 0, vi k, vi s, vi 2, vi v] SH m (QS o d L (if setOk B k s 2 v = true ∧ ¬ setNo B k s 2 = true then bkSet B (2 * k + s).toNat 2 v else B) ch T F I S N m (if setOk B k s 2 v = true then (if setNo B k s 2 = true then -2 else B.2.2 2 (2 * k + s).toNat) else -1)) := by
  refine C_of_R rfl (Nat.le_of_ble_eq_true rfl) ?_
  have hPO := hCS.1
  have hP := hPO.2
  have hB := hCS.2.1
  have hO := hCS.2.2.1
  have h0 := hB.1
  have h1 := hO.1
  have h9 := hEx
  refine R_aload_n 1 rfl dX10_set_0 rfl ?_
  refine R_iload_n 2 rfl dX10_set_1 rfl ?_
  refine R_iload_n 3 rfl dX10_set_2 rfl ?_
  refine R_callV_i (M' := mX10_isMark) 6 rfl dX10_set_3 ml_X10_189 kmX10_isMark im_X10_isMark se_X10_isMark rfl ⟨by decide, rfl⟩ (c_X10_isMark _ _ hCS (by first | assumption | exact ⟨by omega, by omega⟩) (by first | assumption | exact ⟨by omega, by omega⟩)) rfl rfl ⟨Nat.le_of_ble_eq_true rfl, Nat.le_of_ble_eq_true rfl⟩ (Nat.le_of_ble_eq_true rfl) ⟨Nat.le_of_ble_eq_true rfl, Nat.le_of_ble_eq_true rfl⟩ ?_
  refine R_ifp_eq 9 18 rfl rfl dX10_set_6 (fun h6 => ?_) (fun h6 => ?_)
  · refine R_iconst 19 rfl dX10_set_18 ?_
    refine R_ireturn dX10_set_19 rfl ?_
    have c1 : ¬ setOk B k s 2 v = true := fun q => by simp only [setOk] at q; have := of_decide_eq_true q; first | exact h15 this.2 | exact h6 this.1
    rw [if_neg (fun q => c1 q.1), if_neg c1]
    exact QI_mk ⟨rfl, fun _ _ _ => rfl, hCS, hEx⟩
  · refine R_iload_n 10 rfl dX10_set_9 rfl ?_
    refine R_iload 12 rfl dX10_set_10 rfl ?_
    refine R_callS_i (M' := mX10_mayBe) 15 rfl dX10_set_12 ml_X10_193 kmX10_mayBe st_X10_mayBe (c_X10_mayBe _ _ (by first | assumption | exact ⟨by omega, by omega⟩) (by first | assumption | exact ⟨by omega, by omega⟩)) rfl rfl ⟨Nat.le_of_ble_eq_true rfl, Nat.le_of_ble_eq_true rfl⟩ (Nat.le_of_ble_eq_true rfl) ⟨Nat.le_of_ble_eq_true rfl, Nat.le_of_ble_eq_true rfl⟩ ?_
    refine R_ifp_ne 18 20 rfl rfl dX10_set_15 (fun h15 => ?_) (fun h15 => ?_)
    · have c1 : setOk B k s 2 v = true := by simp only [setOk]; exact decide_eq_true ⟨h6, h15⟩
      obtain ⟨b0, b1, b2, b3, b4⟩ := hB.2.2 (2 * k + s).toNat (by omega)
      have b9 := hO.2.2 (2 * k + s).toNat (by omega)
      refine R_iconst 21 rfl dX10_set_20 ?_
      refine R_iload_n 22 rfl dX10_set_21 rfl ?_
      refine R_imul 23 rfl dX10_set_22 ?_
      refine R_iload_n 24 rfl dX10_set_23 rfl ?_
      refine R_iadd 25 rfl dX10_set_24 ?_
      refine R_istore [_, _, _, _, _, _, _] 27 rfl dX10_set_25 rfl (by decide) ?_
      refine R_iload_n 28 rfl dX10_set_27 rfl ?_
      refine R_iconst 29 rfl dX10_set_28 ?_
      refine R_icmp_ne 32 50 rfl rfl dX10_set_29 (by first | assumption | exact ⟨by omega, by omega⟩) (by first | assumption | exact ⟨by omega, by omega⟩) (fun h29 => ?_) (fun h29 => ?_)
      · exact absurd h29 (by omega)
      refine R_aload_n 33 rfl dX10_set_32 rfl ?_
      refine R_getP 5 36 rfl dX10_set_33 rfl rfl fl_X10_40 (hP _ _ _ rfl) ?_
      refine R_getP 2 39 rfl dX10_set_36 rfl rfl fl_X10_196 (hP _ _ _ rfl) ?_
      refine R_iconst 40 rfl dX10_set_39 ?_
      refine R_aald 0 41 rfl dX10_set_40 rfl rfl (by first | rfl | omega) (by decide) (by decide) (hP _ _ _ rfl) ?_
      refine R_iload 43 rfl dX10_set_41 rfl ?_
      refine R_iald (2 * k + s).toNat 44 rfl dX10_set_43 rfl (by first | rfl | omega) (by omega) (by decide) ?_
      refine R_if_ne 47 50 rfl rfl dX10_set_44 (by first | assumption | exact ⟨by omega, by omega⟩) (fun h44 => ?_) (fun h44 => ?_)
      · refine R_aload_n 51 rfl dX10_set_50 rfl ?_
        refine R_getP 5 54 rfl dX10_set_51 rfl rfl fl_X10_40 (hP _ _ _ rfl) ?_
        refine R_getP 2 57 rfl dX10_set_54 rfl rfl fl_X10_196 (hP _ _ _ rfl) ?_
        refine R_iload_n 58 rfl dX10_set_57 rfl ?_
        refine R_aald 2 59 rfl dX10_set_58 rfl rfl (by first | rfl | omega) (by decide) (by decide) (hP _ _ _ rfl) ?_
        refine R_iload 61 rfl dX10_set_59 rfl ?_
        refine R_iald (2 * k + s).toNat 62 rfl dX10_set_61 rfl (by first | rfl | omega) (by omega) (by decide) ?_
        refine R_istore [_, _, _, _, _, _, _] 64 rfl dX10_set_62 rfl (by decide) ?_
        refine R_aload_n 65 rfl dX10_set_64 rfl ?_
        refine R_getP 5 68 rfl dX10_set_65 rfl rfl fl_X10_40 (hP _ _ _ rfl) ?_
        refine R_getP 2 71 rfl dX10_set_68 rfl rfl fl_X10_196 (hP _ _ _ rfl) ?_
        refine R_iload_n 72 rfl dX10_set_71 rfl ?_
        refine R_aald 2 73 rfl dX10_set_72 rfl rfl (by first | rfl | omega) (by decide) (by decide) (hP _ _ _ rfl) ?_
        refine R_iload 75 rfl dX10_set_73 rfl ?_
        refine R_iload 77 rfl dX10_set_75 rfl ?_
        refine R_iast (2 * k + s).toNat 78 rfl dX10_set_77 rfl (by first | rfl | omega) (by omega) (by decide) ?_
        refine R_iload_n 79 rfl dX10_set_78 rfl ?_
        refine R_if_ne 82 100 rfl rfl dX10_set_79 (by first | assumption | exact ⟨by omega, by omega⟩) (fun h79 => ?_) (fun h79 => ?_)
        rotate_left
        · exact absurd h79 (by omega)
        refine R_aload_n 101 rfl dX10_set_100 rfl ?_
        refine R_getP 6 104 rfl dX10_set_101 rfl rfl fl_X10_47 (hP _ _ _ rfl) ?_
        refine R_iconst 105 rfl dX10_set_104 ?_
        refine R_putZ 0 108 rfl dX10_set_105 rfl rfl fl_X10_182 (by decide) ?_
        refine R_iload 110 rfl dX10_set_108 rfl ?_
        refine R_ireturn dX10_set_110 rfl ?_
        have c2 : ¬ setNo B k s 2 = true := fun q => by simp only [setNo] at q; have := of_decide_eq_true q; omega
        rw [if_pos ⟨c1, c2⟩, if_pos c1, if_neg c2]
        refine QI_mk ⟨b2, ?_, ?_, ?_⟩
        · first
            | exact (((Fr.rf.set rfl).set rfl).set rfl : Fr isKB m _).h isKB_h
            | exact ((Fr.rf.set rfl).set rfl : Fr isKB m _).h isKB_h
        · first
            | (refine hCS.mkB (P := isKB) (((Fr.rf.set rfl).set rfl).set rfl) isKB_4 rfl rfl ⟨?_, ?_, ?_⟩ (bkSet_ok hO h15) (by simp [setI])
               · simp [setI, bkSet]; exact h0
               · intro j hj; simp [setI, bkSet]; exact hB.2.1 j hj
               · intro j hj
                 have hb := hB.2.2 j hj
                 by_cases e : j = (2 * k + s).toNat
                 · subst e; simp [setI, bkSet]; omega
                 · simp [setI, bkSet, e]; exact hb)
            | (refine hCS.mkB (P := isKB) ((Fr.rf.set rfl).set rfl) isKB_4 rfl rfl ⟨?_, ?_, ?_⟩ (bkSet_ok hO h15) (by simp [setI])
               · simp [setI, bkSet]; exact h0
               · intro j hj; simp [setI, bkSet]; exact hB.2.1 j hj
               · intro j hj
                 have hb := hB.2.2 j hj
                 by_cases e : j = (2 * k + s).toNat
                 · subst e; simp [setI, bkSet]; omega
                 · simp [setI, bkSet, e]; exact hb)
        · first
            | exact hEx.fr (P := isKB) (((Fr.rf.set rfl).set rfl).set rfl) isKB_x
            | exact hEx.fr (P := isKB) ((Fr.rf.set rfl).set rfl) isKB_x
      · refine R_bipush 49 rfl dX10_set_47 (by decide) ?_
        refine R_ireturn dX10_set_49 rfl ?_
        have c2 : setNo B k s 2 = true := by unfold setNo; exact decide_eq_true ⟨rfl, by omega⟩
        rw [if_neg (fun q => q.2 c2), if_pos c1, if_pos c2]
        exact QI_mk ⟨rfl, fun _ _ _ => rfl, hCS, hEx⟩
    · refine R_iconst 19 rfl dX10_set_18 ?_
      refine R_ireturn dX10_set_19 rfl ?_
      have c1 : ¬ setOk B k s 2 v = true := fun q => by simp only [setOk] at q; have := of_decide_eq_true q; first | exact h15 this.2 | exact h6 this.1
      rw [if_neg (fun q => c1 q.1), if_neg c1]
      exact QI_mk ⟨rfl, fun _ _ _ => rfl, hCS, hEx⟩
theorem c_X10_set3 (k s v : Int) (hCS : CS o d L B ch m) (hEx : Ex T F I S N m) (hk : rg k) (hs : rg s) (hv : rg v) : C Γ mX10_set 3 120 0 0 [vr 0, vi k, vi s, vi 3, vi v] SH m (QS o d L (if setOk B k s 3 v = true ∧ ¬ setNo B k s 3 = true then bkSet B (2 * k + s).toNat 3 v else B) ch T F I S N m (if setOk B k s 3 v = true then (if setNo B k s 3 = true then -2 else B.2.2 3 (2 * k + s).toNat) else -1)) := by
  refine C_of_R rfl (Nat.le_of_ble_eq_true rfl) ?_
  have hPO := hCS.1
  have hP := hPO.2
  have hB := hCS.2.1
  have hO := hCS.2.2.1
  have h0 := hB.1
  have h1 := hO.1
  have h9 := hEx
  refine R_aload_n 1 rfl dX10_set_0 rfl ?_
  refine R_iload_n 2 rfl dX10_set_1 rfl ?_
  refine R_iload_n 3 rfl dX10_set_2 rfl ?_
  refine R_callV_i (M' := mX10_isMark) 6 rfl dX10_set_3 ml_X10_189 kmX10_isMark im_X10_isMark se_X10_isMark rfl ⟨by decide, rfl⟩ (c_X10_isMark _ _ hCS (by first | assumption | exact ⟨by omega, by omega⟩) (by first | assumption | exact ⟨by omega, by omega⟩)) rfl rfl ⟨Nat.le_of_ble_eq_true rfl, Nat.le_of_ble_eq_true rfl⟩ (Nat.le_of_ble_eq_true rfl) ⟨Nat.le_of_ble_eq_true rfl, Nat.le_of_ble_eq_true rfl⟩ ?_
  refine R_ifp_eq 9 18 rfl rfl dX10_set_6 (fun h6 => ?_) (fun h6 => ?_)
  · refine R_iconst 19 rfl dX10_set_18 ?_
    refine R_ireturn dX10_set_19 rfl ?_
    have c1 : ¬ setOk B k s 3 v = true := fun q => by simp only [setOk] at q; have := of_decide_eq_true q; first | exact h15 this.2 | exact h6 this.1
    rw [if_neg (fun q => c1 q.1), if_neg c1]
    exact QI_mk ⟨rfl, fun _ _ _ => rfl, hCS, hEx⟩
  · refine R_iload_n 10 rfl dX10_set_9 rfl ?_
    refine R_iload 12 rfl dX10_set_10 rfl ?_
    refine R_callS_i (M' := mX10_mayBe) 15 rfl dX10_set_12 ml_X10_193 kmX10_mayBe st_X10_mayBe (c_X10_mayBe _ _ (by first | assumption | exact ⟨by omega, by omega⟩) (by first | assumption | exact ⟨by omega, by omega⟩)) rfl rfl ⟨Nat.le_of_ble_eq_true rfl, Nat.le_of_ble_eq_true rfl⟩ (Nat.le_of_ble_eq_true rfl) ⟨Nat.le_of_ble_eq_true rfl, Nat.le_of_ble_eq_true rfl⟩ ?_
    refine R_ifp_ne 18 20 rfl rfl dX10_set_15 (fun h15 => ?_) (fun h15 => ?_)
    · have c1 : setOk B k s 3 v = true := by simp only [setOk]; exact decide_eq_true ⟨h6, h15⟩
      obtain ⟨b0, b1, b2, b3, b4⟩ := hB.2.2 (2 * k + s).toNat (by omega)
      have b9 := hO.2.2 (2 * k + s).toNat (by omega)
      refine R_iconst 21 rfl dX10_set_20 ?_
      refine R_iload_n 22 rfl dX10_set_21 rfl ?_
      refine R_imul 23 rfl dX10_set_22 ?_
      refine R_iload_n 24 rfl dX10_set_23 rfl ?_
      refine R_iadd 25 rfl dX10_set_24 ?_
      refine R_istore [_, _, _, _, _, _, _] 27 rfl dX10_set_25 rfl (by decide) ?_
      refine R_iload_n 28 rfl dX10_set_27 rfl ?_
      refine R_iconst 29 rfl dX10_set_28 ?_
      refine R_icmp_ne 32 50 rfl rfl dX10_set_29 (by first | assumption | exact ⟨by omega, by omega⟩) (by first | assumption | exact ⟨by omega, by omega⟩) (fun h29 => ?_) (fun h29 => ?_)
      rotate_left
      · exact absurd h29 (by omega)
      refine R_aload_n 51 rfl dX10_set_50 rfl ?_
      refine R_getP 5 54 rfl dX10_set_51 rfl rfl fl_X10_40 (hP _ _ _ rfl) ?_
      refine R_getP 2 57 rfl dX10_set_54 rfl rfl fl_X10_196 (hP _ _ _ rfl) ?_
      refine R_iload_n 58 rfl dX10_set_57 rfl ?_
      refine R_aald 3 59 rfl dX10_set_58 rfl rfl (by first | rfl | omega) (by decide) (by decide) (hP _ _ _ rfl) ?_
      refine R_iload 61 rfl dX10_set_59 rfl ?_
      refine R_iald (2 * k + s).toNat 62 rfl dX10_set_61 rfl (by first | rfl | omega) (by omega) (by decide) ?_
      refine R_istore [_, _, _, _, _, _, _] 64 rfl dX10_set_62 rfl (by decide) ?_
      refine R_aload_n 65 rfl dX10_set_64 rfl ?_
      refine R_getP 5 68 rfl dX10_set_65 rfl rfl fl_X10_40 (hP _ _ _ rfl) ?_
      refine R_getP 2 71 rfl dX10_set_68 rfl rfl fl_X10_196 (hP _ _ _ rfl) ?_
      refine R_iload_n 72 rfl dX10_set_71 rfl ?_
      refine R_aald 3 73 rfl dX10_set_72 rfl rfl (by first | rfl | omega) (by decide) (by decide) (hP _ _ _ rfl) ?_
      refine R_iload 75 rfl dX10_set_73 rfl ?_
      refine R_iload 77 rfl dX10_set_75 rfl ?_
      refine R_iast (2 * k + s).toNat 78 rfl dX10_set_77 rfl (by first | rfl | omega) (by omega) (by decide) ?_
      refine R_iload_n 79 rfl dX10_set_78 rfl ?_
      refine R_if_ne 82 100 rfl rfl dX10_set_79 (by first | assumption | exact ⟨by omega, by omega⟩) (fun h79 => ?_) (fun h79 => ?_)
      rotate_left
      · exact absurd h79 (by omega)
      refine R_aload_n 101 rfl dX10_set_100 rfl ?_
      refine R_getP 6 104 rfl dX10_set_101 rfl rfl fl_X10_47 (hP _ _ _ rfl) ?_
      refine R_iconst 105 rfl dX10_set_104 ?_
      refine R_putZ 0 108 rfl dX10_set_105 rfl rfl fl_X10_182 (by decide) ?_
      refine R_iload 110 rfl dX10_set_108 rfl ?_
      refine R_ireturn dX10_set_110 rfl ?_
      have c2 : ¬ setNo B k s 3 = true := fun q => by simp only [setNo] at q; have := of_decide_eq_true q; omega
      rw [if_pos ⟨c1, c2⟩, if_pos c1, if_neg c2]
      refine QI_mk ⟨b3, ?_, ?_, ?_⟩
      · first
          | exact (((Fr.rf.set rfl).set rfl).set rfl : Fr isKB m _).h isKB_h
          | exact ((Fr.rf.set rfl).set rfl : Fr isKB m _).h isKB_h
      · first
          | (refine hCS.mkB (P := isKB) (((Fr.rf.set rfl).set rfl).set rfl) isKB_4 rfl rfl ⟨?_, ?_, ?_⟩ (bkSet_ok hO h15) (by simp [setI])
             · simp [setI, bkSet]; exact h0
             · intro j hj; simp [setI, bkSet]; exact hB.2.1 j hj
             · intro j hj
               have hb := hB.2.2 j hj
               by_cases e : j = (2 * k + s).toNat
               · subst e; simp [setI, bkSet]; omega
               · simp [setI, bkSet, e]; exact hb)
          | (refine hCS.mkB (P := isKB) ((Fr.rf.set rfl).set rfl) isKB_4 rfl rfl ⟨?_, ?_, ?_⟩ (bkSet_ok hO h15) (by simp [setI])
             · simp [setI, bkSet]; exact h0
             · intro j hj; simp [setI, bkSet]; exact hB.2.1 j hj
             · intro j hj
               have hb := hB.2.2 j hj
               by_cases e : j = (2 * k + s).toNat
               · subst e; simp [setI, bkSet]; omega
               · simp [setI, bkSet, e]; exact hb)
      · first
          | exact hEx.fr (P := isKB) (((Fr.rf.set rfl).set rfl).set rfl) isKB_x
          | exact hEx.fr (P := isKB) ((Fr.rf.set rfl).set rfl) isKB_x
    · refine R_iconst 19 rfl dX10_set_18 ?_
      refine R_ireturn dX10_set_19 rfl ?_
      have c1 : ¬ setOk B k s 3 v = true := fun q => by simp only [setOk] at q; have := of_decide_eq_true q; first | exact h15 this.2 | exact h6 this.1
      rw [if_neg (fun q => c1 q.1), if_neg c1]
      exact QI_mk ⟨rfl, fun _ _ _ => rfl, hCS, hEx⟩
theorem c_X10_set4 (k s v : Int) (hCS : CS o d L B ch m) (hEx : Ex T F I S N m) (hk : rg k) (hs : rg s) (hv : rg v) : C Γ mX10_set 3 120 0 0 [vr 0, vi k, vi s, vi 4, vi v] SH m (QS o d L (if setOk B k s 4 v = true ∧ ¬ setNo B k s 4 = true then bkSet B (2 * k + s).toNat 4 v else B) ch T F I S N m (if setOk B k s 4 v = true then (if setNo B k s 4 = true then -2 else B.2.2 4 (2 * k + s).toNat) else -1)) := by
  refine C_of_R rfl (Nat.le_of_ble_eq_true rfl) ?_
  have hPO := hCS.1
  have hP := hPO.2
  have hB := hCS.2.1
  have hO := hCS.2.2.1
  have h0 := hB.1
  have h1 := hO.1
  have h9 := hEx
  refine R_aload_n 1 rfl dX10_set_0 rfl ?_
  refine R_iload_n 2 rfl dX10_set_1 rfl ?_
  refine R_iload_n 3 rfl dX10_set_2 rfl ?_
  refine R_callV_i (M' := mX10_isMark) 6 rfl dX10_set_3 ml_X10_189 kmX10_isMark im_X10_isMark se_X10_isMark rfl ⟨by decide, rfl⟩ (c_X10_isMark _ _ hCS (by first | assumption | exact ⟨by omega, by omega⟩) (by first | assumption | exact ⟨by omega, by omega⟩)) rfl rfl ⟨Nat.le_of_ble_eq_true rfl, Nat.le_of_ble_eq_true rfl⟩ (Nat.le_of_ble_eq_true rfl) ⟨Nat.le_of_ble_eq_true rfl, Nat.le_of_ble_eq_true rfl⟩ ?_
  refine R_ifp_eq 9 18 rfl rfl dX10_set_6 (fun h6 => ?_) (fun h6 => ?_)
  · refine R_iconst 19 rfl dX10_set_18 ?_
    refine R_ireturn dX10_set_19 rfl ?_
    have c1 : ¬ setOk B k s 4 v = true := fun q => by simp only [setOk] at q; have := of_decide_eq_true q; first | exact h15 this.2 | exact h6 this.1
    rw [if_neg (fun q => c1 q.1), if_neg c1]
    exact QI_mk ⟨rfl, fun _ _ _ => rfl, hCS, hEx⟩
  · refine R_iload_n 10 rfl dX10_set_9 rfl ?_
    refine R_iload 12 rfl dX10_set_10 rfl ?_
    refine R_callS_i (M' := mX10_mayBe) 15 rfl dX10_set_12 ml_X10_193 kmX10_mayBe st_X10_mayBe (c_X10_mayBe _ _ (by first | assumption | exact ⟨by omega, by omega⟩) (by first | assumption | exact ⟨by omega, by omega⟩)) rfl rfl ⟨Nat.le_of_ble_eq_true rfl, Nat.le_of_ble_eq_true rfl⟩ (Nat.le_of_ble_eq_true rfl) ⟨Nat.le_of_ble_eq_true rfl, Nat.le_of_ble_eq_true rfl⟩ ?_
    refine R_ifp_ne 18 20 rfl rfl dX10_set_15 (fun h15 => ?_) (fun h15 => ?_)
    · have c1 : setOk B k s 4 v = true := by simp only [setOk]; exact decide_eq_true ⟨h6, h15⟩
      obtain ⟨b0, b1, b2, b3, b4⟩ := hB.2.2 (2 * k + s).toNat (by omega)
      have b9 := hO.2.2 (2 * k + s).toNat (by omega)
      refine R_iconst 21 rfl dX10_set_20 ?_
      refine R_iload_n 22 rfl dX10_set_21 rfl ?_
      refine R_imul 23 rfl dX10_set_22 ?_
      refine R_iload_n 24 rfl dX10_set_23 rfl ?_
      refine R_iadd 25 rfl dX10_set_24 ?_
      refine R_istore [_, _, _, _, _, _, _] 27 rfl dX10_set_25 rfl (by decide) ?_
      refine R_iload_n 28 rfl dX10_set_27 rfl ?_
      refine R_iconst 29 rfl dX10_set_28 ?_
      refine R_icmp_ne 32 50 rfl rfl dX10_set_29 (by first | assumption | exact ⟨by omega, by omega⟩) (by first | assumption | exact ⟨by omega, by omega⟩) (fun h29 => ?_) (fun h29 => ?_)
      rotate_left
      · exact absurd h29 (by omega)
      refine R_aload_n 51 rfl dX10_set_50 rfl ?_
      refine R_getP 5 54 rfl dX10_set_51 rfl rfl fl_X10_40 (hP _ _ _ rfl) ?_
      refine R_getP 2 57 rfl dX10_set_54 rfl rfl fl_X10_196 (hP _ _ _ rfl) ?_
      refine R_iload_n 58 rfl dX10_set_57 rfl ?_
      refine R_aald 4 59 rfl dX10_set_58 rfl rfl (by first | rfl | omega) (by decide) (by decide) (hP _ _ _ rfl) ?_
      refine R_iload 61 rfl dX10_set_59 rfl ?_
      refine R_iald (2 * k + s).toNat 62 rfl dX10_set_61 rfl (by first | rfl | omega) (by omega) (by decide) ?_
      refine R_istore [_, _, _, _, _, _, _] 64 rfl dX10_set_62 rfl (by decide) ?_
      refine R_aload_n 65 rfl dX10_set_64 rfl ?_
      refine R_getP 5 68 rfl dX10_set_65 rfl rfl fl_X10_40 (hP _ _ _ rfl) ?_
      refine R_getP 2 71 rfl dX10_set_68 rfl rfl fl_X10_196 (hP _ _ _ rfl) ?_
      refine R_iload_n 72 rfl dX10_set_71 rfl ?_
      refine R_aald 4 73 rfl dX10_set_72 rfl rfl (by first | rfl | omega) (by decide) (by decide) (hP _ _ _ rfl) ?_
      refine R_iload 75 rfl dX10_set_73 rfl ?_
      refine R_iload 77 rfl dX10_set_75 rfl ?_
      refine R_iast (2 * k + s).toNat 78 rfl dX10_set_77 rfl (by first | rfl | omega) (by omega) (by decide) ?_
      refine R_iload_n 79 rfl dX10_set_78 rfl ?_
      refine R_if_ne 82 100 rfl rfl dX10_set_79 (by first | assumption | exact ⟨by omega, by omega⟩) (fun h79 => ?_) (fun h79 => ?_)
      rotate_left
      · exact absurd h79 (by omega)
      refine R_aload_n 101 rfl dX10_set_100 rfl ?_
      refine R_getP 6 104 rfl dX10_set_101 rfl rfl fl_X10_47 (hP _ _ _ rfl) ?_
      refine R_iconst 105 rfl dX10_set_104 ?_
      refine R_putZ 0 108 rfl dX10_set_105 rfl rfl fl_X10_182 (by decide) ?_
      refine R_iload 110 rfl dX10_set_108 rfl ?_
      refine R_ireturn dX10_set_110 rfl ?_
      have c2 : ¬ setNo B k s 4 = true := fun q => by simp only [setNo] at q; have := of_decide_eq_true q; omega
      rw [if_pos ⟨c1, c2⟩, if_pos c1, if_neg c2]
      refine QI_mk ⟨b4, ?_, ?_, ?_⟩
      · first
          | exact (((Fr.rf.set rfl).set rfl).set rfl : Fr isKB m _).h isKB_h
          | exact ((Fr.rf.set rfl).set rfl : Fr isKB m _).h isKB_h
      · first
          | (refine hCS.mkB (P := isKB) (((Fr.rf.set rfl).set rfl).set rfl) isKB_4 rfl rfl ⟨?_, ?_, ?_⟩ (bkSet_ok hO h15) (by simp [setI])
             · simp [setI, bkSet]; exact h0
             · intro j hj; simp [setI, bkSet]; exact hB.2.1 j hj
             · intro j hj
               have hb := hB.2.2 j hj
               by_cases e : j = (2 * k + s).toNat
               · subst e; simp [setI, bkSet]; omega
               · simp [setI, bkSet, e]; exact hb)
          | (refine hCS.mkB (P := isKB) ((Fr.rf.set rfl).set rfl) isKB_4 rfl rfl ⟨?_, ?_, ?_⟩ (bkSet_ok hO h15) (by simp [setI])
             · simp [setI, bkSet]; exact h0
             · intro j hj; simp [setI, bkSet]; exact hB.2.1 j hj
             · intro j hj
               have hb := hB.2.2 j hj
               by_cases e : j = (2 * k + s).toNat
               · subst e; simp [setI, bkSet]; omega
               · simp [setI, bkSet, e]; exact hb)
      · first
          | exact hEx.fr (P := isKB) (((Fr.rf.set rfl).set rfl).set rfl) isKB_x
          | exact hEx.fr (P := isKB) ((Fr.rf.set rfl).set rfl) isKB_x
    · refine R_iconst 19 rfl dX10_set_18 ?_
      refine R_ireturn dX10_set_19 rfl ?_
      have c1 : ¬ setOk B k s 4 v = true := fun q => by simp only [setOk] at q; have := of_decide_eq_true q; first | exact h15 this.2 | exact h6 this.1
      rw [if_neg (fun q => c1 q.1), if_neg c1]
      exact QI_mk ⟨rfl, fun _ _ _ => rfl, hCS, hEx⟩
theorem c_X10_set (k s w v : Int) (hCS : CS o d L B ch m) (hEx : Ex T F I S N m) (hk : rg k) (hs : rg s) (hw : rg w) (hv : rg v) : C Γ mX10_set 3 120 0 0 [vr 0, vi k, vi s, vi w, vi v] SH m (QS o d L (if setOk B k s w v = true ∧ ¬ setNo B k s w = true then bkSet B (2 * k + s).toNat w.toNat v else B) ch T F I S N m (if setOk B k s w v = true then (if setNo B k s w = true then -2 else B.2.2 w.toNat (2 * k + s).toNat) else -1)) := by
  rcases (show w = 0 ∨ w = 1 ∨ w = 2 ∨ w = 3 ∨ w = 4 ∨ ¬ (0 ≤ w ∧ w ≤ 4) by omega) with rfl | rfl | rfl | rfl | rfl | hw3
  · exact c_X10_set0 k s v hCS hEx hk hs hv
  · exact c_X10_set1 k s v hCS hEx hk hs hv
  · exact c_X10_set2 k s v hCS hEx hk hs hv
  · exact c_X10_set3 k s v hCS hEx hk hs hv
  · exact c_X10_set4 k s v hCS hEx hk hs hv
  · have nb : ¬ mayB w v = true := by unfold mayB; rw [if_neg (by omega), if_neg (by omega), if_neg (by omega), if_neg (by omega)]; simp
    have c1 : ¬ setOk B k s w v = true := fun q => by simp only [setOk] at q; exact nb (of_decide_eq_true q).2
    rw [if_neg (fun q => c1 q.1), if_neg c1]
    refine C_of_R rfl (Nat.le_of_ble_eq_true rfl) ?_
    refine R_aload_n 1 rfl dX10_set_0 rfl ?_
    refine R_iload_n 2 rfl dX10_set_1 rfl ?_
    refine R_iload_n 3 rfl dX10_set_2 rfl ?_
    refine R_callV_i (M' := mX10_isMark) 6 rfl dX10_set_3 ml_X10_189 kmX10_isMark im_X10_isMark se_X10_isMark rfl ⟨by decide, rfl⟩ (c_X10_isMark _ _ hCS (by first | assumption | exact ⟨by omega, by omega⟩) (by first | assumption | exact ⟨by omega, by omega⟩)) rfl rfl ⟨Nat.le_of_ble_eq_true rfl, Nat.le_of_ble_eq_true rfl⟩ (Nat.le_of_ble_eq_true rfl) ⟨Nat.le_of_ble_eq_true rfl, Nat.le_of_ble_eq_true rfl⟩ ?_
    refine R_ifp_eq 9 18 rfl rfl dX10_set_6 (fun h6 => ?_) (fun h6 => ?_)
    · refine R_iconst 19 rfl dX10_set_18 ?_
      refine R_ireturn dX10_set_19 rfl ?_
      exact QI_mk ⟨rfl, fun _ _ _ => rfl, hCS, hEx⟩
    · refine R_iload_n 10 rfl dX10_set_9 rfl ?_
      refine R_iload 12 rfl dX10_set_10 rfl ?_
      refine R_callS_i (M' := mX10_mayBe) 15 rfl dX10_set_12 ml_X10_193 kmX10_mayBe st_X10_mayBe (c_X10_mayBe _ _ (by first | assumption | exact ⟨by omega, by omega⟩) (by first | assumption | exact ⟨by omega, by omega⟩)) rfl rfl ⟨Nat.le_of_ble_eq_true rfl, Nat.le_of_ble_eq_true rfl⟩ (Nat.le_of_ble_eq_true rfl) ⟨Nat.le_of_ble_eq_true rfl, Nat.le_of_ble_eq_true rfl⟩ ?_
      refine R_ifp_ne 18 20 rfl rfl dX10_set_15 (fun h15 => ?_) (fun h15 => ?_)
      · exact absurd h15 nb
      · refine R_iconst 19 rfl dX10_set_18 ?_
        refine R_ireturn dX10_set_19 rfl ?_
        exact QI_mk ⟨rfl, fun _ _ _ => rfl, hCS, hEx⟩
theorem bkDrop_k {np : Int} {i : Nat} (hO : BkOk np B) (hi : i < B.1) : BkOk np (bkDrop B i) := by
  refine ⟨by have := hO.1; show B.1 - 1 ≤ 40; omega, fun k hk => ?_, fun k hk => ?_⟩
  · have hk' : k < B.1 - 1 := hk
    simp only [bkDrop]
    by_cases e : k < i
    · simp only [if_pos e]; exact hO.2.1 k (by omega)
    · simp only [if_neg e]; exact hO.2.1 (k + 1) (by omega)
  · have hk' : k < 2 * (B.1 - 1) := hk
    simp only [bkDrop]
    by_cases e : k < 2 * i
    · simp only [if_pos e]; exact hO.2.2 k (by omega)
    · simp only [if_neg e]; exact hO.2.2 (k + 2) (by omega)
theorem c_X10_tear (k : Int) (hCS : CS o d L B ch m) (hEx : Ex T F I S N m) (hk : rg k) : C Γ mX10_tear 3 120 0 0 [vr 0, vi k] SH m (QS o d L (if 0 ≤ k ∧ k < B.1 then bkDrop B k.toNat else B) ch T F I S N m (if 0 ≤ k ∧ k < B.1 then (B.1 : Int) - 1 else -1)) := by
  refine C_of_R rfl (Nat.le_of_ble_eq_true rfl) ?_
  have hPO := hCS.1
  have hP := hPO.2
  have hB := hCS.2.1
  have hO := hCS.2.2.1
  have h0 := hB.1
  have h1 := hO.1
  have f1 := bkDrop_fr m B.1 k.toNat
  have hP2 := (hPO.eq f1.2).2
  have f2 : Fr isKB m (setI (bkDropM m B.1 k.toNat) 41 0 1) := (f1.wk isBk_KB).set rfl
  refine R_aload_n 1 rfl dX10_tear_0 rfl ?_
  refine R_iload_n 2 rfl dX10_tear_1 rfl ?_
  refine R_callV_i (M' := mX10_isInBooks) 5 rfl dX10_tear_2 ml_X10_199 kmX10_isInBooks im_X10_isInBooks se_X10_isInBooks rfl ⟨by decide, rfl⟩ (c_X10_isInBooks _ hCS (by first | assumption | exact ⟨by omega, by omega⟩)) rfl rfl ⟨Nat.le_of_ble_eq_true rfl, Nat.le_of_ble_eq_true rfl⟩ (Nat.le_of_ble_eq_true rfl) ⟨Nat.le_of_ble_eq_true rfl, Nat.le_of_ble_eq_true rfl⟩ ?_
  refine R_ifp_ne 8 10 rfl rfl dX10_tear_5 (fun h5 => ?_) (fun h5 => ?_)
  · refine R_aload_n 11 rfl dX10_tear_10 rfl ?_
    refine R_getP 5 14 rfl dX10_tear_11 rfl rfl fl_X10_40 (hP _ _ _ rfl) ?_
    refine R_iload_n 15 rfl dX10_tear_14 rfl ?_
    refine R_callV_v (M' := mX0_drop) 18 rfl dX10_tear_15 ml_X10_214 kmX0_drop im_X0_drop se_X0_drop rfl ⟨by decide, rfl⟩ (c_X0_drop _ k.toNat hPO hB (by omega) (by omega) h1) rfl rfl ⟨Nat.le_of_ble_eq_true rfl, Nat.le_of_ble_eq_true rfl⟩ (Nat.le_of_ble_eq_true rfl) ⟨Nat.le_of_ble_eq_true rfl, Nat.le_of_ble_eq_true rfl⟩ ?_
    refine R_aload_n 19 rfl dX10_tear_18 rfl ?_
    refine R_getP 6 22 rfl dX10_tear_19 rfl rfl fl_X10_47 (hP2 _ _ _ rfl) ?_
    refine R_iconst 23 rfl dX10_tear_22 ?_
    refine R_putZ 0 26 rfl dX10_tear_23 rfl rfl fl_X10_182 (by decide) ?_
    refine R_aload_n 27 rfl dX10_tear_26 rfl ?_
    refine R_getP 5 30 rfl dX10_tear_27 rfl rfl fl_X10_40 (hP2 _ _ _ rfl) ?_
    refine R_getI 0 33 rfl dX10_tear_30 rfl rfl fl_X10_179 ?_
    refine R_ireturn dX10_tear_33 rfl ?_
    rw [if_pos (by omega), if_pos (by omega)]
    have hB2 := bkDrop_ok hB k.toNat (by omega)
    have hB3 : Bk0 (setI (bkDropM m B.1 k.toNat) 41 0 1) (bkDrop B k.toNat) := hB2.fr (F := fun a => decide (a = 41)) (Fr.rf.set rfl) (fun a q1 q2 => by simp; omega)
    refine QI_mk ⟨?_, f2.h isKB_h, hCS.mkB f2 isKB_4 rfl rfl hB3 (bkDrop_k hO (by omega)) (by simp [setI]), hEx.fr f2 isKB_x⟩
    rw [hB3.1]
    show ((B.1 - 1 : Nat) : Int) = _
    omega
  · refine R_iconst 9 rfl dX10_tear_8 ?_
    refine R_ireturn dX10_tear_9 rfl ?_
    rw [if_neg (by omega), if_neg (by omega)]
    exact QI_mk ⟨rfl, fun _ _ _ => rfl, hCS, hEx⟩
/-! choices -/
def chSet (ch : Cs) (c : Nat) (p f t s r : Int) : Cs := fun c' j => if c' = c then (if j = 0 then p else if j = 1 then f else if j = 2 then t else if j = 3 then s else r) else ch c' j
def isC2 (a : Nat) : Bool := decide (45 ≤ a ∧ a ≤ 46)
theorem chM_fr {c : Nat} (hc : c < 2) (p f t s r : Int) : Fr isC2 m (chM m (45 + c) p f t s r) := by
  have h : isC2 (45 + c) = true := by simp [isC2]; omega
  exact ((((Fr.rf.set h).set h).set h).set h).set h
theorem chM_ok {c : Nat} (hc : c < 2) (p f t s r : Int) (h : ChC m ch) : ChC (chM m (45 + c) p f t s r) (chSet ch c p f t s r) := by
  obtain ⟨⟨a0, a1, a2, a3, a4⟩, b0, b1, b2, b3, b4⟩ := h
  rcases (show c = 0 ∨ c = 1 by omega) with rfl | rfl
  · refine ⟨⟨?_, ?_, ?_, ?_, ?_⟩, ?_, ?_, ?_, ?_, ?_⟩ <;> simp [chM, setI, chSet] <;> assumption
  · refine ⟨⟨?_, ?_, ?_, ?_, ?_⟩, ?_, ?_, ?_, ?_, ?_⟩ <;> simp [chM, setI, chSet] <;> assumption
/-- a change of the choices alone -/
theorem CS.mkC (h : CS o d L B ch m) (hf : Fr isC2 m m') (hC : ChC m' ch') (hO : ChOk ch') : CS o d L B ch' m' := by
  obtain ⟨h1, h2, h3, h4, h5, h6, h7, h8, h9⟩ := h
  have e41 : ∀ k, m'.1 41 k = m.1 41 k := fun k => hf.1 41 k rfl
  refine ⟨h1.eq hf.2, h2.fr hf (fun a q1 q2 => by simp [isC2]; omega), h3, h4.fr hf (fun a q1 q2 => by simp [isC2]; omega), h5, hC, hO, by rw [e41]; exact h8, fun q => ?_⟩
  rw [e41] at q
  have := h9 q
  exact ⟨by rw [e41]; exact q, fun k hk => by rw [hf.1 42 k rfl, hf.1 43 k rfl]; exact this.2 k hk⟩
theorem isC2_h : ∀ a, 96 ≤ a → isC2 a = false := fun a h => by simp [isC2]; omega
theorem isC2_x : ∀ a, a ≤ 2 ∨ 47 ≤ a ∧ a ≤ 84 → isC2 a = false := fun a h => by simp [isC2]; omega
theorem chSet_ok {c : Nat} {p f t s r : Int} (h : ChOk ch) (hp : 0 ≤ p ∧ p < 4096) (hf : 0 ≤ f ∧ f ≤ 89) (ht : 0 ≤ t ∧ t ≤ 89) (hs : 0 ≤ s ∧ s ≤ 3) (hr : 0 ≤ r ∧ r ≤ 255) : ChOk (chSet ch c p f t s r) := by
  intro c' hc'
  by_cases e : c' = c
  · simp only [chSet, if_pos e]; simp; omega
  · simp only [chSet, if_neg e]; exact h c' hc'
def choK (L : Ld) (c p f t s r : Int) : Bool := decide ((0 ≤ c ∧ c ≤ 1) ∧ (0 ≤ p ∧ p ≤ allB L) ∧ (0 ≤ f ∧ f ≤ 89) ∧ (f ≤ t ∧ t ≤ 89) ∧ (0 ≤ s ∧ s ≤ 3) ∧ (0 ≤ r ∧ r ≤ 255))
theorem choK_iff {c p f t s r : Int} : choK L c p f t s r = true ↔ ((0 ≤ c ∧ c ≤ 1) ∧ (0 ≤ p ∧ p ≤ allB L) ∧ (0 ≤ f ∧ f ≤ 89) ∧ (f ≤ t ∧ t ≤ 89) ∧ (0 ≤ s ∧ s ≤ 3) ∧ (0 ≤ r ∧ r ≤ 255)) := by simp [choK]
theorem c_X10_choose (c p f t s r : Int) (hCS : CS o d L B ch m) (hEx : Ex T F I S N m) (hc : rg c) (hp : rg p) (hf : rg f) (ht : rg t) (hs : rg s) (hr : rg r) : C Γ mX10_choose 6 240 0 0 [vr 0, vi c, vi p, vi f, vi t, vi s, vi r] SH m (QS o d L B (if choK L c p f t s r = true then chSet ch c.toNat p f t s r else ch) T F I S N m (if choK L c p f t s r = true then (hmy L B (chSet ch c.toNat p f t s r) c.toNat 0 : Int) else -1)) := by
  refine C_of_R rfl (Nat.le_of_ble_eq_true rfl) ?_
  have hPO := hCS.1
  have hP := hPO.2
  have h0 := allB_rg hCS.2.2.2.2.1
  refine R_iload_n 1 rfl dX10_choose_0 rfl ?_
  refine R_callS_i (M' := mX10_isChoice) 4 rfl dX10_choose_1 ml_X10_218 kmX10_isChoice st_X10_isChoice (c_X10_isChoice _ (by first | assumption | exact ⟨by omega, by omega⟩)) rfl rfl ⟨Nat.le_of_ble_eq_true rfl, Nat.le_of_ble_eq_true rfl⟩ (Nat.le_of_ble_eq_true rfl) ⟨Nat.le_of_ble_eq_true rfl, Nat.le_of_ble_eq_true rfl⟩ ?_
  refine R_ifp_eq 7 58 rfl rfl dX10_choose_4 (fun h4 => ?_) (fun h4 => ?_)
  · refine R_iconst 59 rfl dX10_choose_58 ?_
    refine R_ireturn dX10_choose_59 rfl ?_
    rw [if_neg (fun q => by have := choK_iff.mp q; omega), if_neg (fun q => by have := choK_iff.mp q; omega)]
    exact QI_mk ⟨rfl, fun _ _ _ => rfl, hCS, hEx⟩
  · refine R_aload_n 8 rfl dX10_choose_7 rfl ?_
    refine R_iload_n 9 rfl dX10_choose_8 rfl ?_
    refine R_callV_i (M' := mX10_areParishes) 12 rfl dX10_choose_9 ml_X10_221 kmX10_areParishes im_X10_areParishes se_X10_areParishes rfl ⟨by decide, rfl⟩ (c_X10_areParishes _ hCS (by first | assumption | exact ⟨by omega, by omega⟩)) rfl rfl ⟨Nat.le_of_ble_eq_true rfl, Nat.le_of_ble_eq_true rfl⟩ (Nat.le_of_ble_eq_true rfl) ⟨Nat.le_of_ble_eq_true rfl, Nat.le_of_ble_eq_true rfl⟩ ?_
    refine R_ifp_eq 15 58 rfl rfl dX10_choose_12 (fun h12 => ?_) (fun h12 => ?_)
    · refine R_iconst 59 rfl dX10_choose_58 ?_
      refine R_ireturn dX10_choose_59 rfl ?_
      rw [if_neg (fun q => by have := choK_iff.mp q; omega), if_neg (fun q => by have := choK_iff.mp q; omega)]
      exact QI_mk ⟨rfl, fun _ _ _ => rfl, hCS, hEx⟩
    · refine R_iload_n 16 rfl dX10_choose_15 rfl ?_
      refine R_iconst 17 rfl dX10_choose_16 ?_
      refine R_bipush 19 rfl dX10_choose_17 (by decide) ?_
      refine R_callS_i (M' := mX10_within) 22 rfl dX10_choose_19 ml_X10_108 kmX10_within st_X10_within (c_X10_within _ _ _ (by first | assumption | exact ⟨by omega, by omega⟩) (by first | assumption | exact ⟨by omega, by omega⟩) (by first | assumption | exact ⟨by omega, by omega⟩)) rfl rfl ⟨Nat.le_of_ble_eq_true rfl, Nat.le_of_ble_eq_true rfl⟩ (Nat.le_of_ble_eq_true rfl) ⟨Nat.le_of_ble_eq_true rfl, Nat.le_of_ble_eq_true rfl⟩ ?_
      refine R_ifp_eq 25 58 rfl rfl dX10_choose_22 (fun h22 => ?_) (fun h22 => ?_)
      · refine R_iconst 59 rfl dX10_choose_58 ?_
        refine R_ireturn dX10_choose_59 rfl ?_
        rw [if_neg (fun q => by have := choK_iff.mp q; omega), if_neg (fun q => by have := choK_iff.mp q; omega)]
        exact QI_mk ⟨rfl, fun _ _ _ => rfl, hCS, hEx⟩
      · refine R_iload 27 rfl dX10_choose_25 rfl ?_
        refine R_iload_n 28 rfl dX10_choose_27 rfl ?_
        refine R_bipush 30 rfl dX10_choose_28 (by decide) ?_
        refine R_callS_i (M' := mX10_within) 33 rfl dX10_choose_30 ml_X10_108 kmX10_within st_X10_within (c_X10_within _ _ _ (by first | assumption | exact ⟨by omega, by omega⟩) (by first | assumption | exact ⟨by omega, by omega⟩) (by first | assumption | exact ⟨by omega, by omega⟩)) rfl rfl ⟨Nat.le_of_ble_eq_true rfl, Nat.le_of_ble_eq_true rfl⟩ (Nat.le_of_ble_eq_true rfl) ⟨Nat.le_of_ble_eq_true rfl, Nat.le_of_ble_eq_true rfl⟩ ?_
        refine R_ifp_eq 36 58 rfl rfl dX10_choose_33 (fun h33 => ?_) (fun h33 => ?_)
        · refine R_iconst 59 rfl dX10_choose_58 ?_
          refine R_ireturn dX10_choose_59 rfl ?_
          rw [if_neg (fun q => by have := choK_iff.mp q; omega), if_neg (fun q => by have := choK_iff.mp q; omega)]
          exact QI_mk ⟨rfl, fun _ _ _ => rfl, hCS, hEx⟩
        · refine R_iload 38 rfl dX10_choose_36 rfl ?_
          refine R_iconst 39 rfl dX10_choose_38 ?_
          refine R_iconst 40 rfl dX10_choose_39 ?_
          refine R_callS_i (M' := mX10_within) 43 rfl dX10_choose_40 ml_X10_108 kmX10_within st_X10_within (c_X10_within _ _ _ (by first | assumption | exact ⟨by omega, by omega⟩) (by first | assumption | exact ⟨by omega, by omega⟩) (by first | assumption | exact ⟨by omega, by omega⟩)) rfl rfl ⟨Nat.le_of_ble_eq_true rfl, Nat.le_of_ble_eq_true rfl⟩ (Nat.le_of_ble_eq_true rfl) ⟨Nat.le_of_ble_eq_true rfl, Nat.le_of_ble_eq_true rfl⟩ ?_
          refine R_ifp_eq 46 58 rfl rfl dX10_choose_43 (fun h43 => ?_) (fun h43 => ?_)
          · refine R_iconst 59 rfl dX10_choose_58 ?_
            refine R_ireturn dX10_choose_59 rfl ?_
            rw [if_neg (fun q => by have := choK_iff.mp q; omega), if_neg (fun q => by have := choK_iff.mp q; omega)]
            exact QI_mk ⟨rfl, fun _ _ _ => rfl, hCS, hEx⟩
          · refine R_iload 48 rfl dX10_choose_46 rfl ?_
            refine R_iconst 49 rfl dX10_choose_48 ?_
            refine R_sipush 52 rfl dX10_choose_49 (by decide) ?_
            refine R_callS_i (M' := mX10_within) 55 rfl dX10_choose_52 ml_X10_108 kmX10_within st_X10_within (c_X10_within _ _ _ (by first | assumption | exact ⟨by omega, by omega⟩) (by first | assumption | exact ⟨by omega, by omega⟩) (by first | assumption | exact ⟨by omega, by omega⟩)) rfl rfl ⟨Nat.le_of_ble_eq_true rfl, Nat.le_of_ble_eq_true rfl⟩ (Nat.le_of_ble_eq_true rfl) ⟨Nat.le_of_ble_eq_true rfl, Nat.le_of_ble_eq_true rfl⟩ ?_
            refine R_ifp_ne 58 60 rfl rfl dX10_choose_55 (fun h55 => ?_) (fun h55 => ?_)
            · refine R_aload_n 61 rfl dX10_choose_60 rfl ?_
              refine R_getP 7 64 rfl dX10_choose_61 rfl rfl fl_X10_54 (hP _ _ _ rfl) ?_
              refine R_iload_n 65 rfl dX10_choose_64 rfl ?_
              refine R_aald c.toNat 66 rfl dX10_choose_65 rfl rfl (by first | rfl | omega) (by omega) (by decide) (PO_ch hPO (by omega)) ?_
              refine R_iload_n 67 rfl dX10_choose_66 rfl ?_
              refine R_iload_n 68 rfl dX10_choose_67 rfl ?_
              refine R_iload 70 rfl dX10_choose_68 rfl ?_
              refine R_iload 72 rfl dX10_choose_70 rfl ?_
              refine R_iload 74 rfl dX10_choose_72 rfl ?_
              refine R_callV_v (M' := mX1_become) 77 rfl dX10_choose_74 ml_X10_224 kmX1_become im_X1_become se_X1_become (sh_ch (by omega)) ⟨by decide, rfl⟩ (c_X1_become (45 + c.toNat) _ _ _ _ _ (sh_ch (by omega))) rfl rfl ⟨Nat.le_of_ble_eq_true rfl, Nat.le_of_ble_eq_true rfl⟩ (Nat.le_of_ble_eq_true rfl) ⟨Nat.le_of_ble_eq_true rfl, Nat.le_of_ble_eq_true rfl⟩ ?_
              have hcc : c.toNat < 2 := by omega
              have f1 := chM_fr (m := m) hcc p f t s r
              have hCS2 := hCS.mkC f1 (chM_ok hcc p f t s r hCS.2.2.2.2.2.1) (chSet_ok hCS.2.2.2.2.2.2.1 (by omega) (by omega) (by omega) (by omega) (by omega))
              refine R_aload_n 78 rfl dX10_choose_77 rfl ?_
              refine R_iload_n 79 rfl dX10_choose_78 rfl ?_
              refine R_iconst 80 rfl dX10_choose_79 ?_
              refine R_callV_I (M' := mX10_howMany) 83 rfl dX10_choose_80 ml_X10_228 kmX10_howMany im_X10_howMany se_X10_howMany rfl ⟨by decide, rfl⟩ (c_X10_howMany c.toNat _ _ hCS2 (by omega) (by omega) (by omega)) rfl rfl ⟨Nat.le_of_ble_eq_true rfl, Nat.le_of_ble_eq_true rfl⟩ (Nat.le_of_ble_eq_true rfl) ⟨Nat.le_of_ble_eq_true rfl, Nat.le_of_ble_eq_true rfl⟩ ?_
              rintro z80 m80 h80
              refine R_ireturn dX10_choose_83 rfl ?_
              have c1 : choK L c p f t s r = true := choK_iff.mpr (by omega)
              rw [if_pos c1, if_pos c1]
              obtain ⟨e80, f80, q80, -⟩ := h80
              exact QI_mk ⟨e80, (f1.h isC2_h).tr f80.s.h, q80, (hEx.fr f1 isC2_x).fs f80.s⟩
            · refine R_iconst 59 rfl dX10_choose_58 ?_
              refine R_ireturn dX10_choose_59 rfl ?_
              rw [if_neg (fun q => by have := choK_iff.mp q; omega), if_neg (fun q => by have := choK_iff.mp q; omega)]
              exact QI_mk ⟨rfl, fun _ _ _ => rfl, hCS, hEx⟩
end
