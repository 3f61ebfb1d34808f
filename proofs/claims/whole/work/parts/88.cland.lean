/-! land, of the class -/
def chA (L : Ld) : Cs := fun _ j => if j = 0 then allB L else if j = 1 then 0 else if j = 2 then 89 else if j = 3 then 3 else 255
def BkZ : Bk := (0, fun _ _ => 0, fun _ _ => 0)
def TpZ : Tp := (0, fun _ => 0)
def a_land (T : Tp) : Int := match landT T with
  | .inl e => -10 - (e.2 : Int)
  | .inr q => (q.1 : Int)
def ldF (T : Tp) : Int := match landT T with
  | .inl e => e.1
  | .inr _ => 0
def ldL (T : Tp) (L : Ld) : Ld := match landT T with
  | .inl _ => L
  | .inr q => sL q.2
def ldB (T : Tp) (B : Bk) : Bk := match landT T with
  | .inl _ => B
  | .inr _ => BkZ
def ldC (T : Tp) (ch : Cs) : Cs := match landT T with
  | .inl _ => ch
  | .inr q => chA (sL q.2)
section
variable {Γ : GX} {m m' : Mem} {B : Bk} {L : Ld} {ch : Cs} {o d : Nat} {T : Tp} {F N : Int} {I : Nat → Im} {S : Nat → Sht} {P : Nat → Bool}
theorem c_X5_readLines (hΓ : GOk Γ) (hPO : PO o d m) (hT : TpC m T) (hO : TpOk T) : C Γ mX5_readLines 8 320 0 0 [vr 3, vr 1, vr d] SH m (QI SH (fun z m' => Fr (isRD d) (rdM m d) m' ∧ PCx T d m' (sx (landT T)) ∧ ∀ n s, landT T = .inr (n, s) → z = (n : Int))) := by
  rcases hPO.1 with ⟨rfl, rfl⟩ | ⟨rfl, rfl⟩
  · exact c_X5_readLines17 hΓ hPO hT hO
  · exact c_X5_readLines4 hΓ hPO hT hO
theorem mkP_sw {a k : Nat} (h : ¬ (a = 0 ∧ (k = 2 ∨ k = 3))) : mkP (o, d, none, none, none, none) a k = mkP (d, o, none, none, none, none) a k := by
  by_cases e : a = 0
  · subst e
    have h2 : k ≠ 2 := by omega
    have h3 : k ≠ 3 := by omega
    show (if k = 0 then some 1 else if k = 1 then some 3 else if k = 2 then (some o) else if k = 3 then (some d) else _) = (if k = 0 then some 1 else if k = 1 then some 3 else if k = 2 then (some d) else if k = 3 then (some o) else _)
    rw [if_neg h2, if_neg h3, if_neg h2, if_neg h3]
  · unfold mkP
    simp only [show ¬ a < 1 by omega, if_false]
theorem PO.swap (h : PO o d m) : PO d o (setP (setP m 0 2 (some d)) 0 3 (some o)) := ⟨by rcases h.1 with q | q <;> omega, fun a k r e => by
  show (if a = 0 ∧ k = 3 then some o else if a = 0 ∧ k = 2 then some d else m.2 a k) = some r
  by_cases h3 : a = 0 ∧ k = 3
  · rw [if_pos h3]; obtain ⟨rfl, rfl⟩ := h3; exact e
  · rw [if_neg h3]
    by_cases h2 : a = 0 ∧ k = 2
    · rw [if_pos h2]; obtain ⟨rfl, rfl⟩ := h2; exact e
    · rw [if_neg h2]
      exact h.2 a k r (by rw [mkP_sw (by omega)]; exact e)⟩
theorem LdC.cell (h : LdC o m L) (ho : o = 4 ∨ o = 17) (e : ∀ a k, o ≤ a → a ≤ o + 12 → m'.1 a k = m.1 a k) : LdC o m' L := by
  obtain ⟨a, b, c, f⟩ := h.u
  exact LdU.c ⟨fun k hk => by rw [e _ _ (by omega) (by omega)]; exact a k hk, fun k hk => by rw [e _ _ (by omega) (by omega)]; exact b k hk, fun r hr p hp => by rw [e _ _ (by omega) (by omega)]; exact c r hr p hp, fun r hr p hp => by rw [e _ _ (by omega) (by omega)]; exact f r hr p hp⟩ ho
theorem CS.cell (h : CS o d L B ch m) (hp : PO o d m') (e : ∀ a k, (30 ≤ a ∧ a ≤ 46) ∨ (o ≤ a ∧ a ≤ o + 12) → m'.1 a k = m.1 a k) : CS o d L B ch m' := by
  obtain ⟨h1, h2, h3, h4, h5, h6, h7, h8, h9⟩ := h
  have ho : o = 4 ∨ o = 17 := by rcases h1.1 with q | q <;> omega
  refine ⟨hp, BkC.eq h2 (fun a k ha => e a k (by omega)), h3, h4.cell ho (fun a k q1 q2 => e a k (Or.inr ⟨q1, q2⟩)), h5, ⟨h6.1.eq (fun k => e 45 k (by omega)), h6.2.eq (fun k => e 46 k (by omega))⟩, h7, by rw [e 41 0 (by omega)]; exact h8, fun q => ?_⟩
  rw [e 41 0 (by omega)] at q
  have := h9 q
  exact ⟨by rw [e 41 0 (by omega)]; exact q, fun k hk => by rw [e 42 k (by omega), e 43 k (by omega)]; exact this.2 k hk⟩
theorem Ex.tz {v : Int} (h : Ex T F I S N m) (e : ∀ a k, 47 ≤ a → a ≤ 84 → m'.1 a k = m.1 a k) (e1 : m'.1 1 1 = 0) (e4 : m'.1 0 4 = v) (hv : 0 ≤ v ∧ v ≤ 5) (e10 : m'.1 0 10 = m.1 0 10) : Ex TpZ v I S N m' := by
  obtain ⟨⟨h1, h1'⟩, h2, ⟨h3, h4, h5, h6⟩, h7, h8, h9⟩ := h
  exact ⟨⟨⟨e1, fun k hk => by have : k < 0 := hk; omega⟩, ⟨by show 0 ≤ 320; decide, fun k hk => by have : k < 0 := hk; omega⟩⟩, ⟨e4, hv⟩, ⟨h3.eq (fun a k q1 q2 => e a k (by omega) (by omega)), h4.eq (fun a k q1 q2 => e a k (by omega) (by omega)), h5, h6⟩, fun k hk => ⟨(h7 k hk).1.eq (fun a j q1 q2 => e a j (by omega) (by omega)), (h7 k hk).2⟩, by rw [e10]; exact h8, h9⟩
def tdM (m : Mem) (o d : Nat) (p : Int) : Mem := setI (chM (chM (setI (setP (setP m 0 2 (some d)) 0 3 (some o)) 30 0 0) 45 p 0 89 3 255) 46 p 0 89 3 255) 41 0 1
theorem tdM_fr {p : Int} : Fr isBC (setP (setP m 0 2 (some d)) 0 3 (some o)) (tdM m o d p) := (((Fr.rf.set rfl).cm rfl).cm rfl).set rfl
theorem c_X10_takeDraft (hPO : PO o d m) (hL : LdC d m L) (hLO : LdOk L) : C Γ mX10_takeDraft 2 80 0 0 [vr 0] SH m (Qv SH (tdM m o d (allB L))) := by
  refine C_of_R rfl (Nat.le_of_ble_eq_true rfl) ?_
  have hP := hPO.2
  have hsw := hPO.swap
  have hsd : shp SH d = some (4, 10) := by rcases hPO.1 with ⟨-, rfl⟩ | ⟨-, rfl⟩ <;> rfl
  have hL2 : LdC d (setP (setP m 0 2 (some d)) 0 3 (some o)) L := hL
  refine R_aload_n 1 rfl dX10_takeDraft_0 rfl ?_
  refine R_getP 2 4 rfl dX10_takeDraft_1 rfl rfl fl_X10_26 (PO_o hPO) ?_
  refine R_astore_n [_, _] 5 rfl dX10_takeDraft_4 rfl (by decide) ?_
  refine R_aload_n 6 rfl dX10_takeDraft_5 rfl ?_
  refine R_aload_n 7 rfl dX10_takeDraft_6 rfl ?_
  refine R_getP 3 10 rfl dX10_takeDraft_7 rfl rfl fl_X10_30 (PO_d hPO) ?_
  refine R_putP 2 13 rfl dX10_takeDraft_10 rfl rfl fl_X10_26 ?_
  refine R_aload_n 14 rfl dX10_takeDraft_13 rfl ?_
  refine R_aload_n 15 rfl dX10_takeDraft_14 rfl ?_
  refine R_putP 3 18 rfl dX10_takeDraft_15 rfl rfl fl_X10_30 ?_
  clear hP
  have hP := hsw.2
  refine R_aload_n 19 rfl dX10_takeDraft_18 rfl ?_
  refine R_getP 5 22 rfl dX10_takeDraft_19 rfl rfl fl_X10_40 (hP _ _ _ rfl) ?_
  refine R_iconst 23 rfl dX10_takeDraft_22 ?_
  refine R_putI 0 26 rfl dX10_takeDraft_23 rfl rfl fl_X10_179 ?_
  refine R_aload_n 27 rfl dX10_takeDraft_26 rfl ?_
  refine R_getP 7 30 rfl dX10_takeDraft_27 rfl rfl fl_X10_54 (hP 0 7 44 rfl) ?_
  refine R_iconst 31 rfl dX10_takeDraft_30 ?_
  refine R_aald 0 32 rfl dX10_takeDraft_31 rfl rfl (by first | rfl | omega) (by decide) (by decide) (hP 44 0 45 rfl) ?_
  refine R_aload_n 33 rfl dX10_takeDraft_32 rfl ?_
  refine R_getP 2 36 rfl dX10_takeDraft_33 rfl rfl fl_X10_26 (hP 0 2 d rfl) ?_
  refine R_callV_i (M' := mX4_allParishes) 39 rfl dX10_takeDraft_36 ml_X10_273 kmX4_allParishes im_X4_allParishes se_X4_allParishes hsd ⟨by decide, rfl⟩ (c_X4_allParishes (hL2.fr (F := isBC) (Fr.rf.set rfl) isBC_4) hLO) rfl rfl ⟨Nat.le_of_ble_eq_true rfl, Nat.le_of_ble_eq_true rfl⟩ (Nat.le_of_ble_eq_true rfl) ⟨Nat.le_of_ble_eq_true rfl, Nat.le_of_ble_eq_true rfl⟩ ?_
  refine R_callV_v (M' := mX1_becomeAll) 42 rfl dX10_takeDraft_39 ml_X10_403 kmX1_becomeAll im_X1_becomeAll se_X1_becomeAll rfl ⟨by decide, rfl⟩ (c_X1_becomeAll 45 _ rfl) rfl rfl ⟨Nat.le_of_ble_eq_true rfl, Nat.le_of_ble_eq_true rfl⟩ (Nat.le_of_ble_eq_true rfl) ⟨Nat.le_of_ble_eq_true rfl, Nat.le_of_ble_eq_true rfl⟩ ?_
  refine R_aload_n 43 rfl dX10_takeDraft_42 rfl ?_
  refine R_getP 7 46 rfl dX10_takeDraft_43 rfl rfl fl_X10_54 (hP 0 7 44 rfl) ?_
  refine R_iconst 47 rfl dX10_takeDraft_46 ?_
  refine R_aald 1 48 rfl dX10_takeDraft_47 rfl rfl (by first | rfl | omega) (by decide) (by decide) (hP 44 1 46 rfl) ?_
  refine R_aload_n 49 rfl dX10_takeDraft_48 rfl ?_
  refine R_getP 2 52 rfl dX10_takeDraft_49 rfl rfl fl_X10_26 (hP 0 2 d rfl) ?_
  refine R_callV_i (M' := mX4_allParishes) 55 rfl dX10_takeDraft_52 ml_X10_273 kmX4_allParishes im_X4_allParishes se_X4_allParishes hsd ⟨by decide, rfl⟩ (c_X4_allParishes (hL2.fr (F := isBC) ((Fr.rf.set rfl).cm rfl) isBC_4) hLO) rfl rfl ⟨Nat.le_of_ble_eq_true rfl, Nat.le_of_ble_eq_true rfl⟩ (Nat.le_of_ble_eq_true rfl) ⟨Nat.le_of_ble_eq_true rfl, Nat.le_of_ble_eq_true rfl⟩ ?_
  refine R_callV_v (M' := mX1_becomeAll) 58 rfl dX10_takeDraft_55 ml_X10_403 kmX1_becomeAll im_X1_becomeAll se_X1_becomeAll rfl ⟨by decide, rfl⟩ (c_X1_becomeAll 46 _ rfl) rfl rfl ⟨Nat.le_of_ble_eq_true rfl, Nat.le_of_ble_eq_true rfl⟩ (Nat.le_of_ble_eq_true rfl) ⟨Nat.le_of_ble_eq_true rfl, Nat.le_of_ble_eq_true rfl⟩ ?_
  refine R_aload_n 59 rfl dX10_takeDraft_58 rfl ?_
  refine R_getP 6 62 rfl dX10_takeDraft_59 rfl rfl fl_X10_47 (hP 0 6 41 rfl) ?_
  refine R_iconst 63 rfl dX10_takeDraft_62 ?_
  refine R_putZ 0 66 rfl dX10_takeDraft_63 rfl rfl fl_X10_182 (by decide) ?_
  refine R_return dX10_takeDraft_66 rfl ?_
  exact Qv_mk rfl
theorem c_X10_land (hΓ : GOk Γ) (hCS : CS o d L B ch m) (hEx : Ex T F I S N m) : C Γ mX10_land 9 360 0 0 [vr 0] SH m (QI SH (fun z m' => z = a_land T ∧ Fh m m' ∧ ∃ o' d', CS o' d' (ldL T L) (ldB T B) (ldC T ch) m' ∧ Ex TpZ (ldF T) I S N m')) := by
  refine C_of_R rfl (Nat.le_of_ble_eq_true rfl) ?_
  have hPO := hCS.1
  have hP := hPO.2
  have hod := hPO.1
  have key : ∀ m1, Fr (isRD d) (rdM m d) m1 → ∀ v a k, 30 ≤ a ∨ (o ≤ a ∧ a ≤ o + 12) → (setI (setI m1 1 1 0) 0 4 v).1 a k = m.1 a k := fun m1 hf v a k q => by
    simp only [setI]
    rw [if_neg (by omega), if_neg (by omega), hf.1 a k (by simp [isRD]; omega)]
    rfl
  have k10 : ∀ m1, Fr (isRD d) (rdM m d) m1 → ∀ v, (setI (setI m1 1 1 0) 0 4 v).1 0 10 = m.1 0 10 := fun m1 hf v => by
    simp only [setI]
    rw [if_neg (by omega), if_neg (by omega), hf.1 0 10 (by simp [isRD]; omega)]
    rfl
  cases hl : landT T with
  | inl e =>
    refine R_aload_n 1 rfl dX10_land_0 rfl ?_
    refine R_getP 1 4 rfl dX10_land_1 rfl rfl fl_X10_19 (hP _ _ _ rfl) ?_
    refine R_aload_n 5 rfl dX10_land_4 rfl ?_
    refine R_getP 0 8 rfl dX10_land_5 rfl rfl fl_X10_10 (hP _ _ _ rfl) ?_
    refine R_aload_n 9 rfl dX10_land_8 rfl ?_
    refine R_getP 3 12 rfl dX10_land_9 rfl rfl fl_X10_30 (PO_d hPO) ?_
    refine R_callV_I (M' := mX5_readLines) 15 rfl dX10_land_12 ml_X10_112 kmX5_readLines im_X5_readLines se_X5_readLines rfl ⟨by decide, rfl⟩ (c_X5_readLines (T := T) hΓ hPO hEx.1.1 hEx.1.2) rfl rfl ⟨Nat.le_of_ble_eq_true rfl, Nat.le_of_ble_eq_true rfl⟩ (Nat.le_of_ble_eq_true rfl) ⟨Nat.le_of_ble_eq_true rfl, Nat.le_of_ble_eq_true rfl⟩ ?_
    rintro z12 m12 h12
    obtain ⟨f12, p12, v12⟩ := h12
    rw [hl] at p12
    obtain ⟨g7, g8, -, e1, e5⟩ := p12
    have PO12 : PO o d m12 := hPO.rd.eq f12.2
    clear hP
    have hP := PO12.2
    refine R_istore_n [_, _] 16 rfl dX10_land_15 rfl (by decide) ?_
    refine R_aload_n 17 rfl dX10_land_16 rfl ?_
    refine R_getP 0 20 rfl dX10_land_17 rfl rfl fl_X10_10 (hP _ _ _ rfl) ?_
    refine R_iconst 21 rfl dX10_land_20 ?_
    refine R_putI 1 24 rfl dX10_land_21 rfl rfl fl_X10_105 ?_
    refine R_aload_n 25 rfl dX10_land_24 rfl ?_
    refine R_aload_n 26 rfl dX10_land_25 rfl ?_
    refine R_getP 1 29 rfl dX10_land_26 rfl rfl fl_X10_19 (hP _ _ _ rfl) ?_
    refine R_getI 7 32 rfl dX10_land_29 rfl rfl fl_X10_116 ?_
    refine R_top (b := e.1) (by simp [setI]; exact g7) ?_
    refine R_putI 4 35 rfl dX10_land_32 rfl rfl fl_X10_33 ?_
    refine R_aload_n 36 rfl dX10_land_35 rfl ?_
    refine R_getI 4 39 rfl dX10_land_36 rfl rfl fl_X10_33 ?_
    refine R_top (b := e.1) (by simp [setI]) ?_
    refine R_if_eq 42 53 rfl rfl dX10_land_39 (by first | assumption | exact ⟨by omega, by omega⟩) (fun h39 => ?_) (fun h39 => ?_)
    · exfalso; omega
    · refine R_bipush 44 rfl dX10_land_42 (by decide) ?_
      refine R_aload_n 45 rfl dX10_land_44 rfl ?_
      refine R_getP 1 48 rfl dX10_land_45 rfl rfl fl_X10_19 (hP _ _ _ rfl) ?_
      refine R_getI 8 51 rfl dX10_land_48 rfl rfl fl_X10_119 ?_
      refine R_top (b := (e.2 : Int)) (by simp [setI]; exact g8) ?_
      refine R_isub 52 rfl dX10_land_51 ?_
      refine R_ireturn dX10_land_52 rfl ?_
      refine QI_mk ⟨by unfold a_land; rw [hl], fun a k q => key _ f12 _ a k (by omega), o, d, ?_, ?_⟩
      · unfold ldL ldB ldC
        rw [hl]
        exact hCS.cell (PO12.eq rfl) (fun a k q => key _ f12 _ a k (by omega))
      · unfold ldF
        rw [hl]
        exact hEx.tz (fun a k q1 q2 => key _ f12 _ a k (by omega)) (by simp [setI]) (by simp [setI]) (show 0 ≤ e.1 ∧ e.1 ≤ 5 by omega) (k10 _ f12 _)
  | inr q =>
    have hok : LdOk (sL q.2) := land_ok (n := q.1) (s := q.2) hl
    have hab := allB_rg hok
    refine R_aload_n 1 rfl dX10_land_0 rfl ?_
    refine R_getP 1 4 rfl dX10_land_1 rfl rfl fl_X10_19 (hP _ _ _ rfl) ?_
    refine R_aload_n 5 rfl dX10_land_4 rfl ?_
    refine R_getP 0 8 rfl dX10_land_5 rfl rfl fl_X10_10 (hP _ _ _ rfl) ?_
    refine R_aload_n 9 rfl dX10_land_8 rfl ?_
    refine R_getP 3 12 rfl dX10_land_9 rfl rfl fl_X10_30 (PO_d hPO) ?_
    refine R_callV_I (M' := mX5_readLines) 15 rfl dX10_land_12 ml_X10_112 kmX5_readLines im_X5_readLines se_X5_readLines rfl ⟨by decide, rfl⟩ (c_X5_readLines (T := T) hΓ hPO hEx.1.1 hEx.1.2) rfl rfl ⟨Nat.le_of_ble_eq_true rfl, Nat.le_of_ble_eq_true rfl⟩ (Nat.le_of_ble_eq_true rfl) ⟨Nat.le_of_ble_eq_true rfl, Nat.le_of_ble_eq_true rfl⟩ ?_
    rintro z12 m12 h12
    obtain ⟨f12, p12, v12⟩ := h12
    rw [hl] at p12 v12
    have z12e := v12 _ _ rfl
    obtain ⟨-, -, -, -, -, g7, -, g8, -⟩ := p12
    have PO12 : PO o d m12 := hPO.rd.eq f12.2
    have PO53 : PO o d (setI (setI m12 1 1 0) 0 4 0) := PO12.eq rfl
    have hd : d = 4 ∨ d = 17 := by omega
    have LD : LdC d (setI (setI m12 1 1 0) 0 4 0) (sL q.2) := g8.cell hd (fun a k q1 q2 => by simp only [setI]; rw [if_neg (by omega), if_neg (by omega)])
    clear hP
    have hP := PO12.2
    refine R_istore_n [_, _] 16 rfl dX10_land_15 rfl (by decide) ?_
    refine R_aload_n 17 rfl dX10_land_16 rfl ?_
    refine R_getP 0 20 rfl dX10_land_17 rfl rfl fl_X10_10 (hP _ _ _ rfl) ?_
    refine R_iconst 21 rfl dX10_land_20 ?_
    refine R_putI 1 24 rfl dX10_land_21 rfl rfl fl_X10_105 ?_
    refine R_aload_n 25 rfl dX10_land_24 rfl ?_
    refine R_aload_n 26 rfl dX10_land_25 rfl ?_
    refine R_getP 1 29 rfl dX10_land_26 rfl rfl fl_X10_19 (hP _ _ _ rfl) ?_
    refine R_getI 7 32 rfl dX10_land_29 rfl rfl fl_X10_116 ?_
    refine R_top (b := 0) (by simp [setI]; exact g7) ?_
    refine R_putI 4 35 rfl dX10_land_32 rfl rfl fl_X10_33 ?_
    refine R_aload_n 36 rfl dX10_land_35 rfl ?_
    refine R_getI 4 39 rfl dX10_land_36 rfl rfl fl_X10_33 ?_
    refine R_top (b := 0) (by simp [setI]) ?_
    refine R_if_eq 42 53 rfl rfl dX10_land_39 (by first | assumption | exact ⟨by omega, by omega⟩) (fun h39 => ?_) (fun h39 => ?_)
    · refine R_aload_n 54 rfl dX10_land_53 rfl ?_
      refine R_callV_v (M' := mX10_takeDraft) 57 rfl dX10_land_54 ml_X10_122 kmX10_takeDraft im_X10_takeDraft se_X10_takeDraft rfl ⟨by decide, rfl⟩ (c_X10_takeDraft PO53 LD hok) rfl rfl ⟨Nat.le_of_ble_eq_true rfl, Nat.le_of_ble_eq_true rfl⟩ (Nat.le_of_ble_eq_true rfl) ⟨Nat.le_of_ble_eq_true rfl, Nat.le_of_ble_eq_true rfl⟩ ?_
      refine R_iload_n 58 rfl dX10_land_57 rfl ?_
      refine R_ireturn dX10_land_58 rfl ?_
      have fr := tdM_fr (m := setI (setI m12 1 1 0) 0 4 0) (o := o) (d := d) (p := allB (sL q.2))
      have kt : ∀ a k, isBC a = false → (tdM (setI (setI m12 1 1 0) 0 4 0) o d (allB (sL q.2))).1 a k = (setI (setI m12 1 1 0) 0 4 0).1 a k := fun a k h => fr.1 a k h
      refine QI_mk ⟨by unfold a_land; rw [hl]; exact z12e, fun a k q => (kt a k (by simp [isBC]; omega)).trans (key _ f12 _ a k (by omega)), d, o, ?_, ?_⟩
      · unfold ldL ldB ldC
        rw [hl]
        refine ⟨PO53.swap.eq fr.2, ⟨rfl, fun k hk => by have : k < 0 := hk; omega, fun k hk => by have : k < 2 * 0 := hk; omega⟩, ⟨by show 0 ≤ 40; decide, fun k hk => by have : k < 0 := hk; omega, fun k hk => by have : k < 2 * 0 := hk; omega⟩, LD.cell hd (fun a k q1 q2 => kt a k (by simp [isBC]; omega)), hok, ⟨⟨rfl, rfl, rfl, rfl, rfl⟩, ⟨rfl, rfl, rfl, rfl, rfl⟩⟩, fun c hc => ?_, Or.inr rfl, fun w => ?_⟩
        · exact ⟨hab.1, by show allB (sL q.2) < 4096; omega, (show (0 : Int) ≤ 0 by decide), (show (0 : Int) ≤ 89 by decide), (show (0 : Int) ≤ 89 by decide), (show (89 : Int) ≤ 89 by decide), (show (0 : Int) ≤ 3 by decide), (show (3 : Int) ≤ 3 by decide), (show (0 : Int) ≤ 255 by decide), (show (255 : Int) ≤ 255 by decide)⟩
        · have : (1 : Int) = 0 := w
          omega
      · unfold ldF
        rw [hl]
        exact hEx.tz (fun a k q1 q2 => (kt a k (by simp [isBC]; omega)).trans (key _ f12 _ a k (by omega))) ((kt 1 1 rfl).trans (by simp [setI])) ((kt 0 4 rfl).trans (by simp [setI])) (show (0 : Int) ≤ 0 ∧ (0 : Int) ≤ 5 by decide) ((kt 0 10 rfl).trans (k10 _ f12 _))
    · exfalso; omega
end
