theorem PO_st {o d : Nat} {m : Mem} (h : PO o d m) {c : Nat} (hc : c < 2) : m.2 93 c = some (94 + c) := by
  rcases (show c = 0 ∨ c = 1 by omega) with rfl | rfl
  · exact h.2 93 0 94 rfl
  · exact h.2 93 1 95 rfl
theorem sh_st {c : Nat} (hc : c < 2) : shp SH (94 + c) = some (12, 100) := by
  rcases (show c = 0 ∨ c = 1 by omega) with rfl | rfl <;> rfl
def pfI (B : Bk) (p f : Int) (k : Nat) : Bool := decide (B.2.2 3 k = p ∧ B.2.2 0 k = f)
theorem pfI_iff {B : Bk} {p f : Int} {k : Nat} : pfI B p f k = true ↔ (B.2.2 3 k = p ∧ B.2.2 0 k = f) := by simp [pfI]
/-- marks of a person -/
def mko (B : Bk) (p f : Int) : Nat := cnt (pfI B p f) (2 * B.1)
def isS (a : Nat) : Bool := decide (94 ≤ a ∧ a ≤ 95)
def is92 (a : Nat) : Bool := decide (a = 92)
def Stn (B : Bk) (m : Mem) (k : Nat) : Prop := ∀ f p : Nat, f < 2 → p < 100 → m.1 (94 + f) p = (cnt (pfI B (p : Int) (f : Int)) k : Int)
def two (B : Bk) (w : Int) (p : Nat) : Bool := decide (2 ≤ mko B (p : Int) 0 + mko B (p : Int) 1) && (!decide (w = 2) || (decide (0 < mko B (p : Int) 0) && decide (0 < mko B (p : Int) 1)))
theorem two_iff {B : Bk} {w : Int} {p : Nat} : two B w p = true ↔ (2 ≤ mko B (p : Int) 0 + mko B (p : Int) 1 ∧ (w = 2 → 0 < mko B (p : Int) 0 ∧ 0 < mko B (p : Int) 1)) := by
  simp only [two, Bool.and_eq_true, Bool.or_eq_true, decide_eq_true_eq, Bool.not_eq_true', decide_eq_false_iff_not]
  constructor
  · rintro ⟨h1, h2⟩
    exact ⟨h1, fun e => by rcases h2 with h2 | h2; exact absurd e h2; exact h2⟩
  · rintro ⟨h1, h2⟩
    refine ⟨h1, ?_⟩
    by_cases e : w = 2
    · exact Or.inr (h2 e)
    · exact Or.inl e
def twI (B : Bk) (w : Int) (j : Nat) : Bool := two B w (j + 1)
def twc (B : Bk) (w : Int) : Int := if w = 1 then fsA (two B 1) 1 99 else (cnt (twI B w) 99 : Int)
theorem fsA_st {p : Nat → Bool} {f i : Nat} (h : ¬ p i = true) : fsA p i (f + 1) = fsA p (i + 1) f := by rw [fsA, if_neg h]
theorem fsA_go {p : Nat → Bool} {f i : Nat} (h : p i = true) : fsA p i (f + 1) = (i : Int) := by rw [fsA, if_pos h]
/-! hands -/
def nmI (B : Bk) (p : Int) (k : Nat) : Bool := decide (B.2.1 0 (k / 2) = p ∧ B.2.2 0 k = 1)
theorem nmI_iff {B : Bk} {p : Int} {k : Nat} : nmI B p k = true ↔ (B.2.1 0 (k / 2) = p ∧ B.2.2 0 k = 1) := by simp [nmI]
def nrI (B : Bk) (p n h : Int) (k : Nat) : Bool := nmI B p k && decide (ap (B.2.2 2 k) h ≤ n)
def nr (B : Bk) (p n : Int) (h : Nat) : Nat := cnt (nrI B p n (h : Int)) (2 * B.1)
def fnM (B : Bk) (p n : Int) : Nat → Nat
  | 0 => 0
  | h + 1 => if fnM B p n h < nr B p n h then nr B p n h else fnM B p n h
def fnB (B : Bk) (p n : Int) : Nat → Int
  | 0 => -4
  | h + 1 => if fnM B p n h < nr B p n h then (h : Int) else fnB B p n h
theorem fn_y {B : Bk} {p n : Int} {h : Nat} (q : fnM B p n h < nr B p n h) : fnM B p n (h + 1) = nr B p n h ∧ fnB B p n (h + 1) = (h : Int) := ⟨by rw [fnM, if_pos q], by rw [fnB, if_pos q]⟩
theorem fn_n {B : Bk} {p n : Int} {h : Nat} (q : ¬ fnM B p n h < nr B p n h) : fnM B p n (h + 1) = fnM B p n h ∧ fnB B p n (h + 1) = fnB B p n h := ⟨by rw [fnM, if_neg q], by rw [fnB, if_neg q]⟩
def fnd (B : Bk) (p n w : Int) : Int := if fnB B p n 256 = -4 ∨ w = 0 then fnB B p n 256 else (fnM B p n 256 : Int)
theorem fn_rel (B : Bk) (p n : Int) (h : Nat) : (fnM B p n h = 0 ∧ fnB B p n h = -4 ∧ ∀ j, j < h → nr B p n j = 0) ∨ (0 < fnM B p n h ∧ 0 ≤ fnB B p n h ∧ fnB B p n h < h) := by
  induction h with
  | zero => left; exact ⟨rfl, rfl, fun j hj => by omega⟩
  | succ h ih =>
    unfold fnM fnB
    split
    · right; omega
    · rcases ih with ⟨h1, h2, h3⟩ | ⟨h1, h2, h3⟩
      · left
        refine ⟨h1, h2, fun j hj => ?_⟩
        by_cases e : j = h
        · subst e; omega
        · exact h3 j (by omega)
      · right; omega
theorem fnM_le (B : Bk) (p n : Int) (h : Nat) : fnM B p n h ≤ 2 * B.1 := by
  induction h with
  | zero => exact Nat.zero_le _
  | succ h ih =>
    have := cnt_le (nrI B p n (h : Int)) (2 * B.1)
    unfold fnM
    split
    · exact this
    · exact ih
theorem ap_self (a : Int) : ap a a = 0 := by unfold ap; rw [Nat.xor_self]; rfl
theorem nm_none {B : Bk} {p n : Int} (h : cnt (nmI B p) (2 * B.1) = 0) (j : Nat) : nr B p n j = 0 := by
  have h2 := cnt_zero h
  unfold nr
  have : cnt (nrI B p n (j : Int)) (2 * B.1) ≤ cnt (nmI B p) (2 * B.1) := cnt_mono (fun k hk q => by simp [nrI] at q; exact q.1)
  omega
theorem cnt_ex {p : Nat → Bool} {n : Nat} (h : 0 < cnt p n) : ∃ k, k < n ∧ p k = true := by
  induction n with
  | zero => simp [cnt] at h
  | succ n ih =>
    by_cases e : p n = true
    · exact ⟨n, by omega, e⟩
    · rw [cnt_n e] at h
      obtain ⟨k, h1, h2⟩ := ih h
      exact ⟨k, by omega, h2⟩
theorem nm_some {B : Bk} {np p n : Int} (hO : BkOk np B) (hn : 0 ≤ n) (h : 0 < cnt (nmI B p) (2 * B.1)) : 0 < fnM B p n 256 := by
  obtain ⟨k, h1, h2⟩ := cnt_ex h
  have h3 := (hO.2.2 k h1).2.2
  rcases fn_rel B p n 256 with ⟨q1, q2, q3⟩ | q
  · have h4 := q3 (B.2.2 2 k).toNat (by omega)
    have h5 : ¬ nrI B p n ((B.2.2 2 k).toNat : Int) k = true := cnt_zero h4 k h1
    exfalso
    apply h5
    have e : ((B.2.2 2 k).toNat : Int) = B.2.2 2 k := by omega
    rw [e]
    simp [nrI, h2, ap_self, hn]
  · exact q.1
theorem gh_y {mm : Mem} {B : Bk} {p v : Int} {k : Nat} (hq : ∀ q : Int → Bool, cnt (fun i => q (mm.1 92 i)) (cnt (nmI B p) k) = cnt (fun j => nmI B p j && q (B.2.2 2 j)) k) (hr : ∀ i, i < cnt (nmI B p) k → 0 ≤ mm.1 92 i ∧ mm.1 92 i ≤ 255) (q : nmI B p k = true) (hv : v = B.2.2 2 k) (hv2 : 0 ≤ v ∧ v ≤ 255) : (∀ q : Int → Bool, cnt (fun i => q ((setI mm 92 (cnt (nmI B p) k) v).1 92 i)) (cnt (nmI B p) (k + 1)) = cnt (fun j => nmI B p j && q (B.2.2 2 j)) (k + 1)) ∧ (∀ i, i < cnt (nmI B p) (k + 1) → 0 ≤ (setI mm 92 (cnt (nmI B p) k) v).1 92 i ∧ (setI mm 92 (cnt (nmI B p) k) v).1 92 i ≤ 255) := by
  have e0 : (setI mm 92 (cnt (nmI B p) k) v).1 92 (cnt (nmI B p) k) = v := by simp only [setI]; rw [if_pos (by simp)]
  have e9 : ∀ i, i < cnt (nmI B p) k → (setI mm 92 (cnt (nmI B p) k) v).1 92 i = mm.1 92 i := fun i hi => by simp only [setI]; rw [if_neg (by omega)]
  refine ⟨fun qq => ?_, fun i hi => ?_⟩
  · rw [cnt_y q]
    have e1 : cnt (fun i => qq ((setI mm 92 (cnt (nmI B p) k) v).1 92 i)) (cnt (nmI B p) k) = cnt (fun i => qq (mm.1 92 i)) (cnt (nmI B p) k) := cnt_congr (fun j hj => by rw [e9 j hj])
    have e2 : ∀ (f : Nat → Bool) n, cnt f (n + 1) = cnt f n + (if f n = true then 1 else 0) := fun f n => rfl
    rw [e2, e2, e1, hq qq]
    rw [e0, q, Bool.true_and, hv]
  · rw [cnt_y q] at hi
    by_cases e : i = cnt (nmI B p) k
    · subst e; rw [e0]; exact hv2
    · rw [e9 i (by omega)]; exact hr i (by omega)
section
variable {Γ : GX} {m : Mem} {B : Bk} {L : Ld} {ch : Cs} {o d : Nat} {Q : Option AV → Shp → Mem → Prop}
theorem c_X10_tallyPersons (hCS : CS o d L B ch m) : C Γ mX10_tallyPersons 1 40 0 0 [vr 0] SH m (QV SH (fun m' => Fr isS m m' ∧ Stn B m' (2 * B.1))) := by
  refine C_of_R rfl (Nat.le_of_ble_eq_true rfl) ?_
  have L2 : ∀ k, k ≤ 2 * B.1 → ∀ mm z, Fr isS m mm → Stn B mm k → z = (k : Int) → R Γ mX10_tallyPersons { frames := 1, cells := 0, slots := 0, locals := 40 } 0 0 (QV SH (fun m' => Fr isS m m' ∧ Stn B m' (2 * B.1))) 0 0 34 [some (vr 0), some (vi z)] [] SH mm := by
    refine up_ind (2 * B.1) (fun k hk ih mm z hf hS hz => ?_)
    replace hCS := hCS.fr hf (fun a q1 q2 => by simp [isS]; omega)
    obtain ⟨hPO, hB, hO, hL, hLO, hC, hCO, hst, hkc⟩ := id hCS
    have hP := hPO.2
    have h5 := hO.1
    refine R_iload_n 35 rfl dX10_tallyPersons_34 rfl ?_
    refine R_aload_n 36 rfl dX10_tallyPersons_35 rfl ?_
    refine R_getP 5 39 rfl dX10_tallyPersons_36 rfl rfl fl_X10_40 (hP _ _ _ rfl) ?_
    refine R_callV_i (M' := mX0_marks) 42 rfl dX10_tallyPersons_39 ml_X10_167 kmX0_marks im_X0_marks se_X0_marks rfl ⟨by decide, rfl⟩ (c_X0_marks hB) rfl rfl ⟨Nat.le_of_ble_eq_true rfl, Nat.le_of_ble_eq_true rfl⟩ (Nat.le_of_ble_eq_true rfl) ⟨Nat.le_of_ble_eq_true rfl, Nat.le_of_ble_eq_true rfl⟩ ?_
    refine R_icmp_ge 45 83 rfl rfl dX10_tallyPersons_42 (by first | assumption | exact ⟨by omega, by omega⟩) (by first | assumption | exact ⟨by omega, by omega⟩) (fun h42 => ?_) (fun h42 => ?_)
    · refine R_return dX10_tallyPersons_83 rfl ?_
      exact QV_mk ⟨hf, by rw [show k = 2 * B.1 by omega] at hS; exact hS⟩
    · have r1 := hO.2.2 k (by omega)
      obtain ⟨s0, s1, s2, s3, s4⟩ := hB.2.2 k (by omega)
      refine R_aload_n 46 rfl dX10_tallyPersons_45 rfl ?_
      refine R_getP 15 49 rfl dX10_tallyPersons_46 rfl rfl fl_X10_98 (hP _ _ _ rfl) ?_
      refine R_aload_n 50 rfl dX10_tallyPersons_49 rfl ?_
      refine R_getP 5 53 rfl dX10_tallyPersons_50 rfl rfl fl_X10_40 (hP _ _ _ rfl) ?_
      refine R_getP 2 56 rfl dX10_tallyPersons_53 rfl rfl fl_X10_196 (hP _ _ _ rfl) ?_
      refine R_iconst 57 rfl dX10_tallyPersons_56 ?_
      refine R_aald 0 58 rfl dX10_tallyPersons_57 rfl rfl (by first | rfl | omega) (by decide) (by decide) (hP _ _ _ rfl) ?_
      refine R_iload_n 59 rfl dX10_tallyPersons_58 rfl ?_
      refine R_iald k 60 rfl dX10_tallyPersons_59 rfl (by first | rfl | omega) (by omega) (by decide) ?_
      refine R_aald (B.2.2 0 k).toNat 61 rfl dX10_tallyPersons_60 rfl rfl (by first | rfl | omega) (by omega) (by decide) (PO_st hPO (by omega)) ?_
      refine R_aload_n 62 rfl dX10_tallyPersons_61 rfl ?_
      refine R_getP 5 65 rfl dX10_tallyPersons_62 rfl rfl fl_X10_40 (hP _ _ _ rfl) ?_
      refine R_getP 2 68 rfl dX10_tallyPersons_65 rfl rfl fl_X10_196 (hP _ _ _ rfl) ?_
      refine R_iconst 69 rfl dX10_tallyPersons_68 ?_
      refine R_aald 3 70 rfl dX10_tallyPersons_69 rfl rfl (by first | rfl | omega) (by decide) (by decide) (hP _ _ _ rfl) ?_
      refine R_iload_n 71 rfl dX10_tallyPersons_70 rfl ?_
      refine R_iald k 72 rfl dX10_tallyPersons_71 rfl (by first | rfl | omega) (by omega) (by decide) ?_
      refine R_dup2 73 rfl dX10_tallyPersons_72 rfl rfl ?_
      refine R_iald (B.2.2 3 k).toNat 74 rfl dX10_tallyPersons_73 (sh_st (by omega)) (by first | rfl | omega) (by omega) (by decide) ?_
      refine R_iconst 75 rfl dX10_tallyPersons_74 ?_
      refine R_iadd 76 rfl dX10_tallyPersons_75 ?_
      refine R_iast (B.2.2 3 k).toNat 77 rfl dX10_tallyPersons_76 (sh_st (by omega)) (by first | rfl | omega) (by omega) (by decide) ?_
      refine R_iinc [_, _] 80 rfl dX10_tallyPersons_77 rfl rfl (by decide) ?_
      refine R_goto 34 rfl dX10_tallyPersons_80 ?_
      refine ih (by omega) _ _ (hf.set (by simp [isS]; omega)) (fun f p q1 q2 => ?_) (by omega)
      have q3 := hS f p q1 q2
      have q4 := hS (B.2.2 0 k).toNat (B.2.2 3 k).toNat (by omega) (by omega)
      by_cases e : f = (B.2.2 0 k).toNat ∧ p = (B.2.2 3 k).toNat
      · obtain ⟨rfl, rfl⟩ := e
        rw [cnt_y (pfI_iff.mpr ⟨by omega, by omega⟩)]
        show (if _ ∧ _ then _ else _) = _
        rw [if_pos ⟨rfl, rfl⟩]; omega
      · rw [cnt_n (fun q => e (by have := pfI_iff.mp q; omega))]
        simp only [setI]
        rw [if_neg (by omega)]
        exact q3
  have L1 : ∀ k, k ≤ 100 → ∀ mm z, Fr isS m mm → (∀ f p, f < 2 → p < k → mm.1 (94 + f) p = 0) → z = (k : Int) → R Γ mX10_tallyPersons { frames := 1, cells := 0, slots := 0, locals := 40 } 0 0 (QV SH (fun m' => Fr isS m m' ∧ Stn B m' (2 * B.1))) 0 0 2 [some (vr 0), some (vi z)] [] SH mm := by
    refine up_ind 100 (fun k hk ih mm z hf hS hz => ?_)
    have hPO := (hCS.fr hf (fun a q1 q2 => by simp [isS]; omega)).1
    have hP := hPO.2
    refine R_iload_n 3 rfl dX10_tallyPersons_2 rfl ?_
    refine R_bipush 5 rfl dX10_tallyPersons_3 (by decide) ?_
    refine R_icmp_gt 8 32 rfl rfl dX10_tallyPersons_5 (by first | assumption | exact ⟨by omega, by omega⟩) (by first | assumption | exact ⟨by omega, by omega⟩) (fun h5 => ?_) (fun h5 => ?_)
    · refine R_iconst 33 rfl dX10_tallyPersons_32 ?_
      refine R_istore_n [_, _] 34 rfl dX10_tallyPersons_33 rfl (by decide) ?_
      exact L2 0 (by omega) _ _ hf (fun f p q1 q2 => by rw [hS f p q1 (by omega)]; rfl) rfl
    · refine R_aload_n 9 rfl dX10_tallyPersons_8 rfl ?_
      refine R_getP 15 12 rfl dX10_tallyPersons_9 rfl rfl fl_X10_98 (hP _ _ _ rfl) ?_
      refine R_iconst 13 rfl dX10_tallyPersons_12 ?_
      refine R_aald 0 14 rfl dX10_tallyPersons_13 rfl rfl (by first | rfl | omega) (by decide) (by decide) (hP _ _ _ rfl) ?_
      refine R_iload_n 15 rfl dX10_tallyPersons_14 rfl ?_
      refine R_iconst 16 rfl dX10_tallyPersons_15 ?_
      refine R_iast k 17 rfl dX10_tallyPersons_16 rfl (by first | rfl | omega) (by omega) (by decide) ?_
      refine R_aload_n 18 rfl dX10_tallyPersons_17 rfl ?_
      refine R_getP 15 21 rfl dX10_tallyPersons_18 rfl rfl fl_X10_98 (hP _ _ _ rfl) ?_
      refine R_iconst 22 rfl dX10_tallyPersons_21 ?_
      refine R_aald 1 23 rfl dX10_tallyPersons_22 rfl rfl (by first | rfl | omega) (by decide) (by decide) (hP _ _ _ rfl) ?_
      refine R_iload_n 24 rfl dX10_tallyPersons_23 rfl ?_
      refine R_iconst 25 rfl dX10_tallyPersons_24 ?_
      refine R_iast k 26 rfl dX10_tallyPersons_25 rfl (by first | rfl | omega) (by omega) (by decide) ?_
      refine R_iinc [_, _] 29 rfl dX10_tallyPersons_26 rfl rfl (by decide) ?_
      refine R_goto 2 rfl dX10_tallyPersons_29 ?_
      refine ih (by omega) _ _ ((hf.set rfl).set rfl) (fun f p q1 q2 => ?_) (by omega)
      rcases (show f = 0 ∨ f = 1 by omega) with rfl | rfl
      all_goals
        by_cases e : p = k
        · subst e; simp [setI]
        · simp [setI, e]; exact hS _ p q1 (by omega)
  refine R_iconst 1 rfl dX10_tallyPersons_0 ?_
  refine R_istore_n [_, _] 2 rfl dX10_tallyPersons_1 rfl (by decide) ?_
  exact L1 0 (by omega) _ _ Fr.rf (fun f p q1 q2 => by omega) rfl
theorem isS_q : ∀ a, isQ a = false → isS a = false := fun a h => by simp [isQ] at h; simp [isS]; omega
theorem is92_q : ∀ a, isQ a = false → is92 a = false := fun a h => by simp [isQ] at h; simp [is92]; omega
theorem is91_q : ∀ a, isQ a = false → is91 a = false := fun a h => by simp [isQ] at h; simp [is91]; omega
theorem mko_le (B : Bk) (p f : Int) : mko B p f ≤ 2 * B.1 := cnt_le _ _
theorem c_X10_twice (w : Int) (hCS : CS o d L B ch m) (hw : rg w) : C Γ mX10_twice 2 80 0 0 [vr 0, vi w] SH m (QI SH (fun z m' => z = (if 0 ≤ w ∧ w ≤ 2 then twc B w else -1) ∧ Fs m m' ∧ CS o d L B ch m')) := by
  refine C_of_R rfl (Nat.le_of_ble_eq_true rfl) ?_
  have Lp : ∀ k, k ≤ 99 → ∀ mm f z (l4 l5 : Option AV), 0 ≤ w ∧ w ≤ 2 → Fr isS m mm → Stn B mm (2 * B.1) → (w ≠ 1 → f = (cnt (twI B w) k : Int)) → (w = 1 → fsA (two B 1) 1 99 = fsA (two B 1) (k + 1) (99 - k)) → z = (k : Int) + 1 → R Γ mX10_twice { frames := 2, cells := 0, slots := 0, locals := 80 } 0 0 (QI SH (fun z m' => z = (if 0 ≤ w ∧ w ≤ 2 then twc B w else -1) ∧ Fs m m' ∧ CS o d L B ch m')) 0 0 19 [some (vr 0), some (vi w), some (vi f), some (vi z), l4, l5] [] SH mm := by
    refine up_ind 99 (fun k hk ih mm f z l4 l5 hw hf hS hf0 hf1 hz => ?_)
    replace hCS := hCS.fr hf (fun a q1 q2 => by simp [isS]; omega)
    have hPO := hCS.1
    have hP := hPO.2
    have h5 := hCS.2.2.1.1
    have e0 := mko_le B ((k + 1 : Nat) : Int) 0
    have e1 := mko_le B ((k + 1 : Nat) : Int) 1
    have e2 := two_iff (B := B) (w := w) (p := k + 1)
    refine R_iload_n 20 rfl dX10_twice_19 rfl ?_
    refine R_bipush 22 rfl dX10_twice_20 (by decide) ?_
    refine R_icmp_gt 25 85 rfl rfl dX10_twice_22 (by first | assumption | exact ⟨by omega, by omega⟩) (by first | assumption | exact ⟨by omega, by omega⟩) (fun h22 => ?_) (fun h22 => ?_)
    · refine R_iload_n 86 rfl dX10_twice_85 rfl ?_
      refine R_iconst 87 rfl dX10_twice_86 ?_
      refine R_icmp_ne 90 95 rfl rfl dX10_twice_87 (by first | assumption | exact ⟨by omega, by omega⟩) (by first | assumption | exact ⟨by omega, by omega⟩) (fun h87 => ?_) (fun h87 => ?_)
      · refine R_iload_n 96 rfl dX10_twice_95 rfl ?_
        refine R_ireturn dX10_twice_96 rfl ?_
        have ek : k = 99 := by omega
        subst ek
        refine QI_mk ⟨?_, hf.s isS_q, hCS⟩
        first
          | rw [if_pos hw, twc, if_pos (by omega), hf1 (by omega)]; rfl
          | rw [if_pos hw, twc, if_neg (by omega), hf0 (by omega)]
      · refine R_bipush 92 rfl dX10_twice_90 (by decide) ?_
        refine R_goto 96 rfl dX10_twice_92 ?_
        refine R_ireturn dX10_twice_96 rfl ?_
        have ek : k = 99 := by omega
        subst ek
        refine QI_mk ⟨?_, hf.s isS_q, hCS⟩
        first
          | rw [if_pos hw, twc, if_pos (by omega), hf1 (by omega)]; rfl
          | rw [if_pos hw, twc, if_neg (by omega), hf0 (by omega)]
    · have s0 : mm.1 94 (k + 1) = (mko B ((k + 1 : Nat) : Int) 0 : Int) := hS 0 (k + 1) (by omega) (by omega)
      have s1 : mm.1 95 (k + 1) = (mko B ((k + 1 : Nat) : Int) 1 : Int) := hS 1 (k + 1) (by omega) (by omega)
      refine R_aload_n 26 rfl dX10_twice_25 rfl ?_
      refine R_getP 15 29 rfl dX10_twice_26 rfl rfl fl_X10_98 (hP _ _ _ rfl) ?_
      refine R_iconst 30 rfl dX10_twice_29 ?_
      refine R_aald 0 31 rfl dX10_twice_30 rfl rfl (by first | rfl | omega) (by decide) (by decide) (hP _ _ _ rfl) ?_
      refine R_iload_n 32 rfl dX10_twice_31 rfl ?_
      refine R_iald (k + 1) 33 rfl dX10_twice_32 rfl (by first | rfl | omega) (by omega) (by decide) ?_
      refine R_istore [_, _, _, _, _, _] 35 rfl dX10_twice_33 rfl (by decide) ?_
      refine R_aload_n 36 rfl dX10_twice_35 rfl ?_
      refine R_getP 15 39 rfl dX10_twice_36 rfl rfl fl_X10_98 (hP _ _ _ rfl) ?_
      refine R_iconst 40 rfl dX10_twice_39 ?_
      refine R_aald 1 41 rfl dX10_twice_40 rfl rfl (by first | rfl | omega) (by decide) (by decide) (hP _ _ _ rfl) ?_
      refine R_iload_n 42 rfl dX10_twice_41 rfl ?_
      refine R_iald (k + 1) 43 rfl dX10_twice_42 rfl (by first | rfl | omega) (by omega) (by decide) ?_
      refine R_istore [_, _, _, _, _, _] 45 rfl dX10_twice_43 rfl (by decide) ?_
      refine R_iload 47 rfl dX10_twice_45 rfl ?_
      refine R_iload 49 rfl dX10_twice_47 rfl ?_
      refine R_iadd 50 rfl dX10_twice_49 ?_
      refine R_iconst 51 rfl dX10_twice_50 ?_
      refine R_icmp_lt 54 79 rfl rfl dX10_twice_51 (by first | assumption | exact ⟨by omega, by omega⟩) (by first | assumption | exact ⟨by omega, by omega⟩) (fun h51 => ?_) (fun h51 => ?_)
      · refine R_iinc [_, _, _, _, _, _] 82 rfl dX10_twice_79 rfl rfl (by decide) ?_
        refine R_goto 19 rfl dX10_twice_82 ?_
        first
          | (have q : twI B w k = true := e2.mpr ⟨by omega, fun _ => ⟨by omega, by omega⟩⟩
             exact ih (by omega) _ _ _ _ _ hw hf hS (fun hh => by rw [hf0 hh, cnt_y q]; rfl) (fun hh => by omega) (by omega))
          | (have q : ¬ twI B w k = true := fun q => by have := e2.mp q; omega
             exact ih (by omega) _ _ _ _ _ hw hf hS (fun hh => by rw [hf0 hh, cnt_n q]) (fun hh => by subst hh; rw [hf1 rfl, show 99 - k = (99 - (k + 1)) + 1 by omega, fsA_st (show ¬ two B 1 (k + 1) = true from q)]) (by omega))
      · refine R_iload_n 55 rfl dX10_twice_54 rfl ?_
        refine R_iconst 56 rfl dX10_twice_55 ?_
        refine R_icmp_ne 59 69 rfl rfl dX10_twice_56 (by first | assumption | exact ⟨by omega, by omega⟩) (by first | assumption | exact ⟨by omega, by omega⟩) (fun h56 => ?_) (fun h56 => ?_)
        · refine R_iload_n 70 rfl dX10_twice_69 rfl ?_
          refine R_iconst 71 rfl dX10_twice_70 ?_
          refine R_icmp_ne 74 76 rfl rfl dX10_twice_71 (by first | assumption | exact ⟨by omega, by omega⟩) (by first | assumption | exact ⟨by omega, by omega⟩) (fun h71 => ?_) (fun h71 => ?_)
          · refine R_iinc [_, _, _, _, _, _] 79 rfl dX10_twice_76 rfl rfl (by decide) ?_
            refine R_iinc [_, _, _, _, _, _] 82 rfl dX10_twice_79 rfl rfl (by decide) ?_
            refine R_goto 19 rfl dX10_twice_82 ?_
            first
              | (have q : twI B w k = true := e2.mpr ⟨by omega, fun _ => ⟨by omega, by omega⟩⟩
                 exact ih (by omega) _ _ _ _ _ hw hf hS (fun hh => by rw [hf0 hh, cnt_y q]; rfl) (fun hh => by omega) (by omega))
              | (have q : ¬ twI B w k = true := fun q => by have := e2.mp q; omega
                 exact ih (by omega) _ _ _ _ _ hw hf hS (fun hh => by rw [hf0 hh, cnt_n q]) (fun hh => by subst hh; rw [hf1 rfl, show 99 - k = (99 - (k + 1)) + 1 by omega, fsA_st (show ¬ two B 1 (k + 1) = true from q)]) (by omega))
          · refine R_iload_n 75 rfl dX10_twice_74 rfl ?_
            refine R_ireturn dX10_twice_75 rfl ?_
            refine QI_mk ⟨?_, hf.s isS_q, hCS⟩
            rw [if_pos hw, twc, if_pos (by omega), hf1 (by omega), show 99 - k = (99 - (k + 1)) + 1 by omega, fsA_go (two_iff.mpr ⟨by omega, fun hh => by omega⟩)]
            omega
        · refine R_iload 61 rfl dX10_twice_59 rfl ?_
          refine R_if_le 64 79 rfl rfl dX10_twice_61 (by first | assumption | exact ⟨by omega, by omega⟩) (fun h61 => ?_) (fun h61 => ?_)
          · refine R_iinc [_, _, _, _, _, _] 82 rfl dX10_twice_79 rfl rfl (by decide) ?_
            refine R_goto 19 rfl dX10_twice_82 ?_
            first
              | (have q : twI B w k = true := e2.mpr ⟨by omega, fun _ => ⟨by omega, by omega⟩⟩
                 exact ih (by omega) _ _ _ _ _ hw hf hS (fun hh => by rw [hf0 hh, cnt_y q]; rfl) (fun hh => by omega) (by omega))
              | (have q : ¬ twI B w k = true := fun q => by have := e2.mp q; omega
                 exact ih (by omega) _ _ _ _ _ hw hf hS (fun hh => by rw [hf0 hh, cnt_n q]) (fun hh => by subst hh; rw [hf1 rfl, show 99 - k = (99 - (k + 1)) + 1 by omega, fsA_st (show ¬ two B 1 (k + 1) = true from q)]) (by omega))
          · refine R_iload 66 rfl dX10_twice_64 rfl ?_
            refine R_if_le 69 79 rfl rfl dX10_twice_66 (by first | assumption | exact ⟨by omega, by omega⟩) (fun h66 => ?_) (fun h66 => ?_)
            · refine R_iinc [_, _, _, _, _, _] 82 rfl dX10_twice_79 rfl rfl (by decide) ?_
              refine R_goto 19 rfl dX10_twice_82 ?_
              first
                | (have q : twI B w k = true := e2.mpr ⟨by omega, fun _ => ⟨by omega, by omega⟩⟩
                   exact ih (by omega) _ _ _ _ _ hw hf hS (fun hh => by rw [hf0 hh, cnt_y q]; rfl) (fun hh => by omega) (by omega))
                | (have q : ¬ twI B w k = true := fun q => by have := e2.mp q; omega
                   exact ih (by omega) _ _ _ _ _ hw hf hS (fun hh => by rw [hf0 hh, cnt_n q]) (fun hh => by subst hh; rw [hf1 rfl, show 99 - k = (99 - (k + 1)) + 1 by omega, fsA_st (show ¬ two B 1 (k + 1) = true from q)]) (by omega))
            · refine R_iload_n 70 rfl dX10_twice_69 rfl ?_
              refine R_iconst 71 rfl dX10_twice_70 ?_
              refine R_icmp_ne 74 76 rfl rfl dX10_twice_71 (by first | assumption | exact ⟨by omega, by omega⟩) (by first | assumption | exact ⟨by omega, by omega⟩) (fun h71 => ?_) (fun h71 => ?_)
              · refine R_iinc [_, _, _, _, _, _] 79 rfl dX10_twice_76 rfl rfl (by decide) ?_
                refine R_iinc [_, _, _, _, _, _] 82 rfl dX10_twice_79 rfl rfl (by decide) ?_
                refine R_goto 19 rfl dX10_twice_82 ?_
                first
                  | (have q : twI B w k = true := e2.mpr ⟨by omega, fun _ => ⟨by omega, by omega⟩⟩
                     exact ih (by omega) _ _ _ _ _ hw hf hS (fun hh => by rw [hf0 hh, cnt_y q]; rfl) (fun hh => by omega) (by omega))
                  | (have q : ¬ twI B w k = true := fun q => by have := e2.mp q; omega
                     exact ih (by omega) _ _ _ _ _ hw hf hS (fun hh => by rw [hf0 hh, cnt_n q]) (fun hh => by subst hh; rw [hf1 rfl, show 99 - k = (99 - (k + 1)) + 1 by omega, fsA_st (show ¬ two B 1 (k + 1) = true from q)]) (by omega))
              · refine R_iload_n 75 rfl dX10_twice_74 rfl ?_
                refine R_ireturn dX10_twice_75 rfl ?_
                refine QI_mk ⟨?_, hf.s isS_q, hCS⟩
                rw [if_pos hw, twc, if_pos (by omega), hf1 (by omega), show 99 - k = (99 - (k + 1)) + 1 by omega, fsA_go (two_iff.mpr ⟨by omega, fun hh => by omega⟩)]
                omega
  refine R_iload_n 1 rfl dX10_twice_0 rfl ?_
  refine R_iconst 2 rfl dX10_twice_1 ?_
  refine R_iconst 3 rfl dX10_twice_2 ?_
  refine R_callS_i (M' := mX10_within) 6 rfl dX10_twice_3 ml_X10_108 kmX10_within st_X10_within (c_X10_within _ _ _ (by first | assumption | exact ⟨by omega, by omega⟩) (by first | assumption | exact ⟨by omega, by omega⟩) (by first | assumption | exact ⟨by omega, by omega⟩)) rfl rfl ⟨Nat.le_of_ble_eq_true rfl, Nat.le_of_ble_eq_true rfl⟩ (Nat.le_of_ble_eq_true rfl) ⟨Nat.le_of_ble_eq_true rfl, Nat.le_of_ble_eq_true rfl⟩ ?_
  refine R_ifp_ne 9 11 rfl rfl dX10_twice_6 (fun h6 => ?_) (fun h6 => ?_)
  · refine R_aload_n 12 rfl dX10_twice_11 rfl ?_
    refine R_callV_V (M' := mX10_tallyPersons) 15 rfl dX10_twice_12 ml_X10_337 kmX10_tallyPersons im_X10_tallyPersons se_X10_tallyPersons rfl ⟨by decide, rfl⟩ (c_X10_tallyPersons hCS) rfl rfl ⟨Nat.le_of_ble_eq_true rfl, Nat.le_of_ble_eq_true rfl⟩ (Nat.le_of_ble_eq_true rfl) ⟨Nat.le_of_ble_eq_true rfl, Nat.le_of_ble_eq_true rfl⟩ ?_
    rintro m12 h12
    refine R_iconst 16 rfl dX10_twice_15 ?_
    refine R_istore_n [_, _, _, _, _, _] 17 rfl dX10_twice_16 rfl (by decide) ?_
    refine R_iconst 18 rfl dX10_twice_17 ?_
    refine R_istore_n [_, _, _, _, _, _] 19 rfl dX10_twice_18 rfl (by decide) ?_
    exact Lp 0 (by omega) _ _ _ _ _ (by omega) h12.1 h12.2 (fun _ => rfl) (fun _ => rfl) rfl
  · refine R_iconst 10 rfl dX10_twice_9 ?_
    refine R_ireturn dX10_twice_10 rfl ?_
    exact QI_mk ⟨by rw [if_neg (by omega)], Fs.rf, hCS⟩
theorem c_X10_gatherHands (p : Int) (hCS : CS o d L B ch m) (hp : rg p) : C Γ mX10_gatherHands 1 40 0 0 [vr 0, vi p] SH m (QI SH (fun z m' => z = (cnt (nmI B p) (2 * B.1) : Int) ∧ Fr is92 m m' ∧ (∀ q : Int → Bool, cnt (fun i => q (m'.1 92 i)) (cnt (nmI B p) (2 * B.1)) = cnt (fun k => nmI B p k && q (B.2.2 2 k)) (2 * B.1)) ∧ (∀ i, i < cnt (nmI B p) (2 * B.1) → 0 ≤ m'.1 92 i ∧ m'.1 92 i ≤ 255))) := by
  refine C_of_R rfl (Nat.le_of_ble_eq_true rfl) ?_
  have Lp : ∀ k, k ≤ 2 * B.1 → ∀ mm a z, Fr is92 m mm → a = (cnt (nmI B p) k : Int) → (∀ q : Int → Bool, cnt (fun i => q (mm.1 92 i)) (cnt (nmI B p) k) = cnt (fun j => nmI B p j && q (B.2.2 2 j)) k) → (∀ i, i < cnt (nmI B p) k → 0 ≤ mm.1 92 i ∧ mm.1 92 i ≤ 255) → z = (k : Int) → R Γ mX10_gatherHands { frames := 1, cells := 0, slots := 0, locals := 40 } 0 0 (QI SH (fun z m' => z = (cnt (nmI B p) (2 * B.1) : Int) ∧ Fr is92 m m' ∧ (∀ q : Int → Bool, cnt (fun i => q (m'.1 92 i)) (cnt (nmI B p) (2 * B.1)) = cnt (fun k => nmI B p k && q (B.2.2 2 k)) (2 * B.1)) ∧ (∀ i, i < cnt (nmI B p) (2 * B.1) → 0 ≤ m'.1 92 i ∧ m'.1 92 i ≤ 255))) 0 0 4 [some (vr 0), some (vi p), some (vi a), some (vi z)] [] SH mm := by
    refine up_ind (2 * B.1) (fun k hk ih mm a z hf ha hq hr hz => ?_)
    replace hCS := hCS.fr hf (fun a q1 q2 => by simp [is92]; omega)
    obtain ⟨hPO, hB, hO, hL, hLO, hC, hCO, hst, hkc⟩ := id hCS
    have hP := hPO.2
    have h5 := hO.1
    have h7 := hLO.1
    have h6 := cnt_le (nmI B p) k
    refine R_iload_n 5 rfl dX10_gatherHands_4 rfl ?_
    refine R_aload_n 6 rfl dX10_gatherHands_5 rfl ?_
    refine R_getP 5 9 rfl dX10_gatherHands_6 rfl rfl fl_X10_40 (hP _ _ _ rfl) ?_
    refine R_callV_i (M' := mX0_marks) 12 rfl dX10_gatherHands_9 ml_X10_167 kmX0_marks im_X0_marks se_X0_marks rfl ⟨by decide, rfl⟩ (c_X0_marks hB) rfl rfl ⟨Nat.le_of_ble_eq_true rfl, Nat.le_of_ble_eq_true rfl⟩ (Nat.le_of_ble_eq_true rfl) ⟨Nat.le_of_ble_eq_true rfl, Nat.le_of_ble_eq_true rfl⟩ ?_
    refine R_icmp_ge 15 73 rfl rfl dX10_gatherHands_12 (by first | assumption | exact ⟨by omega, by omega⟩) (by first | assumption | exact ⟨by omega, by omega⟩) (fun h12 => ?_) (fun h12 => ?_)
    · refine R_iload_n 74 rfl dX10_gatherHands_73 rfl ?_
      refine R_ireturn dX10_gatherHands_74 rfl ?_
      exact QI_mk ⟨by rw [ha, show k = 2 * B.1 by omega], hf, by rw [show k = 2 * B.1 by omega] at hq; exact hq, by rw [show k = 2 * B.1 by omega] at hr; exact hr⟩
    · have r1 := hO.2.1 (k / 2) (by omega)
      have r2 := hB.2.1 (k / 2) (by omega)
      have r3 := hO.2.2 k (by omega)
      obtain ⟨s0, s1, s2, s3, s4⟩ := hB.2.2 k (by omega)
      refine R_aload_n 16 rfl dX10_gatherHands_15 rfl ?_
      refine R_getP 5 19 rfl dX10_gatherHands_16 rfl rfl fl_X10_40 (hP _ _ _ rfl) ?_
      refine R_getP 1 22 rfl dX10_gatherHands_19 rfl rfl fl_X10_202 (hP _ _ _ rfl) ?_
      refine R_iconst 23 rfl dX10_gatherHands_22 ?_
      refine R_aald 0 24 rfl dX10_gatherHands_23 rfl rfl (by first | rfl | omega) (by decide) (by decide) (hP _ _ _ rfl) ?_
      refine R_iload_n 25 rfl dX10_gatherHands_24 rfl ?_
      refine R_iconst 26 rfl dX10_gatherHands_25 ?_
      refine R_idiv_p 27 rfl dX10_gatherHands_26 (by first | assumption | exact ⟨by omega, by omega⟩) (by first | assumption | exact ⟨by omega, by omega⟩) (by omega) (by omega) ?_
      refine R_iald (k / 2) 28 rfl dX10_gatherHands_27 rfl (by first | rfl | omega) (by omega) (by decide) ?_
      refine R_iload_n 29 rfl dX10_gatherHands_28 rfl ?_
      refine R_icmp_ne 32 67 rfl rfl dX10_gatherHands_29 (by first | assumption | exact ⟨by omega, by omega⟩) (by first | assumption | exact ⟨by omega, by omega⟩) (fun h29 => ?_) (fun h29 => ?_)
      · refine R_iinc [_, _, _, _] 70 rfl dX10_gatherHands_67 rfl rfl (by decide) ?_
        refine R_goto 4 rfl dX10_gatherHands_70 ?_
        first
          | (have q : nmI B p k = true := nmI_iff.mpr ⟨by omega, by omega⟩
             have g := gh_y hq hr q s2 (by omega)
             exact ih (by omega) _ _ _ (hf.set rfl) (by rw [cnt_y q]; omega) g.1 g.2 (by omega))
          | (have q : ¬ nmI B p k = true := fun q => by have := nmI_iff.mp q; omega
             refine ih (by omega) _ _ _ hf (by rw [cnt_n q]; exact ha) (fun qq => ?_) (fun i hi => by rw [cnt_n q] at hi; exact hr i hi) (by omega)
             rw [cnt_n q, hq qq, cnt_n (fun w => q (by simp at w; exact w.1))])
      · refine R_aload_n 33 rfl dX10_gatherHands_32 rfl ?_
        refine R_getP 5 36 rfl dX10_gatherHands_33 rfl rfl fl_X10_40 (hP _ _ _ rfl) ?_
        refine R_getP 2 39 rfl dX10_gatherHands_36 rfl rfl fl_X10_196 (hP _ _ _ rfl) ?_
        refine R_iconst 40 rfl dX10_gatherHands_39 ?_
        refine R_aald 0 41 rfl dX10_gatherHands_40 rfl rfl (by first | rfl | omega) (by decide) (by decide) (hP _ _ _ rfl) ?_
        refine R_iload_n 42 rfl dX10_gatherHands_41 rfl ?_
        refine R_iald k 43 rfl dX10_gatherHands_42 rfl (by first | rfl | omega) (by omega) (by decide) ?_
        refine R_iconst 44 rfl dX10_gatherHands_43 ?_
        refine R_icmp_ne 47 67 rfl rfl dX10_gatherHands_44 (by first | assumption | exact ⟨by omega, by omega⟩) (by first | assumption | exact ⟨by omega, by omega⟩) (fun h44 => ?_) (fun h44 => ?_)
        · refine R_iinc [_, _, _, _] 70 rfl dX10_gatherHands_67 rfl rfl (by decide) ?_
          refine R_goto 4 rfl dX10_gatherHands_70 ?_
          first
            | (have q : nmI B p k = true := nmI_iff.mpr ⟨by omega, by omega⟩
               have g := gh_y hq hr q s2 (by omega)
               exact ih (by omega) _ _ _ (hf.set rfl) (by rw [cnt_y q]; omega) g.1 g.2 (by omega))
            | (have q : ¬ nmI B p k = true := fun q => by have := nmI_iff.mp q; omega
               refine ih (by omega) _ _ _ hf (by rw [cnt_n q]; exact ha) (fun qq => ?_) (fun i hi => by rw [cnt_n q] at hi; exact hr i hi) (by omega)
               rw [cnt_n q, hq qq, cnt_n (fun w => q (by simp at w; exact w.1))])
        · refine R_aload_n 48 rfl dX10_gatherHands_47 rfl ?_
          refine R_getP 14 51 rfl dX10_gatherHands_48 rfl rfl fl_X10_92 (hP _ _ _ rfl) ?_
          refine R_iload_n 52 rfl dX10_gatherHands_51 rfl ?_
          refine R_aload_n 53 rfl dX10_gatherHands_52 rfl ?_
          refine R_getP 5 56 rfl dX10_gatherHands_53 rfl rfl fl_X10_40 (hP _ _ _ rfl) ?_
          refine R_getP 2 59 rfl dX10_gatherHands_56 rfl rfl fl_X10_196 (hP _ _ _ rfl) ?_
          refine R_iconst 60 rfl dX10_gatherHands_59 ?_
          refine R_aald 2 61 rfl dX10_gatherHands_60 rfl rfl (by first | rfl | omega) (by decide) (by decide) (hP _ _ _ rfl) ?_
          refine R_iload_n 62 rfl dX10_gatherHands_61 rfl ?_
          refine R_iald k 63 rfl dX10_gatherHands_62 rfl (by first | rfl | omega) (by omega) (by decide) ?_
          refine R_iast (cnt (nmI B p) k) 64 rfl dX10_gatherHands_63 rfl (by first | rfl | omega) (by omega) (by decide) ?_
          refine R_iinc [_, _, _, _] 67 rfl dX10_gatherHands_64 rfl rfl (by decide) ?_
          refine R_iinc [_, _, _, _] 70 rfl dX10_gatherHands_67 rfl rfl (by decide) ?_
          refine R_goto 4 rfl dX10_gatherHands_70 ?_
          first
            | (have q : nmI B p k = true := nmI_iff.mpr ⟨by omega, by omega⟩
               have g := gh_y hq hr q s2 (by omega)
               exact ih (by omega) _ _ _ (hf.set rfl) (by rw [cnt_y q]; omega) g.1 g.2 (by omega))
            | (have q : ¬ nmI B p k = true := fun q => by have := nmI_iff.mp q; omega
               refine ih (by omega) _ _ _ hf (by rw [cnt_n q]; exact ha) (fun qq => ?_) (fun i hi => by rw [cnt_n q] at hi; exact hr i hi) (by omega)
               rw [cnt_n q, hq qq, cnt_n (fun w => q (by simp at w; exact w.1))])
  refine R_iconst 1 rfl dX10_gatherHands_0 ?_
  refine R_istore_n [_, _, _, _] 2 rfl dX10_gatherHands_1 rfl (by decide) ?_
  refine R_iconst 3 rfl dX10_gatherHands_2 ?_
  refine R_istore_n [_, _, _, _] 4 rfl dX10_gatherHands_3 rfl (by decide) ?_
  exact Lp 0 (by omega) _ _ _ Fr.rf rfl (fun q => rfl) (fun i hi => by simp [cnt] at hi) rfl
theorem c_X10_howManyNear (h n z : Int) (k : Nat) (hPO : PO o d m) (hz : z = (k : Int)) (hk : k ≤ 80) (hh : 0 ≤ h ∧ h ≤ 255) (hn : rg n) (hr : ∀ i, i < k → 0 ≤ m.1 92 i ∧ m.1 92 i ≤ 255) : C Γ mX10_howManyNear 2 80 0 0 [vr 0, vi h, vi n, vi z] SH m (Qi SH m (cnt (fun i => decide (ap (m.1 92 i) h ≤ n)) k : Int)) := by
  refine C_of_R rfl (Nat.le_of_ble_eq_true rfl) ?_
  have hP := hPO.2
  have Lp : ∀ j, j ≤ k → ∀ a i, a = (cnt (fun i => decide (ap (m.1 92 i) h ≤ n)) j : Int) → i = (j : Int) → R Γ mX10_howManyNear { frames := 2, cells := 0, slots := 0, locals := 80 } 0 0 (Qi SH m (cnt (fun i => decide (ap (m.1 92 i) h ≤ n)) k : Int)) 0 0 6 [some (vr 0), some (vi h), some (vi n), some (vi z), some (vi a), some (vi i)] [] SH m := by
    refine up_ind k (fun j hj ih a i ha hi => ?_)
    have h1 := ap_rg (m.1 92 j) h
    refine R_iload 8 rfl dX10_howManyNear_6 rfl ?_
    refine R_iload_n 9 rfl dX10_howManyNear_8 rfl ?_
    refine R_icmp_ge 12 36 rfl rfl dX10_howManyNear_9 (by first | assumption | exact ⟨by omega, by omega⟩) (by first | assumption | exact ⟨by omega, by omega⟩) (fun h9 => ?_) (fun h9 => ?_)
    · refine R_iload 38 rfl dX10_howManyNear_36 rfl ?_
      refine R_ireturn dX10_howManyNear_38 rfl ?_
      exact Qi_mk (by rw [ha, show j = k by omega])
    · refine R_aload_n 13 rfl dX10_howManyNear_12 rfl ?_
      refine R_getP 14 16 rfl dX10_howManyNear_13 rfl rfl fl_X10_92 (hP _ _ _ rfl) ?_
      refine R_iload 18 rfl dX10_howManyNear_16 rfl ?_
      refine R_iald j 19 rfl dX10_howManyNear_18 rfl (by first | rfl | omega) (by omega) (by decide) ?_
      refine R_iload_n 20 rfl dX10_howManyNear_19 rfl ?_
      refine R_callS_i (M' := mX10_bitsApart) 23 rfl dX10_howManyNear_20 ml_X10_211 kmX10_bitsApart st_X10_bitsApart (c_X10_bitsApart _ _ (hr j (by omega)) hh) rfl rfl ⟨Nat.le_of_ble_eq_true rfl, Nat.le_of_ble_eq_true rfl⟩ (Nat.le_of_ble_eq_true rfl) ⟨Nat.le_of_ble_eq_true rfl, Nat.le_of_ble_eq_true rfl⟩ ?_
      refine R_iload_n 24 rfl dX10_howManyNear_23 rfl ?_
      refine R_icmp_gt 27 30 rfl rfl dX10_howManyNear_24 (by first | assumption | exact ⟨by omega, by omega⟩) (by first | assumption | exact ⟨by omega, by omega⟩) (fun h24 => ?_) (fun h24 => ?_)
      · refine R_iinc [_, _, _, _, _, _] 33 rfl dX10_howManyNear_30 rfl rfl (by decide) ?_
        refine R_goto 6 rfl dX10_howManyNear_33 ?_
        first | exact ih (by omega) _ _ (by rw [cnt_y (by simp; omega)]; omega) (by omega) | exact ih (by omega) _ _ (by rw [cnt_n (by simp; omega)]; omega) (by omega)
      · refine R_iinc [_, _, _, _, _, _] 30 rfl dX10_howManyNear_27 rfl rfl (by decide) ?_
        refine R_iinc [_, _, _, _, _, _] 33 rfl dX10_howManyNear_30 rfl rfl (by decide) ?_
        refine R_goto 6 rfl dX10_howManyNear_33 ?_
        first | exact ih (by omega) _ _ (by rw [cnt_y (by simp; omega)]; omega) (by omega) | exact ih (by omega) _ _ (by rw [cnt_n (by simp; omega)]; omega) (by omega)
  refine R_iconst 1 rfl dX10_howManyNear_0 ?_
  refine R_istore [_, _, _, _, _, _] 3 rfl dX10_howManyNear_1 rfl (by decide) ?_
  refine R_iconst 4 rfl dX10_howManyNear_3 ?_
  refine R_istore [_, _, _, _, _, _] 6 rfl dX10_howManyNear_4 rfl (by decide) ?_
  exact Lp 0 (by omega) _ _ rfl rfl
theorem c_X10_find (p n w : Int) (hCS : CS o d L B ch m) (hp : rg p) (hn : rg n) (hw : rg w) : C Γ mX10_find 3 120 0 0 [vr 0, vi p, vi n, vi w] SH m (QI SH (fun z m' => z = (if (0 ≤ p ∧ p < L.1 0) ∧ (0 ≤ n ∧ n ≤ 4) ∧ (0 ≤ w ∧ w ≤ 1) then fnd B p n w else -1) ∧ Fs m m' ∧ CS o d L B ch m')) := by
  refine C_of_R rfl (Nat.le_of_ble_eq_true rfl) ?_
  have Lp : ∀ j, j ≤ 256 → ∀ mm b a i z (l8 : Option AV), (0 ≤ p ∧ p < L.1 0) ∧ (0 ≤ n ∧ n ≤ 4) ∧ (0 ≤ w ∧ w ≤ 1) → Fr is92 m mm → 0 < cnt (nmI B p) (2 * B.1) → (∀ q : Int → Bool, cnt (fun i => q (mm.1 92 i)) (cnt (nmI B p) (2 * B.1)) = cnt (fun k => nmI B p k && q (B.2.2 2 k)) (2 * B.1)) → (∀ i, i < cnt (nmI B p) (2 * B.1) → 0 ≤ mm.1 92 i ∧ mm.1 92 i ≤ 255) → z = (cnt (nmI B p) (2 * B.1) : Int) → b = (if fnM B p n j = 0 then 0 else fnB B p n j) → a = (fnM B p n j : Int) → i = (j : Int) → R Γ mX10_find { frames := 3, cells := 0, slots := 0, locals := 120 } 0 0 (QI SH (fun z m' => z = (if (0 ≤ p ∧ p < L.1 0) ∧ (0 ≤ n ∧ n ≤ 4) ∧ (0 ≤ w ∧ w ≤ 1) then fnd B p n w else -1) ∧ Fs m m' ∧ CS o d L B ch m')) 0 0 52 [some (vr 0), some (vi p), some (vi n), some (vi w), some (vi z), some (vi b), some (vi a), some (vi i), l8] [] SH mm := by
    refine up_ind 256 (fun j hj ih mm b a i z l8 hbad hf h0 hq hr hz hb ha hi => ?_)
    replace hCS := hCS.fr hf (fun a q1 q2 => by simp [is92]; omega)
    have hPO := hCS.1
    have hO := hCS.2.2.1
    have h5 := hO.1
    have h6 := cnt_le (nmI B p) (2 * B.1)
    have h7 := fnM_le B p n j
    have h8 : cnt (fun i => decide (ap (mm.1 92 i) (j : Int) ≤ n)) (cnt (nmI B p) (2 * B.1)) = nr B p n j := hq (fun x => decide (ap x (j : Int) ≤ n))
    have h9 : nr B p n j ≤ 2 * B.1 := cnt_le _ _
    subst hi
    refine R_iload 54 rfl dX10_find_52 rfl ?_
    refine R_sipush 57 rfl dX10_find_54 (by decide) ?_
    refine R_icmp_gt 60 92 rfl rfl dX10_find_57 (by first | assumption | exact ⟨by omega, by omega⟩) (by first | assumption | exact ⟨by omega, by omega⟩) (fun h57 => ?_) (fun h57 => ?_)
    · refine R_iload_n 93 rfl dX10_find_92 rfl ?_
      refine R_if_ne 96 101 rfl rfl dX10_find_93 (by first | assumption | exact ⟨by omega, by omega⟩) (fun h93 => ?_) (fun h93 => ?_)
      · refine R_iload 103 rfl dX10_find_101 rfl ?_
        refine R_ireturn dX10_find_103 rfl ?_
        have ej : j = 256 := by omega
        subst ej
        have g1 := nm_some (n := n) hO hbad.2.1.1 h0
        have g2 := fn_rel B p n 256
        refine QI_mk ⟨?_, hf.s is92_q, hCS⟩
        rw [if_pos hbad, fnd]
        first
          | rw [if_pos (by omega), hb, if_neg (by omega)]
          | rw [if_neg (by omega)]; exact ha
      · refine R_iload 98 rfl dX10_find_96 rfl ?_
        refine R_goto 103 rfl dX10_find_98 ?_
        refine R_ireturn dX10_find_103 rfl ?_
        have ej : j = 256 := by omega
        subst ej
        have g1 := nm_some (n := n) hO hbad.2.1.1 h0
        have g2 := fn_rel B p n 256
        refine QI_mk ⟨?_, hf.s is92_q, hCS⟩
        rw [if_pos hbad, fnd]
        first
          | rw [if_pos (by omega), hb, if_neg (by omega)]
          | rw [if_neg (by omega)]; exact ha
    · refine R_aload_n 61 rfl dX10_find_60 rfl ?_
      refine R_iload 63 rfl dX10_find_61 rfl ?_
      refine R_iload_n 64 rfl dX10_find_63 rfl ?_
      refine R_iload 66 rfl dX10_find_64 rfl ?_
      refine R_callV_i (M' := mX10_howManyNear) 69 rfl dX10_find_66 ml_X10_343 kmX10_howManyNear im_X10_howManyNear se_X10_howManyNear rfl ⟨by decide, rfl⟩ (c_X10_howManyNear _ _ _ (cnt (nmI B p) (2 * B.1)) hPO hz (by omega) ⟨by omega, by omega⟩ hn hr) rfl rfl ⟨Nat.le_of_ble_eq_true rfl, Nat.le_of_ble_eq_true rfl⟩ (Nat.le_of_ble_eq_true rfl) ⟨Nat.le_of_ble_eq_true rfl, Nat.le_of_ble_eq_true rfl⟩ ?_
      rw [h8]
      refine R_istore [_, _, _, _, _, _, _, _, _] 71 rfl dX10_find_69 rfl (by decide) ?_
      refine R_iload 73 rfl dX10_find_71 rfl ?_
      refine R_iload 75 rfl dX10_find_73 rfl ?_
      refine R_icmp_le 78 86 rfl rfl dX10_find_75 (by first | assumption | exact ⟨by omega, by omega⟩) (by first | assumption | exact ⟨by omega, by omega⟩) (fun h75 => ?_) (fun h75 => ?_)
      · refine R_iinc [_, _, _, _, _, _, _, _, _] 89 rfl dX10_find_86 rfl rfl (by decide) ?_
        refine R_goto 52 rfl dX10_find_89 ?_
        first
          | exact ih (by omega) _ _ _ _ _ _ hbad hf h0 hq hr hz (by rw [(fn_y (by omega)).1, (fn_y (by omega)).2, if_neg (by omega)]) (by rw [(fn_y (by omega)).1]) (by omega)
          | exact ih (by omega) _ _ _ _ _ _ hbad hf h0 hq hr hz (by rw [(fn_n (by omega)).1, (fn_n (by omega)).2]; exact hb) (by rw [(fn_n (by omega)).1]; exact ha) (by omega)
      · refine R_iload 80 rfl dX10_find_78 rfl ?_
        refine R_istore [_, _, _, _, _, _, _, _, _] 82 rfl dX10_find_80 rfl (by decide) ?_
        refine R_iload 84 rfl dX10_find_82 rfl ?_
        refine R_istore [_, _, _, _, _, _, _, _, _] 86 rfl dX10_find_84 rfl (by decide) ?_
        refine R_iinc [_, _, _, _, _, _, _, _, _] 89 rfl dX10_find_86 rfl rfl (by decide) ?_
        refine R_goto 52 rfl dX10_find_89 ?_
        first
          | exact ih (by omega) _ _ _ _ _ _ hbad hf h0 hq hr hz (by rw [(fn_y (by omega)).1, (fn_y (by omega)).2, if_neg (by omega)]) (by rw [(fn_y (by omega)).1]) (by omega)
          | exact ih (by omega) _ _ _ _ _ _ hbad hf h0 hq hr hz (by rw [(fn_n (by omega)).1, (fn_n (by omega)).2]; exact hb) (by rw [(fn_n (by omega)).1]; exact ha) (by omega)
  refine R_aload_n 1 rfl dX10_find_0 rfl ?_
  refine R_iload_n 2 rfl dX10_find_1 rfl ?_
  refine R_callV_i (M' := mX10_isParish) 5 rfl dX10_find_2 ml_X10_149 kmX10_isParish im_X10_isParish se_X10_isParish rfl ⟨by decide, rfl⟩ (c_X10_isParish _ hCS (by first | assumption | exact ⟨by omega, by omega⟩)) rfl rfl ⟨Nat.le_of_ble_eq_true rfl, Nat.le_of_ble_eq_true rfl⟩ (Nat.le_of_ble_eq_true rfl) ⟨Nat.le_of_ble_eq_true rfl, Nat.le_of_ble_eq_true rfl⟩ ?_
  refine R_ifp_eq 8 26 rfl rfl dX10_find_5 (fun h5 => ?_) (fun h5 => ?_)
  · refine R_iconst 27 rfl dX10_find_26 ?_
    refine R_ireturn dX10_find_27 rfl ?_
    exact QI_mk ⟨by rw [if_neg (by omega)], Fs.rf, hCS⟩
  · refine R_iload_n 9 rfl dX10_find_8 rfl ?_
    refine R_iconst 10 rfl dX10_find_9 ?_
    refine R_iconst 11 rfl dX10_find_10 ?_
    refine R_callS_i (M' := mX10_within) 14 rfl dX10_find_11 ml_X10_108 kmX10_within st_X10_within (c_X10_within _ _ _ (by first | assumption | exact ⟨by omega, by omega⟩) (by first | assumption | exact ⟨by omega, by omega⟩) (by first | assumption | exact ⟨by omega, by omega⟩)) rfl rfl ⟨Nat.le_of_ble_eq_true rfl, Nat.le_of_ble_eq_true rfl⟩ (Nat.le_of_ble_eq_true rfl) ⟨Nat.le_of_ble_eq_true rfl, Nat.le_of_ble_eq_true rfl⟩ ?_
    refine R_ifp_eq 17 26 rfl rfl dX10_find_14 (fun h14 => ?_) (fun h14 => ?_)
    · refine R_iconst 27 rfl dX10_find_26 ?_
      refine R_ireturn dX10_find_27 rfl ?_
      exact QI_mk ⟨by rw [if_neg (by omega)], Fs.rf, hCS⟩
    · refine R_iload_n 18 rfl dX10_find_17 rfl ?_
      refine R_iconst 19 rfl dX10_find_18 ?_
      refine R_iconst 20 rfl dX10_find_19 ?_
      refine R_callS_i (M' := mX10_within) 23 rfl dX10_find_20 ml_X10_108 kmX10_within st_X10_within (c_X10_within _ _ _ (by first | assumption | exact ⟨by omega, by omega⟩) (by first | assumption | exact ⟨by omega, by omega⟩) (by first | assumption | exact ⟨by omega, by omega⟩)) rfl rfl ⟨Nat.le_of_ble_eq_true rfl, Nat.le_of_ble_eq_true rfl⟩ (Nat.le_of_ble_eq_true rfl) ⟨Nat.le_of_ble_eq_true rfl, Nat.le_of_ble_eq_true rfl⟩ ?_
      refine R_ifp_ne 26 28 rfl rfl dX10_find_23 (fun h23 => ?_) (fun h23 => ?_)
      · refine R_aload_n 29 rfl dX10_find_28 rfl ?_
        refine R_iload_n 30 rfl dX10_find_29 rfl ?_
        refine R_callV_I (M' := mX10_gatherHands) 33 rfl dX10_find_30 ml_X10_340 kmX10_gatherHands im_X10_gatherHands se_X10_gatherHands rfl ⟨by decide, rfl⟩ (c_X10_gatherHands _ hCS (by first | assumption | exact ⟨by omega, by omega⟩)) rfl rfl ⟨Nat.le_of_ble_eq_true rfl, Nat.le_of_ble_eq_true rfl⟩ (Nat.le_of_ble_eq_true rfl) ⟨Nat.le_of_ble_eq_true rfl, Nat.le_of_ble_eq_true rfl⟩ ?_
        rintro z30 m30 h30
        have hz30 := h30
        refine R_istore [_, _, _, _, _, _, _, _, _] 35 rfl dX10_find_33 rfl (by decide) ?_
        have g0 : 0 ≤ z30 ∧ z30 ≤ 80 := by have := cnt_le (nmI B p) (2 * B.1); have := hCS.2.2.1.1; omega
        refine R_iload 37 rfl dX10_find_35 rfl ?_
        refine R_if_ne 40 43 rfl rfl dX10_find_37 (by first | assumption | exact ⟨by omega, by omega⟩) (fun h37 => ?_) (fun h37 => ?_)
        · refine R_iconst 44 rfl dX10_find_43 ?_
          refine R_istore [_, _, _, _, _, _, _, _, _] 46 rfl dX10_find_44 rfl (by decide) ?_
          refine R_iconst 47 rfl dX10_find_46 ?_
          refine R_istore [_, _, _, _, _, _, _, _, _] 49 rfl dX10_find_47 rfl (by decide) ?_
          refine R_iconst 50 rfl dX10_find_49 ?_
          refine R_istore [_, _, _, _, _, _, _, _, _] 52 rfl dX10_find_50 rfl (by decide) ?_
          obtain ⟨q1, q2, q3, q4⟩ := h30
          exact Lp 0 (by omega) _ _ _ _ _ _ (by omega) q2 (by omega) q3 q4 q1 rfl rfl rfl
        · refine R_bipush 42 rfl dX10_find_40 (by decide) ?_
          refine R_ireturn dX10_find_42 rfl ?_
          obtain ⟨q1, q2, q3, q4⟩ := h30
          refine QI_mk ⟨?_, q2.s is92_q, hCS.fr q2 (fun a q1 q2 => by simp [is92]; omega)⟩
          rw [if_pos (by omega), fnd]
          have e0 : cnt (nmI B p) (2 * B.1) = 0 := by omega
          have g2 := fn_rel B p n 256
          have g3 : fnB B p n 256 = -4 := by
            rcases g2 with g2 | g2
            · exact g2.2.1
            · exfalso
              have : ∀ h, fnM B p n h = 0 := by
                intro h
                induction h with
                | zero => rfl
                | succ h ih => unfold fnM; rw [nm_none e0 h, ih]; rfl
              have := this 256
              omega
          rw [if_pos (Or.inl g3), g3]
      · refine R_iconst 27 rfl dX10_find_26 ?_
        refine R_ireturn dX10_find_27 rfl ?_
        exact QI_mk ⟨by rw [if_neg (by omega)], Fs.rf, hCS⟩
theorem c_X10_person (p w : Int) (hCS : CS o d L B ch m) (hp : rg p) (hw : rg w) : C Γ mX10_person 3 120 0 0 [vr 0, vi p, vi w] SH m (Qi SH m (if (1 ≤ p ∧ p ≤ 99) ∧ (0 ≤ w ∧ w ≤ 4) then (if w = 0 then (mko B p 1 : Int) + mko B p 0 else if w = 1 then (mko B p 1 : Int) else if w = 2 then pI (chg B p 0 = true) else if w = 3 then pI (chg B p 1 = true) else if mko B p 1 < 2 then -4 else wOut B p (2 * B.1) 0) else -1)) := by
  refine C_of_R rfl (Nat.le_of_ble_eq_true rfl) ?_
  obtain ⟨hPO, hB, hO, hL, hLO, hC, hCO, hst, hkc⟩ := id hCS
  have hP := hPO.2
  have h5 := hO.1
  have h6 := mko_le B p 1
  refine R_iload_n 1 rfl dX10_person_0 rfl ?_
  refine R_iconst 2 rfl dX10_person_1 ?_
  refine R_bipush 4 rfl dX10_person_2 (by decide) ?_
  refine R_callS_i (M' := mX10_within) 7 rfl dX10_person_4 ml_X10_108 kmX10_within st_X10_within (c_X10_within _ _ _ (by first | assumption | exact ⟨by omega, by omega⟩) (by first | assumption | exact ⟨by omega, by omega⟩) (by first | assumption | exact ⟨by omega, by omega⟩)) rfl rfl ⟨Nat.le_of_ble_eq_true rfl, Nat.le_of_ble_eq_true rfl⟩ (Nat.le_of_ble_eq_true rfl) ⟨Nat.le_of_ble_eq_true rfl, Nat.le_of_ble_eq_true rfl⟩ ?_
  refine R_ifp_eq 10 19 rfl rfl dX10_person_7 (fun h7 => ?_) (fun h7 => ?_)
  · refine R_iconst 20 rfl dX10_person_19 ?_
    refine R_ireturn dX10_person_20 rfl ?_
    exact Qi_mk (by rw [if_neg (by omega)])
  · refine R_iload_n 11 rfl dX10_person_10 rfl ?_
    refine R_iconst 12 rfl dX10_person_11 ?_
    refine R_iconst 13 rfl dX10_person_12 ?_
    refine R_callS_i (M' := mX10_within) 16 rfl dX10_person_13 ml_X10_108 kmX10_within st_X10_within (c_X10_within _ _ _ (by first | assumption | exact ⟨by omega, by omega⟩) (by first | assumption | exact ⟨by omega, by omega⟩) (by first | assumption | exact ⟨by omega, by omega⟩)) rfl rfl ⟨Nat.le_of_ble_eq_true rfl, Nat.le_of_ble_eq_true rfl⟩ (Nat.le_of_ble_eq_true rfl) ⟨Nat.le_of_ble_eq_true rfl, Nat.le_of_ble_eq_true rfl⟩ ?_
    refine R_ifp_ne 19 21 rfl rfl dX10_person_16 (fun h16 => ?_) (fun h16 => ?_)
    · refine R_aload_n 22 rfl dX10_person_21 rfl ?_
      refine R_getP 5 25 rfl dX10_person_22 rfl rfl fl_X10_40 (hP _ _ _ rfl) ?_
      refine R_iload_n 26 rfl dX10_person_25 rfl ?_
      refine R_iconst 27 rfl dX10_person_26 ?_
      refine R_callV_i (M' := mX0_marksOf) 30 rfl dX10_person_27 ml_X10_328 kmX0_marksOf im_X0_marksOf se_X0_marksOf rfl ⟨by decide, rfl⟩ (c_X0_marksOf _ _ hPO hB hO hp ⟨by omega, by omega⟩) rfl rfl ⟨Nat.le_of_ble_eq_true rfl, Nat.le_of_ble_eq_true rfl⟩ (Nat.le_of_ble_eq_true rfl) ⟨Nat.le_of_ble_eq_true rfl, Nat.le_of_ble_eq_true rfl⟩ ?_
      refine R_top (b := (mko B p 1 : Int)) rfl ?_
      refine R_istore_n [_, _, _, _] 31 rfl dX10_person_30 rfl (by decide) ?_
      refine R_iload_n 32 rfl dX10_person_31 rfl ?_
      rcases (show w < 0 ∨ 3 < w ∨ w = 0 ∨ w = 1 ∨ w = 2 ∨ w = 3 by omega) with h32 | h32 | rfl | rfl | rfl | rfl
      · refine R_tsOut 114 dX10_person_32 (by first | assumption | exact ⟨by omega, by omega⟩) (by omega) rfl ?_
        refine R_iload_n 115 rfl dX10_person_114 rfl ?_
        refine R_iconst 116 rfl dX10_person_115 ?_
        refine R_icmp_ge 119 124 rfl rfl dX10_person_116 (by first | assumption | exact ⟨by omega, by omega⟩) (by first | assumption | exact ⟨by omega, by omega⟩) (fun h116 => ?_) (fun h116 => ?_)
        · refine R_aload_n 125 rfl dX10_person_124 rfl ?_
          refine R_getP 5 128 rfl dX10_person_125 rfl rfl fl_X10_40 (hP _ _ _ rfl) ?_
          refine R_iload_n 129 rfl dX10_person_128 rfl ?_
          refine R_callV_i (M' := mX0_mostApart) 132 rfl dX10_person_129 ml_X10_334 kmX0_mostApart im_X0_mostApart se_X0_mostApart rfl ⟨by decide, rfl⟩ (c_X0_mostApart _ hPO hB hO hp) rfl rfl ⟨Nat.le_of_ble_eq_true rfl, Nat.le_of_ble_eq_true rfl⟩ (Nat.le_of_ble_eq_true rfl) ⟨Nat.le_of_ble_eq_true rfl, Nat.le_of_ble_eq_true rfl⟩ ?_
          refine R_ireturn dX10_person_132 rfl ?_
          first
            | (exfalso; omega)
            | exact Qi_mk (by rw [if_pos (by omega), if_pos (by omega)]; rfl)
            | exact Qi_mk (by rw [if_pos (by omega), if_neg (by omega), if_pos (by omega)])
            | exact Qi_mk (by rw [if_pos (by omega), if_neg (by omega), if_neg (by omega), if_pos (by omega)]; first | exact pI_1 h87 | exact pI_0 h87)
            | exact Qi_mk (by rw [if_pos (by omega), if_neg (by omega), if_neg (by omega), if_neg (by omega), if_pos (by omega)]; first | exact pI_1 h105 | exact pI_0 h105)
            | exact Qi_mk (by rw [if_pos (by omega), if_neg (by omega), if_neg (by omega), if_neg (by omega), if_neg (by omega), if_pos (by omega)])
            | exact Qi_mk (by rw [if_pos (by omega), if_neg (by omega), if_neg (by omega), if_neg (by omega), if_neg (by omega), if_neg (by omega)])
            | (exfalso; omega)
        · refine R_bipush 121 rfl dX10_person_119 (by decide) ?_
          refine R_goto 132 rfl dX10_person_121 ?_
          refine R_ireturn dX10_person_132 rfl ?_
          first
            | (exfalso; omega)
            | exact Qi_mk (by rw [if_pos (by omega), if_pos (by omega)]; rfl)
            | exact Qi_mk (by rw [if_pos (by omega), if_neg (by omega), if_pos (by omega)])
            | exact Qi_mk (by rw [if_pos (by omega), if_neg (by omega), if_neg (by omega), if_pos (by omega)]; first | exact pI_1 h87 | exact pI_0 h87)
            | exact Qi_mk (by rw [if_pos (by omega), if_neg (by omega), if_neg (by omega), if_neg (by omega), if_pos (by omega)]; first | exact pI_1 h105 | exact pI_0 h105)
            | exact Qi_mk (by rw [if_pos (by omega), if_neg (by omega), if_neg (by omega), if_neg (by omega), if_neg (by omega), if_pos (by omega)])
            | exact Qi_mk (by rw [if_pos (by omega), if_neg (by omega), if_neg (by omega), if_neg (by omega), if_neg (by omega), if_neg (by omega)])
            | (exfalso; omega)
      · refine R_tsOut 114 dX10_person_32 (by first | assumption | exact ⟨by omega, by omega⟩) (by omega) rfl ?_
        refine R_iload_n 115 rfl dX10_person_114 rfl ?_
        refine R_iconst 116 rfl dX10_person_115 ?_
        refine R_icmp_ge 119 124 rfl rfl dX10_person_116 (by first | assumption | exact ⟨by omega, by omega⟩) (by first | assumption | exact ⟨by omega, by omega⟩) (fun h116 => ?_) (fun h116 => ?_)
        · refine R_aload_n 125 rfl dX10_person_124 rfl ?_
          refine R_getP 5 128 rfl dX10_person_125 rfl rfl fl_X10_40 (hP _ _ _ rfl) ?_
          refine R_iload_n 129 rfl dX10_person_128 rfl ?_
          refine R_callV_i (M' := mX0_mostApart) 132 rfl dX10_person_129 ml_X10_334 kmX0_mostApart im_X0_mostApart se_X0_mostApart rfl ⟨by decide, rfl⟩ (c_X0_mostApart _ hPO hB hO hp) rfl rfl ⟨Nat.le_of_ble_eq_true rfl, Nat.le_of_ble_eq_true rfl⟩ (Nat.le_of_ble_eq_true rfl) ⟨Nat.le_of_ble_eq_true rfl, Nat.le_of_ble_eq_true rfl⟩ ?_
          refine R_ireturn dX10_person_132 rfl ?_
          first
            | (exfalso; omega)
            | exact Qi_mk (by rw [if_pos (by omega), if_pos (by omega)]; rfl)
            | exact Qi_mk (by rw [if_pos (by omega), if_neg (by omega), if_pos (by omega)])
            | exact Qi_mk (by rw [if_pos (by omega), if_neg (by omega), if_neg (by omega), if_pos (by omega)]; first | exact pI_1 h87 | exact pI_0 h87)
            | exact Qi_mk (by rw [if_pos (by omega), if_neg (by omega), if_neg (by omega), if_neg (by omega), if_pos (by omega)]; first | exact pI_1 h105 | exact pI_0 h105)
            | exact Qi_mk (by rw [if_pos (by omega), if_neg (by omega), if_neg (by omega), if_neg (by omega), if_neg (by omega), if_pos (by omega)])
            | exact Qi_mk (by rw [if_pos (by omega), if_neg (by omega), if_neg (by omega), if_neg (by omega), if_neg (by omega), if_neg (by omega)])
            | (exfalso; omega)
        · refine R_bipush 121 rfl dX10_person_119 (by decide) ?_
          refine R_goto 132 rfl dX10_person_121 ?_
          refine R_ireturn dX10_person_132 rfl ?_
          first
            | (exfalso; omega)
            | exact Qi_mk (by rw [if_pos (by omega), if_pos (by omega)]; rfl)
            | exact Qi_mk (by rw [if_pos (by omega), if_neg (by omega), if_pos (by omega)])
            | exact Qi_mk (by rw [if_pos (by omega), if_neg (by omega), if_neg (by omega), if_pos (by omega)]; first | exact pI_1 h87 | exact pI_0 h87)
            | exact Qi_mk (by rw [if_pos (by omega), if_neg (by omega), if_neg (by omega), if_neg (by omega), if_pos (by omega)]; first | exact pI_1 h105 | exact pI_0 h105)
            | exact Qi_mk (by rw [if_pos (by omega), if_neg (by omega), if_neg (by omega), if_neg (by omega), if_neg (by omega), if_pos (by omega)])
            | exact Qi_mk (by rw [if_pos (by omega), if_neg (by omega), if_neg (by omega), if_neg (by omega), if_neg (by omega), if_neg (by omega)])
            | (exfalso; omega)
      · refine R_tsIn 64 dX10_person_32 ⟨by omega, by omega⟩ (by omega) (by omega) rfl rfl ?_
        refine R_iload_n 65 rfl dX10_person_64 rfl ?_
        refine R_aload_n 66 rfl dX10_person_65 rfl ?_
        refine R_getP 5 69 rfl dX10_person_66 rfl rfl fl_X10_40 (hP _ _ _ rfl) ?_
        refine R_iload_n 70 rfl dX10_person_69 rfl ?_
        refine R_iconst 71 rfl dX10_person_70 ?_
        refine R_callV_i (M' := mX0_marksOf) 74 rfl dX10_person_71 ml_X10_328 kmX0_marksOf im_X0_marksOf se_X0_marksOf rfl ⟨by decide, rfl⟩ (c_X0_marksOf _ _ hPO hB hO hp ⟨by omega, by omega⟩) rfl rfl ⟨Nat.le_of_ble_eq_true rfl, Nat.le_of_ble_eq_true rfl⟩ (Nat.le_of_ble_eq_true rfl) ⟨Nat.le_of_ble_eq_true rfl, Nat.le_of_ble_eq_true rfl⟩ ?_
        refine R_iadd 75 rfl dX10_person_74 ?_
        refine R_ireturn dX10_person_75 rfl ?_
        first
          | (exfalso; omega)
          | exact Qi_mk (by rw [if_pos (by omega), if_pos (by omega)]; rfl)
          | exact Qi_mk (by rw [if_pos (by omega), if_neg (by omega), if_pos (by omega)])
          | exact Qi_mk (by rw [if_pos (by omega), if_neg (by omega), if_neg (by omega), if_pos (by omega)]; first | exact pI_1 h87 | exact pI_0 h87)
          | exact Qi_mk (by rw [if_pos (by omega), if_neg (by omega), if_neg (by omega), if_neg (by omega), if_pos (by omega)]; first | exact pI_1 h105 | exact pI_0 h105)
          | exact Qi_mk (by rw [if_pos (by omega), if_neg (by omega), if_neg (by omega), if_neg (by omega), if_neg (by omega), if_pos (by omega)])
          | exact Qi_mk (by rw [if_pos (by omega), if_neg (by omega), if_neg (by omega), if_neg (by omega), if_neg (by omega), if_neg (by omega)])
          | (exfalso; omega)
      · refine R_tsIn 76 dX10_person_32 ⟨by omega, by omega⟩ (by omega) (by omega) rfl rfl ?_
        refine R_iload_n 77 rfl dX10_person_76 rfl ?_
        refine R_ireturn dX10_person_77 rfl ?_
        first
          | (exfalso; omega)
          | exact Qi_mk (by rw [if_pos (by omega), if_pos (by omega)]; rfl)
          | exact Qi_mk (by rw [if_pos (by omega), if_neg (by omega), if_pos (by omega)])
          | exact Qi_mk (by rw [if_pos (by omega), if_neg (by omega), if_neg (by omega), if_pos (by omega)]; first | exact pI_1 h87 | exact pI_0 h87)
          | exact Qi_mk (by rw [if_pos (by omega), if_neg (by omega), if_neg (by omega), if_neg (by omega), if_pos (by omega)]; first | exact pI_1 h105 | exact pI_0 h105)
          | exact Qi_mk (by rw [if_pos (by omega), if_neg (by omega), if_neg (by omega), if_neg (by omega), if_neg (by omega), if_pos (by omega)])
          | exact Qi_mk (by rw [if_pos (by omega), if_neg (by omega), if_neg (by omega), if_neg (by omega), if_neg (by omega), if_neg (by omega)])
          | (exfalso; omega)
      · refine R_tsIn 78 dX10_person_32 ⟨by omega, by omega⟩ (by omega) (by omega) rfl rfl ?_
        refine R_aload_n 79 rfl dX10_person_78 rfl ?_
        refine R_getP 5 82 rfl dX10_person_79 rfl rfl fl_X10_40 (hP _ _ _ rfl) ?_
        refine R_iload_n 83 rfl dX10_person_82 rfl ?_
        refine R_iconst 84 rfl dX10_person_83 ?_
        refine R_callV_i (M' := mX0_changedFrom) 87 rfl dX10_person_84 ml_X10_331 kmX0_changedFrom im_X0_changedFrom se_X0_changedFrom rfl ⟨by decide, rfl⟩ (c_X0_changedFrom _ _ hPO hB hO hp ⟨by omega, by omega⟩) rfl rfl ⟨Nat.le_of_ble_eq_true rfl, Nat.le_of_ble_eq_true rfl⟩ (Nat.le_of_ble_eq_true rfl) ⟨Nat.le_of_ble_eq_true rfl, Nat.le_of_ble_eq_true rfl⟩ ?_
        refine R_ifp_eq 90 94 rfl rfl dX10_person_87 (fun h87 => ?_) (fun h87 => ?_)
        · refine R_iconst 95 rfl dX10_person_94 ?_
          refine R_ireturn dX10_person_95 rfl ?_
          first
            | (exfalso; omega)
            | exact Qi_mk (by rw [if_pos (by omega), if_pos (by omega)]; rfl)
            | exact Qi_mk (by rw [if_pos (by omega), if_neg (by omega), if_pos (by omega)])
            | exact Qi_mk (by rw [if_pos (by omega), if_neg (by omega), if_neg (by omega), if_pos (by omega)]; first | exact pI_1 h87 | exact pI_0 h87)
            | exact Qi_mk (by rw [if_pos (by omega), if_neg (by omega), if_neg (by omega), if_neg (by omega), if_pos (by omega)]; first | exact pI_1 h105 | exact pI_0 h105)
            | exact Qi_mk (by rw [if_pos (by omega), if_neg (by omega), if_neg (by omega), if_neg (by omega), if_neg (by omega), if_pos (by omega)])
            | exact Qi_mk (by rw [if_pos (by omega), if_neg (by omega), if_neg (by omega), if_neg (by omega), if_neg (by omega), if_neg (by omega)])
            | (exfalso; omega)
        · refine R_iconst 91 rfl dX10_person_90 ?_
          refine R_goto 95 rfl dX10_person_91 ?_
          refine R_ireturn dX10_person_95 rfl ?_
          first
            | (exfalso; omega)
            | exact Qi_mk (by rw [if_pos (by omega), if_pos (by omega)]; rfl)
            | exact Qi_mk (by rw [if_pos (by omega), if_neg (by omega), if_pos (by omega)])
            | exact Qi_mk (by rw [if_pos (by omega), if_neg (by omega), if_neg (by omega), if_pos (by omega)]; first | exact pI_1 h87 | exact pI_0 h87)
            | exact Qi_mk (by rw [if_pos (by omega), if_neg (by omega), if_neg (by omega), if_neg (by omega), if_pos (by omega)]; first | exact pI_1 h105 | exact pI_0 h105)
            | exact Qi_mk (by rw [if_pos (by omega), if_neg (by omega), if_neg (by omega), if_neg (by omega), if_neg (by omega), if_pos (by omega)])
            | exact Qi_mk (by rw [if_pos (by omega), if_neg (by omega), if_neg (by omega), if_neg (by omega), if_neg (by omega), if_neg (by omega)])
            | (exfalso; omega)
      · refine R_tsIn 96 dX10_person_32 ⟨by omega, by omega⟩ (by omega) (by omega) rfl rfl ?_
        refine R_aload_n 97 rfl dX10_person_96 rfl ?_
        refine R_getP 5 100 rfl dX10_person_97 rfl rfl fl_X10_40 (hP _ _ _ rfl) ?_
        refine R_iload_n 101 rfl dX10_person_100 rfl ?_
        refine R_iconst 102 rfl dX10_person_101 ?_
        refine R_callV_i (M' := mX0_changedFrom) 105 rfl dX10_person_102 ml_X10_331 kmX0_changedFrom im_X0_changedFrom se_X0_changedFrom rfl ⟨by decide, rfl⟩ (c_X0_changedFrom _ _ hPO hB hO hp ⟨by omega, by omega⟩) rfl rfl ⟨Nat.le_of_ble_eq_true rfl, Nat.le_of_ble_eq_true rfl⟩ (Nat.le_of_ble_eq_true rfl) ⟨Nat.le_of_ble_eq_true rfl, Nat.le_of_ble_eq_true rfl⟩ ?_
        refine R_ifp_eq 108 112 rfl rfl dX10_person_105 (fun h105 => ?_) (fun h105 => ?_)
        · refine R_iconst 113 rfl dX10_person_112 ?_
          refine R_ireturn dX10_person_113 rfl ?_
          first
            | (exfalso; omega)
            | exact Qi_mk (by rw [if_pos (by omega), if_pos (by omega)]; rfl)
            | exact Qi_mk (by rw [if_pos (by omega), if_neg (by omega), if_pos (by omega)])
            | exact Qi_mk (by rw [if_pos (by omega), if_neg (by omega), if_neg (by omega), if_pos (by omega)]; first | exact pI_1 h87 | exact pI_0 h87)
            | exact Qi_mk (by rw [if_pos (by omega), if_neg (by omega), if_neg (by omega), if_neg (by omega), if_pos (by omega)]; first | exact pI_1 h105 | exact pI_0 h105)
            | exact Qi_mk (by rw [if_pos (by omega), if_neg (by omega), if_neg (by omega), if_neg (by omega), if_neg (by omega), if_pos (by omega)])
            | exact Qi_mk (by rw [if_pos (by omega), if_neg (by omega), if_neg (by omega), if_neg (by omega), if_neg (by omega), if_neg (by omega)])
            | (exfalso; omega)
        · refine R_iconst 109 rfl dX10_person_108 ?_
          refine R_goto 113 rfl dX10_person_109 ?_
          refine R_ireturn dX10_person_113 rfl ?_
          first
            | (exfalso; omega)
            | exact Qi_mk (by rw [if_pos (by omega), if_pos (by omega)]; rfl)
            | exact Qi_mk (by rw [if_pos (by omega), if_neg (by omega), if_pos (by omega)])
            | exact Qi_mk (by rw [if_pos (by omega), if_neg (by omega), if_neg (by omega), if_pos (by omega)]; first | exact pI_1 h87 | exact pI_0 h87)
            | exact Qi_mk (by rw [if_pos (by omega), if_neg (by omega), if_neg (by omega), if_neg (by omega), if_pos (by omega)]; first | exact pI_1 h105 | exact pI_0 h105)
            | exact Qi_mk (by rw [if_pos (by omega), if_neg (by omega), if_neg (by omega), if_neg (by omega), if_neg (by omega), if_pos (by omega)])
            | exact Qi_mk (by rw [if_pos (by omega), if_neg (by omega), if_neg (by omega), if_neg (by omega), if_neg (by omega), if_neg (by omega)])
            | (exfalso; omega)
    · refine R_iconst 20 rfl dX10_person_19 ?_
      refine R_ireturn dX10_person_20 rfl ?_
      exact Qi_mk (by rw [if_neg (by omega)])
end
