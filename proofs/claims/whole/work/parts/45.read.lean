/-! marriages from a sheet -/
def shFa (s : Sht) (l : Int) : Int := if s.1 < 0 then 1 else if l = s.2.1 then 0 else 3
def shWh (s : Sht) (f n : Int) : Int := if 0 ≤ f ∧ f ≤ s.1 then min n ((s.1 - f) / 5) else 0
def rdT0 (s : Sht) (l n : Int) : Int := if n = 0 then 0 else shFa s l
def rdW (s : Sht) (l f n : Int) : Int := if n = 0 ∨ ¬ rdT0 s l n = 0 then 0 else shWh s f n
def rdT (s : Sht) (l f n : Int) : Int := if rdT0 s l n = 0 ∧ rdW s l f n < n then 2 else rdT0 s l n
def cel (s : Sht) (f : Int) (i j : Nat) : Int := s.2.2 ((f + 5 * (i : Int)).toNat + j)
def rfs (L : Ld) (B : Bk) (s : Sht) (f : Int) : Nat → Nat → Int
  | _, 0 => 0
  | i, c + 1 => if isMrB L (cel s f i 0) (cel s f i 1) (cel s f i 2) (cel s f i 3) (cel s f i 4) = true then (if 40 ≤ B.1 + i then -3 else rfs L B s f (i + 1) c) else -20 - (i : Int)
theorem rfs_s (L : Ld) (B : Bk) (s : Sht) (f : Int) (i c : Nat) : rfs L B s f i (c + 1) = if isMrB L (cel s f i 0) (cel s f i 1) (cel s f i 2) (cel s f i 3) (cel s f i 4) = true then (if 40 ≤ B.1 + i then -3 else rfs L B s f (i + 1) c) else -20 - (i : Int) := rfl
def addN (B : Bk) (s : Sht) (f : Int) : Nat → Bk
  | 0 => B
  | i + 1 => bkAdd (addN B s f i) (cel s f i 0) (cel s f i 1) (cel s f i 2) (cel s f i 3) (cel s f i 4)
theorem rdW_rg {s : Sht} {l f n : Int} (hO : ShOk s) (hn : 0 ≤ n ∧ n ≤ 12) : 0 ≤ rdW s l f n ∧ rdW s l f n ≤ n ∧ (0 < rdW s l f n → 0 ≤ f ∧ f + 5 * rdW s l f n ≤ s.1 ∧ s.1 ≤ 60 ∧ 0 ≤ s.1) := by
  have h1 := hO.1
  unfold rdW
  split
  · omega
  · unfold shWh
    split <;> omega
theorem rfs_ok {L : Ld} {B : Bk} {s : Sht} {f : Int} : ∀ (c i : Nat), rfs L B s f i c = 0 → ∀ j, i ≤ j → j < i + c → isMrB L (cel s f j 0) (cel s f j 1) (cel s f j 2) (cel s f j 3) (cel s f j 4) = true ∧ B.1 + j < 40
  | 0, i, _, j, h1, h2 => by omega
  | c + 1, i, h, j, h1, h2 => by
    unfold rfs at h
    split at h
    · split at h
      · omega
      · by_cases e : j = i
        · subst e; exact ⟨by assumption, by omega⟩
        · exact rfs_ok c (i + 1) h j (by omega) (by omega)
    · omega
theorem addN_n {B : Bk} {s : Sht} {f : Int} : ∀ i, (addN B s f i).1 = B.1 + i
  | 0 => rfl
  | i + 1 => by
    have := addN_n (B := B) (s := s) (f := f) i
    show (addN B s f i).1 + 1 = _
    omega
theorem addN_ok {L : Ld} {B : Bk} {s : Sht} {f : Int} {w : Nat} (hO : BkOk (L.1 0) B) (h : rfs L B s f 0 w = 0) : ∀ i, i ≤ w → BkOk (L.1 0) (addN B s f i)
  | 0, _ => hO
  | i + 1, hi => by
    have h1 := rfs_ok w 0 h i (by omega) (by omega)
    have h2 := isMrB_iff.mp h1.1
    exact bkAdd_k (addN_ok hO h i (by omega)) (by rw [addN_n]; omega) h2.1 h2.2.1 h2.2.2.1 h2.2.2.2.1 h2.2.2.2.2
def rdOk (k l n : Int) : Bool := decide ((0 ≤ k ∧ k ≤ 3) ∧ (0 ≤ l ∧ l ≤ 2) ∧ (0 ≤ n ∧ n ≤ 12))
theorem rdOk_iff {k l n : Int} : rdOk k l n = true ↔ ((0 ≤ k ∧ k ≤ 3) ∧ (0 ≤ l ∧ l ≤ 2) ∧ (0 ≤ n ∧ n ≤ 12)) := by simp [rdOk]
def rdR (L : Ld) (B : Bk) (s : Sht) (l f n : Int) : Int := rfs L B s f 0 (rdW s l f n).toNat
def rdGo (L : Ld) (B : Bk) (S : Nat → Sht) (k l f n : Int) : Bool := rdOk k l n && decide (rdR L B (S k.toNat) l f n = 0)
def a_read (L : Ld) (B : Bk) (S : Nat → Sht) (k l f n : Int) : Int := if rdOk k l n = true then (if rdR L B (S k.toNat) l f n = 0 then rdW (S k.toNat) l f n else rdR L B (S k.toNat) l f n) else -1
section
variable {Γ : GX} {m m' : Mem} {B B' : Bk} {L : Ld} {ch ch' : Cs} {o d : Nat} {T : Tp} {F N : Int} {I : Nat → Im} {S : Nat → Sht} {P : Nat → Bool}
theorem c_X7_faultAs (k : Nat) (l : Int) (s : Sht) (hk : k < 4) (hS : ShC k m s) (hO : ShOk s) (hl : rg l) : C Γ mX7_faultAs 0 0 0 0 [vr (77 + 2 * k), vi l] SH m (Qi SH m (shFa s l)) := by
  refine C_of_R rfl (Nat.le_of_ble_eq_true rfl) ?_
  have h0 := hS.1
  have h1 := hS.2.1
  have h2 := hO.1
  refine R_aload_n 1 rfl dX7_faultAs_0 rfl ?_
  refine R_getI 0 4 rfl dX7_faultAs_1 (sh_sh hk) rfl fl_X7_9 ?_
  refine R_if_ge 7 9 rfl rfl dX7_faultAs_4 (by first | assumption | exact ⟨by omega, by omega⟩) (fun h4 => ?_) (fun h4 => ?_)
  · have h3 := h1 (by omega)
    refine R_iload_n 10 rfl dX7_faultAs_9 rfl ?_
    refine R_aload_n 11 rfl dX7_faultAs_10 rfl ?_
    refine R_getI 1 14 rfl dX7_faultAs_11 (sh_sh hk) rfl fl_X7_15 ?_
    refine R_icmp_ne 17 21 rfl rfl dX7_faultAs_14 (by first | assumption | exact ⟨by omega, by omega⟩) (by first | assumption | exact ⟨by omega, by omega⟩) (fun h14 => ?_) (fun h14 => ?_)
    · refine R_iconst 22 rfl dX7_faultAs_21 ?_
      refine R_ireturn dX7_faultAs_22 rfl ?_
      exact Qi_mk (by unfold shFa; first | rw [if_pos (by omega)] | rw [if_neg (by omega), if_pos (by omega)] | rw [if_neg (by omega), if_neg (by omega)])
    · refine R_iconst 18 rfl dX7_faultAs_17 ?_
      refine R_goto 22 rfl dX7_faultAs_18 ?_
      refine R_ireturn dX7_faultAs_22 rfl ?_
      exact Qi_mk (by unfold shFa; first | rw [if_pos (by omega)] | rw [if_neg (by omega), if_pos (by omega)] | rw [if_neg (by omega), if_neg (by omega)])
  · refine R_iconst 8 rfl dX7_faultAs_7 ?_
    refine R_ireturn dX7_faultAs_8 rfl ?_
    exact Qi_mk (by unfold shFa; first | rw [if_pos (by omega)] | rw [if_neg (by omega), if_pos (by omega)] | rw [if_neg (by omega), if_neg (by omega)])
theorem c_X7_wholeMarriages (k : Nat) (f n : Int) (s : Sht) (hk : k < 4) (hS : ShC k m s) (hO : ShOk s) (hf : rg f) (hn : 0 ≤ n ∧ n ≤ 12) : C Γ mX7_wholeMarriages 1 40 0 0 [vr (77 + 2 * k), vi f, vi n] SH m (Qi SH m (shWh s f n)) := by
  refine C_of_R rfl (Nat.le_of_ble_eq_true rfl) ?_
  have h0 := hS.1
  have h2 := hO.1
  rw [← h0] at h2
  refine R_iload_n 1 rfl dX7_wholeMarriages_0 rfl ?_
  refine R_iconst 2 rfl dX7_wholeMarriages_1 ?_
  refine R_aload_n 3 rfl dX7_wholeMarriages_2 rfl ?_
  refine R_getI 0 6 rfl dX7_wholeMarriages_3 (sh_sh hk) rfl fl_X7_9 ?_
  refine R_callN_i (M' := mX10_within) 9 rfl dX7_wholeMarriages_6 mn_X7_22 kmX10_within st_X10_within (c_X10_within _ _ _ (by first | assumption | exact ⟨by omega, by omega⟩) (by first | assumption | exact ⟨by omega, by omega⟩) (by first | assumption | exact ⟨by omega, by omega⟩)) rfl rfl ⟨Nat.le_of_ble_eq_true rfl, Nat.le_of_ble_eq_true rfl⟩ (Nat.le_of_ble_eq_true rfl) ⟨Nat.le_of_ble_eq_true rfl, Nat.le_of_ble_eq_true rfl⟩ ?_
  refine R_ifp_ne 12 14 rfl rfl dX7_wholeMarriages_9 (fun h9 => ?_) (fun h9 => ?_)
  · refine R_iload_n 15 rfl dX7_wholeMarriages_14 rfl ?_
    refine R_aload_n 16 rfl dX7_wholeMarriages_15 rfl ?_
    refine R_getI 0 19 rfl dX7_wholeMarriages_16 (sh_sh hk) rfl fl_X7_9 ?_
    refine R_iload_n 20 rfl dX7_wholeMarriages_19 rfl ?_
    refine R_isub 21 rfl dX7_wholeMarriages_20 ?_
    refine R_iconst 22 rfl dX7_wholeMarriages_21 ?_
    refine R_idiv_p 23 rfl dX7_wholeMarriages_22 (by first | assumption | exact ⟨by omega, by omega⟩) (by first | assumption | exact ⟨by omega, by omega⟩) (by omega) (by omega) ?_
    refine R_min 26 rfl dX7_wholeMarriages_23 ml_X7_26 (by first | assumption | exact ⟨by omega, by omega⟩) (by first | assumption | exact ⟨by omega, by omega⟩) ⟨Nat.le_of_ble_eq_true rfl, Nat.le_of_ble_eq_true rfl⟩ ⟨Nat.le_of_ble_eq_true rfl, Nat.le_of_ble_eq_true rfl⟩ ?_
    refine R_ireturn dX7_wholeMarriages_26 rfl ?_
    exact Qi_mk (by unfold shWh; rw [← h0]; first | rw [if_pos (by omega)] | rw [if_neg (by omega)])
  · refine R_iconst 13 rfl dX7_wholeMarriages_12 ?_
    refine R_ireturn dX7_wholeMarriages_13 rfl ?_
    exact Qi_mk (by unfold shWh; rw [← h0]; first | rw [if_pos (by omega)] | rw [if_neg (by omega)])
theorem c_X10_refusalOf (k : Nat) (f w : Int) (wn : Nat) (s : Sht) (hCS : CS o d L B ch m) (hk : k < 4) (hS : ShC k m s) (hO : ShOk s) (hf : rg f) (hw : w = (wn : Int)) (hb : wn ≤ 12 ∧ (0 < wn → 0 ≤ f ∧ f + 5 * (wn : Int) ≤ 60)) : C Γ mX10_refusalOf 3 120 0 0 [vr 0, vr (77 + 2 * k), vi f, vi w] SH m (Qi SH m (rfs L B s f 0 wn)) := by
  refine C_of_R rfl (Nat.le_of_ble_eq_true rfl) ?_
  have hPO := hCS.1
  have hP := hPO.2
  have hB0 := hCS.2.1.1
  have hB1 := hCS.2.2.1.1
  have Lp : ∀ i, i ≤ wn → ∀ z x, z = (i : Int) → rfs L B s f i (wn - i) = rfs L B s f 0 wn → R Γ mX10_refusalOf { frames := 3, cells := 0, slots := 0, locals := 120 } 0 0 (Qi SH m (rfs L B s f 0 wn)) 0 0 3 [some (vr 0), some (vr (77 + 2 * k)), some (vi f), some (vi w), some (vi z), x] [] SH m := by
    refine up_ind wn (fun i hi ih z x hz he => ?_)
    refine R_iload 5 rfl dX10_refusalOf_3 rfl ?_
    refine R_iload_n 6 rfl dX10_refusalOf_5 rfl ?_
    refine R_icmp_ge 9 97 rfl rfl dX10_refusalOf_6 (by first | assumption | exact ⟨by omega, by omega⟩) (by first | assumption | exact ⟨by omega, by omega⟩) (fun h6 => ?_) (fun h6 => ?_)
    · refine R_iconst 98 rfl dX10_refusalOf_97 ?_
      refine R_ireturn dX10_refusalOf_98 rfl ?_
      have e9 : wn - i = 0 := by omega
      rw [e9] at he
      exact Qi_mk he
    · have q0 : m.1 (78 + 2 * k) ((f + 5 * (i : Int)).toNat + 0) = cel s f i 0 := hS.2.2 _ (by omega)
      have q1 : m.1 (78 + 2 * k) ((f + 5 * (i : Int)).toNat + 1) = cel s f i 1 := hS.2.2 _ (by omega)
      have q2 : m.1 (78 + 2 * k) ((f + 5 * (i : Int)).toNat + 2) = cel s f i 2 := hS.2.2 _ (by omega)
      have q3 : m.1 (78 + 2 * k) ((f + 5 * (i : Int)).toNat + 3) = cel s f i 3 := hS.2.2 _ (by omega)
      have q4 : m.1 (78 + 2 * k) ((f + 5 * (i : Int)).toNat + 4) = cel s f i 4 := hS.2.2 _ (by omega)
      have r0 : rg (cel s f i 0) := hO.2 _ (by omega)
      have r1 : rg (cel s f i 1) := hO.2 _ (by omega)
      have r2 : rg (cel s f i 2) := hO.2 _ (by omega)
      have r3 : rg (cel s f i 3) := hO.2 _ (by omega)
      have r4 : rg (cel s f i 4) := hO.2 _ (by omega)
      rw [show wn - i = (wn - i - 1) + 1 by omega, rfs_s] at he
      refine R_iload_n 10 rfl dX10_refusalOf_9 rfl ?_
      refine R_iconst 11 rfl dX10_refusalOf_10 ?_
      refine R_iload 13 rfl dX10_refusalOf_11 rfl ?_
      refine R_imul 14 rfl dX10_refusalOf_13 ?_
      refine R_iadd 15 rfl dX10_refusalOf_14 ?_
      refine R_istore [_, _, _, _, _, _] 17 rfl dX10_refusalOf_15 rfl (by decide) ?_
      refine R_aload_n 18 rfl dX10_refusalOf_17 rfl ?_
      refine R_aload_n 19 rfl dX10_refusalOf_18 rfl ?_
      refine R_getP 2 22 rfl dX10_refusalOf_19 (sh_sh hk) rfl fl_X10_441 (PO_sc hPO hk) ?_
      refine R_iload 24 rfl dX10_refusalOf_22 rfl ?_
      refine R_iald ((f + 5 * (i : Int)).toNat + 0) 25 rfl dX10_refusalOf_24 (sh_sc hk) (by first | rfl | omega) (by omega) (by decide) ?_
      refine R_aload_n 26 rfl dX10_refusalOf_25 rfl ?_
      refine R_getP 2 29 rfl dX10_refusalOf_26 (sh_sh hk) rfl fl_X10_441 (PO_sc hPO hk) ?_
      refine R_iload 31 rfl dX10_refusalOf_29 rfl ?_
      refine R_iconst 32 rfl dX10_refusalOf_31 ?_
      refine R_iadd 33 rfl dX10_refusalOf_32 ?_
      refine R_iald ((f + 5 * (i : Int)).toNat + 1) 34 rfl dX10_refusalOf_33 (sh_sc hk) (by first | rfl | omega) (by omega) (by decide) ?_
      refine R_aload_n 35 rfl dX10_refusalOf_34 rfl ?_
      refine R_getP 2 38 rfl dX10_refusalOf_35 (sh_sh hk) rfl fl_X10_441 (PO_sc hPO hk) ?_
      refine R_iload 40 rfl dX10_refusalOf_38 rfl ?_
      refine R_iconst 41 rfl dX10_refusalOf_40 ?_
      refine R_iadd 42 rfl dX10_refusalOf_41 ?_
      refine R_iald ((f + 5 * (i : Int)).toNat + 2) 43 rfl dX10_refusalOf_42 (sh_sc hk) (by first | rfl | omega) (by omega) (by decide) ?_
      refine R_aload_n 44 rfl dX10_refusalOf_43 rfl ?_
      refine R_getP 2 47 rfl dX10_refusalOf_44 (sh_sh hk) rfl fl_X10_441 (PO_sc hPO hk) ?_
      refine R_iload 49 rfl dX10_refusalOf_47 rfl ?_
      refine R_iconst 50 rfl dX10_refusalOf_49 ?_
      refine R_iadd 51 rfl dX10_refusalOf_50 ?_
      refine R_iald ((f + 5 * (i : Int)).toNat + 3) 52 rfl dX10_refusalOf_51 (sh_sc hk) (by first | rfl | omega) (by omega) (by decide) ?_
      refine R_aload_n 53 rfl dX10_refusalOf_52 rfl ?_
      refine R_getP 2 56 rfl dX10_refusalOf_53 (sh_sh hk) rfl fl_X10_441 (PO_sc hPO hk) ?_
      refine R_iload 58 rfl dX10_refusalOf_56 rfl ?_
      refine R_iconst 59 rfl dX10_refusalOf_58 ?_
      refine R_iadd 60 rfl dX10_refusalOf_59 ?_
      refine R_iald ((f + 5 * (i : Int)).toNat + 4) 61 rfl dX10_refusalOf_60 (sh_sc hk) (by first | rfl | omega) (by omega) (by decide) ?_
      rw [q0, q1, q2, q3, q4]
      refine R_callV_i (M' := mX10_isMarriage) 64 rfl dX10_refusalOf_61 ml_X10_175 kmX10_isMarriage im_X10_isMarriage se_X10_isMarriage rfl ⟨by decide, rfl⟩ (c_X10_isMarriage _ _ _ _ _ hCS r0 r1 r2 r3 r4) rfl rfl ⟨Nat.le_of_ble_eq_true rfl, Nat.le_of_ble_eq_true rfl⟩ (Nat.le_of_ble_eq_true rfl) ⟨Nat.le_of_ble_eq_true rfl, Nat.le_of_ble_eq_true rfl⟩ ?_
      refine R_ifp_ne 67 73 rfl rfl dX10_refusalOf_64 (fun h64 => ?_) (fun h64 => ?_)
      · refine R_aload_n 74 rfl dX10_refusalOf_73 rfl ?_
        refine R_getP 5 77 rfl dX10_refusalOf_74 rfl rfl fl_X10_40 (hP _ _ _ rfl) ?_
        refine R_getI 0 80 rfl dX10_refusalOf_77 rfl rfl fl_X10_179 ?_
        refine R_iload 82 rfl dX10_refusalOf_80 rfl ?_
        refine R_iadd 83 rfl dX10_refusalOf_82 ?_
        refine R_bipush 85 rfl dX10_refusalOf_83 (by decide) ?_
        refine R_icmp_lt 88 91 rfl rfl dX10_refusalOf_85 (by first | assumption | exact ⟨by omega, by omega⟩) (by first | assumption | exact ⟨by omega, by omega⟩) (fun h85 => ?_) (fun h85 => ?_)
        · refine R_iinc [_, _, _, _, _, _] 94 rfl dX10_refusalOf_91 rfl rfl (by decide) ?_
          refine R_goto 3 rfl dX10_refusalOf_94 ?_
          rw [if_pos (isMrB_iff.mpr h64), if_neg (by omega), show wn - i - 1 = wn - (i + 1) by omega] at he
          exact ih (by omega) _ _ (by omega) he
        · refine R_bipush 90 rfl dX10_refusalOf_88 (by decide) ?_
          refine R_ireturn dX10_refusalOf_90 rfl ?_
          rw [if_pos (isMrB_iff.mpr h64), if_pos (by omega)] at he
          exact Qi_mk (by omega)
      · refine R_bipush 69 rfl dX10_refusalOf_67 (by decide) ?_
        refine R_iload 71 rfl dX10_refusalOf_69 rfl ?_
        refine R_isub 72 rfl dX10_refusalOf_71 ?_
        refine R_ireturn dX10_refusalOf_72 rfl ?_
        rw [if_neg (fun q => h64 (isMrB_iff.mp q))] at he
        exact Qi_mk (by omega)
  refine R_iconst 1 rfl dX10_refusalOf_0 ?_
  refine R_istore [_, _, _, _, _, _] 3 rfl dX10_refusalOf_1 rfl (by decide) ?_
  exact Lp 0 (by omega) _ _ rfl rfl
theorem c_X10_appendFrom (k : Nat) (f w : Int) (wn : Nat) (s : Sht) (hCS : CS o d L B ch m) (hk : k < 4) (hS : ShC k m s) (hO : ShOk s) (hf : rg f) (hw : w = (wn : Int)) (hb : wn ≤ 12 ∧ (0 < wn → 0 ≤ f ∧ f + 5 * (wn : Int) ≤ 60)) (hn : B.1 + wn ≤ 40) : C Γ mX10_appendFrom 2 80 0 0 [vr 0, vr (77 + 2 * k), vi f, vi w] SH m (QV SH (fun m' => Fr isKB m m' ∧ Bk0 m' (addN B s f wn) ∧ (wn = 0 → m' = m) ∧ (0 < wn → m'.1 41 0 = 1))) := by
  refine C_of_R rfl (Nat.le_of_ble_eq_true rfl) ?_
  have Lp : ∀ i, i ≤ wn → ∀ z x m1, z = (i : Int) → Fr isKB m m1 → Bk0 m1 (addN B s f i) → (i = 0 → m1 = m) → (0 < i → m1.1 41 0 = 1) → R Γ mX10_appendFrom { frames := 2, cells := 0, slots := 0, locals := 80 } 0 0 (QV SH (fun m' => Fr isKB m m' ∧ Bk0 m' (addN B s f wn) ∧ (wn = 0 → m' = m) ∧ (0 < wn → m'.1 41 0 = 1))) 0 0 3 [some (vr 0), some (vr (77 + 2 * k)), some (vi f), some (vi w), some (vi z), x] [] SH m1 := by
    refine up_ind wn (fun i hi ih z x m1 hz hfr hB1 h0 h1 => ?_)
    have hPO := hCS.1.eq hfr.2
    have hP := hPO.2
    have hS1 : ShC k m1 s := hS.eq (fun a j q1 q2 => hfr.1 a j (by simp [isKB]; omega))
    have an := addN_n (B := B) (s := s) (f := f) i
    refine R_iload 5 rfl dX10_appendFrom_3 rfl ?_
    refine R_iload_n 6 rfl dX10_appendFrom_5 rfl ?_
    refine R_icmp_ge 9 82 rfl rfl dX10_appendFrom_6 (by first | assumption | exact ⟨by omega, by omega⟩) (by first | assumption | exact ⟨by omega, by omega⟩) (fun h6 => ?_) (fun h6 => ?_)
    · refine R_return dX10_appendFrom_82 rfl ?_
      have e9 : i = wn := by omega
      subst e9
      exact QV_mk ⟨hfr, hB1, h0, h1⟩
    · have q0 : m1.1 (78 + 2 * k) ((f + 5 * (i : Int)).toNat + 0) = cel s f i 0 := hS1.2.2 _ (by omega)
      have q1 : m1.1 (78 + 2 * k) ((f + 5 * (i : Int)).toNat + 1) = cel s f i 1 := hS1.2.2 _ (by omega)
      have q2 : m1.1 (78 + 2 * k) ((f + 5 * (i : Int)).toNat + 2) = cel s f i 2 := hS1.2.2 _ (by omega)
      have q3 : m1.1 (78 + 2 * k) ((f + 5 * (i : Int)).toNat + 3) = cel s f i 3 := hS1.2.2 _ (by omega)
      have q4 : m1.1 (78 + 2 * k) ((f + 5 * (i : Int)).toNat + 4) = cel s f i 4 := hS1.2.2 _ (by omega)
      refine R_iload_n 10 rfl dX10_appendFrom_9 rfl ?_
      refine R_iconst 11 rfl dX10_appendFrom_10 ?_
      refine R_iload 13 rfl dX10_appendFrom_11 rfl ?_
      refine R_imul 14 rfl dX10_appendFrom_13 ?_
      refine R_iadd 15 rfl dX10_appendFrom_14 ?_
      refine R_istore [_, _, _, _, _, _] 17 rfl dX10_appendFrom_15 rfl (by decide) ?_
      refine R_aload_n 18 rfl dX10_appendFrom_17 rfl ?_
      refine R_getP 5 21 rfl dX10_appendFrom_18 rfl rfl fl_X10_40 (hP _ _ _ rfl) ?_
      refine R_aload_n 22 rfl dX10_appendFrom_21 rfl ?_
      refine R_getP 2 25 rfl dX10_appendFrom_22 (sh_sh hk) rfl fl_X10_441 (PO_sc hPO hk) ?_
      refine R_iload 27 rfl dX10_appendFrom_25 rfl ?_
      refine R_iald ((f + 5 * (i : Int)).toNat + 0) 28 rfl dX10_appendFrom_27 (sh_sc hk) (by first | rfl | omega) (by omega) (by decide) ?_
      refine R_aload_n 29 rfl dX10_appendFrom_28 rfl ?_
      refine R_getP 2 32 rfl dX10_appendFrom_29 (sh_sh hk) rfl fl_X10_441 (PO_sc hPO hk) ?_
      refine R_iload 34 rfl dX10_appendFrom_32 rfl ?_
      refine R_iconst 35 rfl dX10_appendFrom_34 ?_
      refine R_iadd 36 rfl dX10_appendFrom_35 ?_
      refine R_iald ((f + 5 * (i : Int)).toNat + 1) 37 rfl dX10_appendFrom_36 (sh_sc hk) (by first | rfl | omega) (by omega) (by decide) ?_
      refine R_aload_n 38 rfl dX10_appendFrom_37 rfl ?_
      refine R_getP 2 41 rfl dX10_appendFrom_38 (sh_sh hk) rfl fl_X10_441 (PO_sc hPO hk) ?_
      refine R_iload 43 rfl dX10_appendFrom_41 rfl ?_
      refine R_iconst 44 rfl dX10_appendFrom_43 ?_
      refine R_iadd 45 rfl dX10_appendFrom_44 ?_
      refine R_iald ((f + 5 * (i : Int)).toNat + 2) 46 rfl dX10_appendFrom_45 (sh_sc hk) (by first | rfl | omega) (by omega) (by decide) ?_
      refine R_aload_n 47 rfl dX10_appendFrom_46 rfl ?_
      refine R_getP 2 50 rfl dX10_appendFrom_47 (sh_sh hk) rfl fl_X10_441 (PO_sc hPO hk) ?_
      refine R_iload 52 rfl dX10_appendFrom_50 rfl ?_
      refine R_iconst 53 rfl dX10_appendFrom_52 ?_
      refine R_iadd 54 rfl dX10_appendFrom_53 ?_
      refine R_iald ((f + 5 * (i : Int)).toNat + 3) 55 rfl dX10_appendFrom_54 (sh_sc hk) (by first | rfl | omega) (by omega) (by decide) ?_
      refine R_aload_n 56 rfl dX10_appendFrom_55 rfl ?_
      refine R_getP 2 59 rfl dX10_appendFrom_56 (sh_sh hk) rfl fl_X10_441 (PO_sc hPO hk) ?_
      refine R_iload 61 rfl dX10_appendFrom_59 rfl ?_
      refine R_iconst 62 rfl dX10_appendFrom_61 ?_
      refine R_iadd 63 rfl dX10_appendFrom_62 ?_
      refine R_iald ((f + 5 * (i : Int)).toNat + 4) 64 rfl dX10_appendFrom_63 (sh_sc hk) (by first | rfl | omega) (by omega) (by decide) ?_
      rw [q0, q1, q2, q3, q4]
      refine R_callV_i (M' := mX0_append) 67 rfl dX10_appendFrom_64 ml_X10_186 kmX0_append im_X0_append se_X0_append rfl ⟨by decide, rfl⟩ (c_X0_append _ _ _ _ _ hPO hB1 (by omega)) rfl rfl ⟨Nat.le_of_ble_eq_true rfl, Nat.le_of_ble_eq_true rfl⟩ (Nat.le_of_ble_eq_true rfl) ⟨Nat.le_of_ble_eq_true rfl, Nat.le_of_ble_eq_true rfl⟩ ?_
      refine R_pop 68 rfl dX10_appendFrom_67 rfl ?_
      refine R_aload_n 69 rfl dX10_appendFrom_68 rfl ?_
      refine R_getP 6 72 rfl dX10_appendFrom_69 rfl rfl fl_X10_47 (hP _ _ _ rfl) ?_
      refine R_iconst 73 rfl dX10_appendFrom_72 ?_
      refine R_putZ 0 76 rfl dX10_appendFrom_73 rfl rfl fl_X10_182 (by decide) ?_
      refine R_iinc [_, _, _, _, _, _] 79 rfl dX10_appendFrom_76 rfl rfl (by decide) ?_
      refine R_goto 3 rfl dX10_appendFrom_79 ?_
      have f2 := (bkAdd_fr m1 (addN B s f i).1 (cel s f i 0) (cel s f i 1) (cel s f i 2) (cel s f i 3) (cel s f i 4)).wk isBk_KB
      have b2 := bkAdd_ok hB1 (cel s f i 0) (cel s f i 1) (cel s f i 2) (cel s f i 3) (cel s f i 4)
      exact ih (by omega) _ _ _ (by omega) ((hfr.tr f2).set rfl) (b2.fr (F := fun a => decide (a = 41)) (Fr.rf.set rfl) (fun a q1 q2 => by simp; omega)) (fun q => by omega) (fun _ => by simp [setI])
  refine R_iconst 1 rfl dX10_appendFrom_0 ?_
  refine R_istore [_, _, _, _, _, _] 3 rfl dX10_appendFrom_1 rfl (by decide) ?_
  exact Lp 0 (by omega) _ _ _ rfl Fr.rf hCS.2.1 (fun _ => rfl) (fun q => by omega)
theorem Ex.torn {N' : Int} (h : Ex T F I S N m) (hf : Fr isKB m m') (hn : 0 ≤ N' ∧ N' ≤ 3) : Ex T F I S N' (setI m' 0 10 N') := by
  have h2 := h.fr hf isKB_x
  obtain ⟨⟨h1, h1'⟩, h2, ⟨h3, h4, h5, h6⟩, h7, h8, h9⟩ := h2
  have e : ∀ a j, a ≠ 0 ∨ j ≠ 10 → (setI m' 0 10 N').1 a j = m'.1 a j := fun a j q => by simp only [setI]; rw [if_neg (by omega)]
  exact ⟨⟨h1.eq (fun a k q1 q2 => e a k (by omega)), h1'⟩, ⟨by rw [e 0 4 (by omega)]; exact h2.1, h2.2⟩, ⟨h3.eq (fun a k q1 q2 => e a k (by omega)), h4.eq (fun a k q1 q2 => e a k (by omega)), h5, h6⟩, fun k hk => ⟨(h7 k hk).1.eq (fun a j q1 q2 => e a j (by omega)), (h7 k hk).2⟩, by simp [setI], hn⟩
theorem c_X10_read (k l f n : Int) (hCS : CS o d L B ch m) (hEx : Ex T F I S N m) (hk : rg k) (hl : rg l) (hf : rg f) (hn : rg n) : C Γ mX10_read 4 160 0 0 [vr 0, vi k, vi l, vi f, vi n] SH m (QS o d L (if rdGo L B S k l f n = true then addN B (S k.toNat) f (rdW (S k.toNat) l f n).toNat else B) ch T F I S (if rdGo L B S k l f n = true then rdT (S k.toNat) l f n else N) m (a_read L B S k l f n)) := by
  refine C_of_R rfl (Nat.le_of_ble_eq_true rfl) ?_
  have hPO := hCS.1
  have hP := hPO.2
  have hB1 := hCS.2.2.1.1
  rcases Classical.em ((0 ≤ k ∧ k ≤ 3) ∧ (0 ≤ l ∧ l ≤ 2) ∧ (0 ≤ n ∧ n ≤ 12)) with hok | hok
  · obtain ⟨hS, hSO⟩ := hEx.2.2.2.1 k.toNat (by omega)
    have g0 := hS.1
    have g1 := hSO.1
    have hW := rdW_rg (l := l) (f := f) hSO hok.2.2
    have kd := rdOk_iff.mpr hok
    have tr : 0 ≤ rdT (S k.toNat) l f n ∧ rdT (S k.toNat) l f n ≤ 3 := by unfold rdT rdT0 shFa; split <;> (try split) <;> (try split) <;> (try split) <;> omega
    have L91 : ∀ t w, t = rdT (S k.toNat) l f n → w = rdW (S k.toNat) l f n → R Γ mX10_read { frames := 4, cells := 0, slots := 0, locals := 160 } 0 0 (QS o d L (if rdGo L B S k l f n = true then addN B (S k.toNat) f (rdW (S k.toNat) l f n).toNat else B) ch T F I S (if rdGo L B S k l f n = true then rdT (S k.toNat) l f n else N) m (a_read L B S k l f n)) 0 0 91 [some (vr 0), some (vi k), some (vi l), some (vi f), some (vi n), some (vr (77 + 2 * k.toNat)), some (vi t), some (vi w), none] [] SH m := by
      intro t w ht hw
      subst ht
      subst hw
      have rr : -40 ≤ rdR L B (S k.toNat) l f n ∧ rdR L B (S k.toNat) l f n ≤ 0 := by
        have key : ∀ c i, i + c ≤ 20 → -40 ≤ rfs L B (S k.toNat) f i c ∧ rfs L B (S k.toNat) f i c ≤ 0 := by
          intro c
          induction c with
          | zero => intro i _; unfold rfs; omega
          | succ c ih =>
            intro i hi
            have := ih (i + 1) (by omega)
            unfold rfs
            split
            · split <;> omega
            · omega
        exact key _ 0 (by omega)
      refine R_aload_n 92 rfl dX10_read_91 rfl ?_
      refine R_aload 94 rfl dX10_read_92 rfl ?_
      refine R_iload_n 95 rfl dX10_read_94 rfl ?_
      refine R_iload 97 rfl dX10_read_95 rfl ?_
      refine R_callV_i (M' := mX10_refusalOf) 100 rfl dX10_read_97 ml_X10_387 kmX10_refusalOf im_X10_refusalOf se_X10_refusalOf rfl ⟨by decide, rfl⟩ (c_X10_refusalOf k.toNat _ _ (rdW (S k.toNat) l f n).toNat _ hCS (by omega) hS hSO hf (by omega) (by omega)) rfl rfl ⟨Nat.le_of_ble_eq_true rfl, Nat.le_of_ble_eq_true rfl⟩ (Nat.le_of_ble_eq_true rfl) ⟨Nat.le_of_ble_eq_true rfl, Nat.le_of_ble_eq_true rfl⟩ ?_
      refine R_istore [_, _, _, _, _, _, _, _, _] 102 rfl dX10_read_100 rfl (by decide) ?_
      have rr2 := rr
      unfold rdR at rr2
      refine R_iload 104 rfl dX10_read_102 rfl ?_
      refine R_if_eq 107 110 rfl rfl dX10_read_104 (by first | assumption | exact ⟨by omega, by omega⟩) (fun h104 => ?_) (fun h104 => ?_)
      · refine R_aload_n 111 rfl dX10_read_110 rfl ?_
        refine R_aload 113 rfl dX10_read_111 rfl ?_
        refine R_iload_n 114 rfl dX10_read_113 rfl ?_
        refine R_iload 116 rfl dX10_read_114 rfl ?_
        refine R_callV_V (M' := mX10_appendFrom) 119 rfl dX10_read_116 ml_X10_391 kmX10_appendFrom im_X10_appendFrom se_X10_appendFrom rfl ⟨by decide, rfl⟩ (c_X10_appendFrom k.toNat _ _ (rdW (S k.toNat) l f n).toNat _ hCS (by omega) hS hSO hf (by omega) (by omega) (by by_cases q : (rdW (S k.toNat) l f n).toNat = 0; (rw [q]; omega); have := (rfs_ok _ 0 h104 ((rdW (S k.toNat) l f n).toNat - 1) (by omega) (by omega)).2; omega)) rfl rfl ⟨Nat.le_of_ble_eq_true rfl, Nat.le_of_ble_eq_true rfl⟩ (Nat.le_of_ble_eq_true rfl) ⟨Nat.le_of_ble_eq_true rfl, Nat.le_of_ble_eq_true rfl⟩ ?_
        rintro m116 h116
        refine R_aload_n 120 rfl dX10_read_119 rfl ?_
        refine R_iload 122 rfl dX10_read_120 rfl ?_
        refine R_putI 10 125 rfl dX10_read_122 rfl rfl fl_X10_72 ?_
        refine R_iload 127 rfl dX10_read_125 rfl ?_
        refine R_ireturn dX10_read_127 rfl ?_
        have hR : rdR L B (S k.toNat) l f n = 0 := h104
        have hc : rdGo L B S k l f n = true := by unfold rdGo; rw [kd, hR]; rfl
        rw [if_pos hc, if_pos hc]
        obtain ⟨f1, b1, e1, e2⟩ := h116
        have hBk := addN_ok hCS.2.2.1 h104 _ (Nat.le_refl _)
        have f9 : Fr (fun a => decide (a = 0)) m116 (setI m116 0 10 (rdT (S k.toNat) l f n)) := Fr.rf.set rfl
        refine QI_mk ⟨by unfold a_read; rw [if_pos kd, if_pos hR], (f1.h isKB_h).tr (f9.h (fun a q => by simp; omega)), ?_, hEx.torn f1 tr⟩
        refine CS.fr ?_ f9 (fun a q1 q2 => by simp; omega)
        by_cases q : (rdW (S k.toNat) l f n).toNat = 0
        · rw [q]
          rw [e1 q]
          exact hCS
        · exact hCS.mkB f1 isKB_4 rfl rfl b1 hBk (e2 (by omega))
      · refine R_iload 109 rfl dX10_read_107 rfl ?_
        refine R_ireturn dX10_read_109 rfl ?_
        have hR : ¬ rdR L B (S k.toNat) l f n = 0 := h104
        have hc : ¬ rdGo L B S k l f n = true := fun q => by unfold rdGo at q; simp only [Bool.and_eq_true] at q; exact hR (of_decide_eq_true q.2)
        rw [if_neg hc, if_neg hc]
        exact QI_mk ⟨by unfold a_read; rw [if_pos kd, if_neg hR]; rfl, fun _ _ _ => rfl, hCS, hEx⟩
    have e0 : (n = 0 → rdT0 (S k.toNat) l n = 0) ∧ (¬ n = 0 → rdT0 (S k.toNat) l n = shFa (S k.toNat) l) := ⟨fun q => if_pos q, fun q => if_neg q⟩
    have e1 : (n = 0 ∨ ¬ rdT0 (S k.toNat) l n = 0 → rdW (S k.toNat) l f n = 0) ∧ (¬ (n = 0 ∨ ¬ rdT0 (S k.toNat) l n = 0) → rdW (S k.toNat) l f n = shWh (S k.toNat) f n) := ⟨fun q => if_pos q, fun q => if_neg q⟩
    have e2 : (rdT0 (S k.toNat) l n = 0 ∧ rdW (S k.toNat) l f n < n → rdT (S k.toNat) l f n = 2) ∧ (¬ (rdT0 (S k.toNat) l n = 0 ∧ rdW (S k.toNat) l f n < n) → rdT (S k.toNat) l f n = rdT0 (S k.toNat) l n) := ⟨fun q => if_pos q, fun q => if_neg q⟩
    refine R_iload_n 1 rfl dX10_read_0 rfl ?_
    refine R_callS_i (M' := mX10_isSheet) 4 rfl dX10_read_1 ml_X10_368 kmX10_isSheet st_X10_isSheet (c_X10_isSheet _ (by first | assumption | exact ⟨by omega, by omega⟩)) rfl rfl ⟨Nat.le_of_ble_eq_true rfl, Nat.le_of_ble_eq_true rfl⟩ (Nat.le_of_ble_eq_true rfl) ⟨Nat.le_of_ble_eq_true rfl, Nat.le_of_ble_eq_true rfl⟩ ?_
    refine R_ifp_eq 7 25 rfl rfl dX10_read_4 (fun h4 => ?_) (fun h4 => ?_)
    · refine R_iconst 26 rfl dX10_read_25 ?_
      refine R_ireturn dX10_read_26 rfl ?_
      exfalso; omega
    · refine R_iload_n 8 rfl dX10_read_7 rfl ?_
      refine R_callS_i (M' := mX10_isLane) 11 rfl dX10_read_8 ml_X10_371 kmX10_isLane st_X10_isLane (c_X10_isLane _ (by first | assumption | exact ⟨by omega, by omega⟩)) rfl rfl ⟨Nat.le_of_ble_eq_true rfl, Nat.le_of_ble_eq_true rfl⟩ (Nat.le_of_ble_eq_true rfl) ⟨Nat.le_of_ble_eq_true rfl, Nat.le_of_ble_eq_true rfl⟩ ?_
      refine R_ifp_eq 14 25 rfl rfl dX10_read_11 (fun h11 => ?_) (fun h11 => ?_)
      · refine R_iconst 26 rfl dX10_read_25 ?_
        refine R_ireturn dX10_read_26 rfl ?_
        exfalso; omega
      · refine R_iload 16 rfl dX10_read_14 rfl ?_
        refine R_iconst 17 rfl dX10_read_16 ?_
        refine R_bipush 19 rfl dX10_read_17 (by decide) ?_
        refine R_callS_i (M' := mX10_within) 22 rfl dX10_read_19 ml_X10_108 kmX10_within st_X10_within (c_X10_within _ _ _ (by first | assumption | exact ⟨by omega, by omega⟩) (by first | assumption | exact ⟨by omega, by omega⟩) (by first | assumption | exact ⟨by omega, by omega⟩)) rfl rfl ⟨Nat.le_of_ble_eq_true rfl, Nat.le_of_ble_eq_true rfl⟩ (Nat.le_of_ble_eq_true rfl) ⟨Nat.le_of_ble_eq_true rfl, Nat.le_of_ble_eq_true rfl⟩ ?_
        refine R_ifp_ne 25 27 rfl rfl dX10_read_22 (fun h22 => ?_) (fun h22 => ?_)
        · refine R_aload_n 28 rfl dX10_read_27 rfl ?_
          refine R_getP 9 31 rfl dX10_read_28 rfl rfl fl_X10_68 (hP _ _ _ rfl) ?_
          refine R_iload_n 32 rfl dX10_read_31 rfl ?_
          refine R_aald k.toNat 33 rfl dX10_read_32 rfl rfl (by first | rfl | omega) (by omega) (by decide) (PO_sh hPO (by omega)) ?_
          have hfa : 0 ≤ shFa (S k.toNat) l ∧ shFa (S k.toNat) l ≤ 3 := by unfold shFa; split <;> (try split) <;> omega
          refine R_astore [_, _, _, _, _, _, _, _, _] 35 rfl dX10_read_33 rfl (by decide) ?_
          refine R_iload 37 rfl dX10_read_35 rfl ?_
          refine R_if_ne 40 44 rfl rfl dX10_read_37 (by first | assumption | exact ⟨by omega, by omega⟩) (fun h37 => ?_) (fun h37 => ?_)
          · refine R_aload 46 rfl dX10_read_44 rfl ?_
            refine R_iload_n 47 rfl dX10_read_46 rfl ?_
            refine R_callV_i (M' := mX7_faultAs) 50 rfl dX10_read_47 ml_X10_381 kmX7_faultAs im_X7_faultAs se_X7_faultAs (sh_sh (by omega)) ⟨by decide, rfl⟩ (c_X7_faultAs k.toNat _ _ (by omega) hS hSO hl) rfl rfl ⟨Nat.le_of_ble_eq_true rfl, Nat.le_of_ble_eq_true rfl⟩ (Nat.le_of_ble_eq_true rfl) ⟨Nat.le_of_ble_eq_true rfl, Nat.le_of_ble_eq_true rfl⟩ ?_
            refine R_istore [_, _, _, _, _, _, _, _, _] 52 rfl dX10_read_50 rfl (by decide) ?_
            refine R_iload 54 rfl dX10_read_52 rfl ?_
            refine R_if_eq 57 62 rfl rfl dX10_read_54 (by first | assumption | exact ⟨by omega, by omega⟩) (fun h54 => ?_) (fun h54 => ?_)
            · refine R_iconst 63 rfl dX10_read_62 ?_
              refine R_goto 74 rfl dX10_read_63 ?_
              refine R_istore [_, _, _, _, _, _, _, _, _] 76 rfl dX10_read_74 rfl (by decide) ?_
              refine R_iload 78 rfl dX10_read_76 rfl ?_
              refine R_if_ne 81 91 rfl rfl dX10_read_78 (by first | assumption | exact ⟨by omega, by omega⟩) (fun h78 => ?_) (fun h78 => ?_)
              · exact L91 _ _ (by omega) (by omega)
              · refine R_iload 83 rfl dX10_read_81 rfl ?_
                refine R_iload 85 rfl dX10_read_83 rfl ?_
                refine R_icmp_ge 88 91 rfl rfl dX10_read_85 (by first | assumption | exact ⟨by omega, by omega⟩) (by first | assumption | exact ⟨by omega, by omega⟩) (fun h85 => ?_) (fun h85 => ?_)
                · exact L91 _ _ (by omega) (by omega)
                · refine R_iconst 89 rfl dX10_read_88 ?_
                  refine R_istore [_, _, _, _, _, _, _, _, _] 91 rfl dX10_read_89 rfl (by decide) ?_
                  exact L91 _ _ (by omega) (by omega)
            · refine R_iload 59 rfl dX10_read_57 rfl ?_
              refine R_if_eq 62 66 rfl rfl dX10_read_59 (by first | assumption | exact ⟨by omega, by omega⟩) (fun h59 => ?_) (fun h59 => ?_)
              · refine R_aload 68 rfl dX10_read_66 rfl ?_
                refine R_iload_n 69 rfl dX10_read_68 rfl ?_
                refine R_iload 71 rfl dX10_read_69 rfl ?_
                refine R_callV_i (M' := mX7_wholeMarriages) 74 rfl dX10_read_71 ml_X10_384 kmX7_wholeMarriages im_X7_wholeMarriages se_X7_wholeMarriages (sh_sh (by omega)) ⟨by decide, rfl⟩ (c_X7_wholeMarriages k.toNat _ _ _ (by omega) hS hSO hf (by omega)) rfl rfl ⟨Nat.le_of_ble_eq_true rfl, Nat.le_of_ble_eq_true rfl⟩ (Nat.le_of_ble_eq_true rfl) ⟨Nat.le_of_ble_eq_true rfl, Nat.le_of_ble_eq_true rfl⟩ ?_
                refine R_istore [_, _, _, _, _, _, _, _, _] 76 rfl dX10_read_74 rfl (by decide) ?_
                refine R_iload 78 rfl dX10_read_76 rfl ?_
                refine R_if_ne 81 91 rfl rfl dX10_read_78 (by first | assumption | exact ⟨by omega, by omega⟩) (fun h78 => ?_) (fun h78 => ?_)
                · exact L91 _ _ (by omega) (by omega)
                · refine R_iload 83 rfl dX10_read_81 rfl ?_
                  refine R_iload 85 rfl dX10_read_83 rfl ?_
                  refine R_icmp_ge 88 91 rfl rfl dX10_read_85 (by first | assumption | exact ⟨by omega, by omega⟩) (by first | assumption | exact ⟨by omega, by omega⟩) (fun h85 => ?_) (fun h85 => ?_)
                  · exact L91 _ _ (by omega) (by omega)
                  · refine R_iconst 89 rfl dX10_read_88 ?_
                    refine R_istore [_, _, _, _, _, _, _, _, _] 91 rfl dX10_read_89 rfl (by decide) ?_
                    exact L91 _ _ (by omega) (by omega)
              · refine R_iconst 63 rfl dX10_read_62 ?_
                refine R_goto 74 rfl dX10_read_63 ?_
                refine R_istore [_, _, _, _, _, _, _, _, _] 76 rfl dX10_read_74 rfl (by decide) ?_
                refine R_iload 78 rfl dX10_read_76 rfl ?_
                refine R_if_ne 81 91 rfl rfl dX10_read_78 (by first | assumption | exact ⟨by omega, by omega⟩) (fun h78 => ?_) (fun h78 => ?_)
                · exact L91 _ _ (by omega) (by omega)
                · refine R_iload 83 rfl dX10_read_81 rfl ?_
                  refine R_iload 85 rfl dX10_read_83 rfl ?_
                  refine R_icmp_ge 88 91 rfl rfl dX10_read_85 (by first | assumption | exact ⟨by omega, by omega⟩) (by first | assumption | exact ⟨by omega, by omega⟩) (fun h85 => ?_) (fun h85 => ?_)
                  · exact L91 _ _ (by omega) (by omega)
                  · refine R_iconst 89 rfl dX10_read_88 ?_
                    refine R_istore [_, _, _, _, _, _, _, _, _] 91 rfl dX10_read_89 rfl (by decide) ?_
                    exact L91 _ _ (by omega) (by omega)
          · refine R_iconst 41 rfl dX10_read_40 ?_
            refine R_goto 50 rfl dX10_read_41 ?_
            refine R_istore [_, _, _, _, _, _, _, _, _] 52 rfl dX10_read_50 rfl (by decide) ?_
            refine R_iload 54 rfl dX10_read_52 rfl ?_
            refine R_if_eq 57 62 rfl rfl dX10_read_54 (by first | assumption | exact ⟨by omega, by omega⟩) (fun h54 => ?_) (fun h54 => ?_)
            · refine R_iconst 63 rfl dX10_read_62 ?_
              refine R_goto 74 rfl dX10_read_63 ?_
              refine R_istore [_, _, _, _, _, _, _, _, _] 76 rfl dX10_read_74 rfl (by decide) ?_
              refine R_iload 78 rfl dX10_read_76 rfl ?_
              refine R_if_ne 81 91 rfl rfl dX10_read_78 (by first | assumption | exact ⟨by omega, by omega⟩) (fun h78 => ?_) (fun h78 => ?_)
              · exact absurd h78 (by omega)
              refine R_iload 83 rfl dX10_read_81 rfl ?_
              refine R_iload 85 rfl dX10_read_83 rfl ?_
              refine R_icmp_ge 88 91 rfl rfl dX10_read_85 (by first | assumption | exact ⟨by omega, by omega⟩) (by first | assumption | exact ⟨by omega, by omega⟩) (fun h85 => ?_) (fun h85 => ?_)
              · exact L91 _ _ (by omega) (by omega)
              · refine R_iconst 89 rfl dX10_read_88 ?_
                refine R_istore [_, _, _, _, _, _, _, _, _] 91 rfl dX10_read_89 rfl (by decide) ?_
                exact L91 _ _ (by omega) (by omega)
            · refine R_iload 59 rfl dX10_read_57 rfl ?_
              refine R_if_eq 62 66 rfl rfl dX10_read_59 (by first | assumption | exact ⟨by omega, by omega⟩) (fun h59 => ?_) (fun h59 => ?_)
              rotate_left
              · exact absurd h59 (by omega)
              refine R_aload 68 rfl dX10_read_66 rfl ?_
              refine R_iload_n 69 rfl dX10_read_68 rfl ?_
              refine R_iload 71 rfl dX10_read_69 rfl ?_
              refine R_callV_i (M' := mX7_wholeMarriages) 74 rfl dX10_read_71 ml_X10_384 kmX7_wholeMarriages im_X7_wholeMarriages se_X7_wholeMarriages (sh_sh (by omega)) ⟨by decide, rfl⟩ (c_X7_wholeMarriages k.toNat _ _ _ (by omega) hS hSO hf (by omega)) rfl rfl ⟨Nat.le_of_ble_eq_true rfl, Nat.le_of_ble_eq_true rfl⟩ (Nat.le_of_ble_eq_true rfl) ⟨Nat.le_of_ble_eq_true rfl, Nat.le_of_ble_eq_true rfl⟩ ?_
              refine R_istore [_, _, _, _, _, _, _, _, _] 76 rfl dX10_read_74 rfl (by decide) ?_
              refine R_iload 78 rfl dX10_read_76 rfl ?_
              refine R_if_ne 81 91 rfl rfl dX10_read_78 (by first | assumption | exact ⟨by omega, by omega⟩) (fun h78 => ?_) (fun h78 => ?_)
              · exact absurd h78 (by omega)
              refine R_iload 83 rfl dX10_read_81 rfl ?_
              refine R_iload 85 rfl dX10_read_83 rfl ?_
              refine R_icmp_ge 88 91 rfl rfl dX10_read_85 (by first | assumption | exact ⟨by omega, by omega⟩) (by first | assumption | exact ⟨by omega, by omega⟩) (fun h85 => ?_) (fun h85 => ?_)
              · exact L91 _ _ (by omega) (by omega)
              · refine R_iconst 89 rfl dX10_read_88 ?_
                refine R_istore [_, _, _, _, _, _, _, _, _] 91 rfl dX10_read_89 rfl (by decide) ?_
                exact L91 _ _ (by omega) (by omega)
        · refine R_iconst 26 rfl dX10_read_25 ?_
          refine R_ireturn dX10_read_26 rfl ?_
          exfalso; omega
  · have kd : ¬ rdOk k l n = true := fun q => hok (rdOk_iff.mp q)
    have hc : ¬ rdGo L B S k l f n = true := fun q => by unfold rdGo at q; simp only [Bool.and_eq_true] at q; exact kd q.1
    rw [if_neg hc, if_neg hc]
    refine R_iload_n 1 rfl dX10_read_0 rfl ?_
    refine R_callS_i (M' := mX10_isSheet) 4 rfl dX10_read_1 ml_X10_368 kmX10_isSheet st_X10_isSheet (c_X10_isSheet _ (by first | assumption | exact ⟨by omega, by omega⟩)) rfl rfl ⟨Nat.le_of_ble_eq_true rfl, Nat.le_of_ble_eq_true rfl⟩ (Nat.le_of_ble_eq_true rfl) ⟨Nat.le_of_ble_eq_true rfl, Nat.le_of_ble_eq_true rfl⟩ ?_
    refine R_ifp_eq 7 25 rfl rfl dX10_read_4 (fun h4 => ?_) (fun h4 => ?_)
    · refine R_iconst 26 rfl dX10_read_25 ?_
      refine R_ireturn dX10_read_26 rfl ?_
      exact QI_mk ⟨by unfold a_read; rw [if_neg kd], fun _ _ _ => rfl, hCS, hEx⟩
    · refine R_iload_n 8 rfl dX10_read_7 rfl ?_
      refine R_callS_i (M' := mX10_isLane) 11 rfl dX10_read_8 ml_X10_371 kmX10_isLane st_X10_isLane (c_X10_isLane _ (by first | assumption | exact ⟨by omega, by omega⟩)) rfl rfl ⟨Nat.le_of_ble_eq_true rfl, Nat.le_of_ble_eq_true rfl⟩ (Nat.le_of_ble_eq_true rfl) ⟨Nat.le_of_ble_eq_true rfl, Nat.le_of_ble_eq_true rfl⟩ ?_
      refine R_ifp_eq 14 25 rfl rfl dX10_read_11 (fun h11 => ?_) (fun h11 => ?_)
      · refine R_iconst 26 rfl dX10_read_25 ?_
        refine R_ireturn dX10_read_26 rfl ?_
        exact QI_mk ⟨by unfold a_read; rw [if_neg kd], fun _ _ _ => rfl, hCS, hEx⟩
      · refine R_iload 16 rfl dX10_read_14 rfl ?_
        refine R_iconst 17 rfl dX10_read_16 ?_
        refine R_bipush 19 rfl dX10_read_17 (by decide) ?_
        refine R_callS_i (M' := mX10_within) 22 rfl dX10_read_19 ml_X10_108 kmX10_within st_X10_within (c_X10_within _ _ _ (by first | assumption | exact ⟨by omega, by omega⟩) (by first | assumption | exact ⟨by omega, by omega⟩) (by first | assumption | exact ⟨by omega, by omega⟩)) rfl rfl ⟨Nat.le_of_ble_eq_true rfl, Nat.le_of_ble_eq_true rfl⟩ (Nat.le_of_ble_eq_true rfl) ⟨Nat.le_of_ble_eq_true rfl, Nat.le_of_ble_eq_true rfl⟩ ?_
        refine R_ifp_ne 25 27 rfl rfl dX10_read_22 (fun h22 => ?_) (fun h22 => ?_)
        · exfalso; omega
        · refine R_iconst 26 rfl dX10_read_25 ?_
          refine R_ireturn dX10_read_26 rfl ?_
          exact QI_mk ⟨by unfold a_read; rw [if_neg kd], fun _ _ _ => rfl, hCS, hEx⟩
end
