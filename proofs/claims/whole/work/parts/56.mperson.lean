def a_person (B : Bk) (p w : Int) : Int := if (1 ≤ p ∧ p ≤ 99) ∧ (0 ≤ w ∧ w ≤ 4) then (if w = 0 then (mko B p 1 : Int) + mko B p 0 else if w = 1 then (mko B p 1 : Int) else if w = 2 then pI (chg B p 0 = true) else if w = 3 then pI (chg B p 1 = true) else if mko B p 1 < 2 then -4 else wOut B p (2 * B.1) 0) else -1
theorem wIn_zero {B : Bk} {p : Int} {a : Nat} : ∀ (b : Nat) (v : Int), cnt (isNm B p) b = 0 → wIn B p a b v = v
  | 0, v, _ => rfl
  | b + 1, v, h => by
    have h1 : ¬ isNm B p b = true := cnt_zero h b (by omega)
    rw [cnt_n h1] at h
    unfold wIn
    rw [if_neg (fun q => h1 q.2)]
    exact wIn_zero b v h
theorem wIn_max {B : Bk} {p : Int} {a : Nat} (ha : isNm B p a = true) : ∀ (b : Nat) (v v' : Int), 0 < cnt (isNm B p) b → v ≤ 0 → v' ≤ 0 → wIn B p a b v = wIn B p a b v'
  | 0, _, _, h, _, _ => by simp [cnt] at h
  | b + 1, v, v', h, hv, hv' => by
    have r := ap_rg (B.2.2 2 a) (B.2.2 2 b)
    by_cases h1 : isNm B p b = true
    · unfold wIn
      rw [if_pos ⟨ha, h1⟩, if_pos ⟨ha, h1⟩]
      by_cases h2 : 0 < cnt (isNm B p) b
      · rw [wIn_max ha b v v' h2 hv hv']
      · rw [wIn_zero b v (by omega), wIn_zero b v' (by omega)]; omega
    · rw [cnt_n h1] at h
      unfold wIn
      rw [if_neg (fun q => h1 q.2), if_neg (fun q => h1 q.2)]
      exact wIn_max ha b v v' h hv hv'
theorem wOut_two {B : Bk} {p : Int} : ∀ (a : Nat), (2 ≤ cnt (isNm B p) a → wOut B p a (-4) = wOut B p a 0) ∧ (cnt (isNm B p) a < 2 → ∀ v, wOut B p a v = v)
  | 0 => ⟨fun h => by simp [cnt] at h, fun _ _ => rfl⟩
  | a + 1 => by
    have ih := wOut_two (B := B) (p := p) a
    by_cases h1 : isNm B p a = true
    · rw [cnt_y h1]
      refine ⟨fun h => ?_, fun h v => ?_⟩
      · unfold wOut
        by_cases h2 : 2 ≤ cnt (isNm B p) a
        · rw [ih.1 h2]
        · rw [ih.2 (by omega), ih.2 (by omega)]
          exact wIn_max h1 a _ _ (by omega) (by omega) (by omega)
      · unfold wOut
        rw [ih.2 (by omega)]
        exact wIn_zero a v (by omega)
    · rw [cnt_n h1]
      refine ⟨fun h => ?_, fun h v => ?_⟩
      · unfold wOut
        rw [wIn_no h1, wIn_no h1]
        exact ih.1 h
      · unfold wOut
        rw [wIn_no h1]
        exact ih.2 h v
theorem wOut_m4 (B : Bk) (p : Int) : wOut B p (2 * B.1) (-4) = if mko B p 1 < 2 then -4 else wOut B p (2 * B.1) 0 := by
  have h := wOut_two (B := B) (p := p) (2 * B.1)
  have e : mko B p 1 = cnt (isNm B p) (2 * B.1) := rfl
  rw [e]
  split
  · exact h.2 (by assumption) _
  · exact h.1 (by omega)
theorem lt_step {A : Prop} {P : Nat → Prop} {q : Nat} {a a' : Int} (ha : a = 1 ↔ A ∨ ∃ j, j < q ∧ P j) (h : (a' = 1 ∧ (a = 1 ∨ P q)) ∨ (a' = 0 ∧ a ≠ 1 ∧ ¬ P q)) : a' = 1 ↔ A ∨ ∃ j, j < q + 1 ∧ P j := by
  constructor
  · intro h1
    rcases h with ⟨-, h2 | h2⟩ | ⟨h2, -⟩
    · rcases ha.mp h2 with h3 | ⟨j, j1, j2⟩
      · exact Or.inl h3
      · exact Or.inr ⟨j, by omega, j2⟩
    · exact Or.inr ⟨q, by omega, h2⟩
    · omega
  · intro h1
    rcases h with ⟨h2, -⟩ | ⟨-, h2, h3⟩
    · exact h2
    · exfalso
      rcases h1 with h1 | ⟨j, j1, j2⟩
      · exact h2 (ha.mpr (Or.inl h1))
      · by_cases e : j = q
        · subst e; exact h3 j2
        · exact h2 (ha.mpr (Or.inr ⟨j, by omega, j2⟩))
def lrP (B : Bk) (p f l : Int) (i j : Nat) : Prop := B.2.2 3 i = p ∧ B.2.2 3 j = p ∧ B.2.2 0 i = f ∧ B.2.2 0 j = l ∧ B.2.1 1 (i / 2) < B.2.1 1 (j / 2)
theorem chg_lr {B : Bk} {np p f l : Int} (hO : BkOk np B) (hf : (f = 0 ∧ l = 1) ∨ (f = 1 ∧ l = 0)) : chg B p f = true ↔ ∃ i, i < 2 * B.1 ∧ ∃ j, j < 2 * B.1 ∧ lrP B p f l i j := by
  unfold chg
  rw [anyN_iff]
  constructor
  · rintro ⟨i, i1, hi⟩
    obtain ⟨j, j1, hj⟩ := (anyN_iff _ _).mp hi
    have q := of_decide_eq_true hj
    have r := hO.2.2 j j1
    exact ⟨i, i1, j, j1, q.1, q.2.2.1, q.2.1, by omega, q.2.2.2.2⟩
  · rintro ⟨i, i1, j, j1, q1, q2, q3, q4, q5⟩
    exact ⟨i, i1, (anyN_iff _ _).mpr ⟨j, j1, decide_eq_true ⟨q1, q3, q2, by omega, q5⟩⟩⟩
section
variable {Γ : GX} {m m' : Mem} {B B' : Bk} {L : Ld} {ch ch' : Cs}
theorem c_X11_marksOf (p f : Int) (hR : RS L B ch m) (hp : rg p) (hf : rg f) : C Γ mX11_marksOf 1 40 0 0 [vr 96, vi p, vi f] SH m (Qi SH m (mko B p f : Int)) := by
  refine C_of_R rfl (Nat.le_of_ble_eq_true rfl) ?_
  have hO := hR.2.2.2.2.1
  have h3 := hO.1
  have Lp : ∀ k, k ≤ 2 * B.1 → ∀ a z, a = (cnt (pfI B p f) k : Int) → z = (k : Int) → R Γ mX11_marksOf { frames := 1, cells := 0, slots := 0, locals := 40 } 0 0 (Qi SH m (mko B p f : Int)) 0 0 5 [some (vr 96), some (vi p), some (vi f), some (vi a), some (vi z)] [] SH m := by
    refine up_ind (2 * B.1) (fun k hk ih a z ha hz => ?_)
    refine R_iload 7 rfl dX11_marksOf_5 rfl ?_
    refine R_iconst 8 rfl dX11_marksOf_7 ?_
    refine R_aload_n 9 rfl dX11_marksOf_8 rfl ?_
    refine R_callV_i (M' := mX11_size) 12 rfl dX11_marksOf_9 ml_X11_150 kmX11_size im_X11_size se_X11_size rfl ⟨by decide, rfl⟩ (c_X11_size hR) rfl rfl ⟨Nat.le_of_ble_eq_true rfl, Nat.le_of_ble_eq_true rfl⟩ (Nat.le_of_ble_eq_true rfl) ⟨Nat.le_of_ble_eq_true rfl, Nat.le_of_ble_eq_true rfl⟩ ?_
    refine R_imul 13 rfl dX11_marksOf_12 ?_
    refine R_icmp_ge 16 64 rfl rfl dX11_marksOf_13 (by first | assumption | exact ⟨by omega, by omega⟩) (by first | assumption | exact ⟨by omega, by omega⟩) (fun h13 => ?_) (fun h13 => ?_)
    · refine R_iload_n 65 rfl dX11_marksOf_64 rfl ?_
      refine R_ireturn dX11_marksOf_65 rfl ?_
      exact Qi_mk (by rw [ha, show k = 2 * B.1 by omega]; rfl)
    · have g5 := hO.2.2 k (by omega)
      refine R_iload_n 17 rfl dX11_marksOf_16 rfl ?_
      refine R_aload_n 18 rfl dX11_marksOf_17 rfl ?_
      refine R_iload 20 rfl dX11_marksOf_18 rfl ?_
      refine R_iconst 21 rfl dX11_marksOf_20 ?_
      refine R_idiv_p 22 rfl dX11_marksOf_21 (by first | assumption | exact ⟨by omega, by omega⟩) (by first | assumption | exact ⟨by omega, by omega⟩) (by omega) (by omega) ?_
      refine R_iload 24 rfl dX11_marksOf_22 rfl ?_
      refine R_iconst 25 rfl dX11_marksOf_24 ?_
      refine R_irem_p 26 rfl dX11_marksOf_25 (by first | assumption | exact ⟨by omega, by omega⟩) (by first | assumption | exact ⟨by omega, by omega⟩) (by omega) (by omega) ?_
      refine R_iconst 27 rfl dX11_marksOf_26 ?_
      refine R_callV_i (M' := mX11_of5) 30 rfl dX11_marksOf_27 ml_X11_198 kmX11_of5 im_X11_of5 se_X11_of5 rfl ⟨by decide, rfl⟩ (c_X11_of5 _ _ _ k 3 hR (by omega) (by omega) (by omega) (by omega) (by omega)) rfl rfl ⟨Nat.le_of_ble_eq_true rfl, Nat.le_of_ble_eq_true rfl⟩ (Nat.le_of_ble_eq_true rfl) ⟨Nat.le_of_ble_eq_true rfl, Nat.le_of_ble_eq_true rfl⟩ ?_
      refine R_iload_n 31 rfl dX11_marksOf_30 rfl ?_
      refine R_icmp_ne 34 55 rfl rfl dX11_marksOf_31 (by first | assumption | exact ⟨by omega, by omega⟩) (by first | assumption | exact ⟨by omega, by omega⟩) (fun h31 => ?_) (fun h31 => ?_)
      · refine R_iconst 56 rfl dX11_marksOf_55 ?_
        refine R_iadd 57 rfl dX11_marksOf_56 ?_
        refine R_istore_n [_, _, _, _, _] 58 rfl dX11_marksOf_57 rfl (by decide) ?_
        refine R_iinc [_, _, _, _, _] 61 rfl dX11_marksOf_58 rfl rfl (by decide) ?_
        refine R_goto 5 rfl dX11_marksOf_61 ?_
        first | exact ih (by omega) _ _ (by rw [cnt_y (decide_eq_true ⟨by omega, by omega⟩)]; omega) (by omega) | exact ih (by omega) _ _ (by rw [cnt_n (fun q => by have := of_decide_eq_true q; omega)]; omega) (by omega)
      · refine R_aload_n 35 rfl dX11_marksOf_34 rfl ?_
        refine R_iload 37 rfl dX11_marksOf_35 rfl ?_
        refine R_iconst 38 rfl dX11_marksOf_37 ?_
        refine R_idiv_p 39 rfl dX11_marksOf_38 (by first | assumption | exact ⟨by omega, by omega⟩) (by first | assumption | exact ⟨by omega, by omega⟩) (by omega) (by omega) ?_
        refine R_iload 41 rfl dX11_marksOf_39 rfl ?_
        refine R_iconst 42 rfl dX11_marksOf_41 ?_
        refine R_irem_p 43 rfl dX11_marksOf_42 (by first | assumption | exact ⟨by omega, by omega⟩) (by first | assumption | exact ⟨by omega, by omega⟩) (by omega) (by omega) ?_
        refine R_iconst 44 rfl dX11_marksOf_43 ?_
        refine R_callV_i (M' := mX11_of5) 47 rfl dX11_marksOf_44 ml_X11_198 kmX11_of5 im_X11_of5 se_X11_of5 rfl ⟨by decide, rfl⟩ (c_X11_of5 _ _ _ k 0 hR (by omega) (by omega) (by omega) (by omega) (by omega)) rfl rfl ⟨Nat.le_of_ble_eq_true rfl, Nat.le_of_ble_eq_true rfl⟩ (Nat.le_of_ble_eq_true rfl) ⟨Nat.le_of_ble_eq_true rfl, Nat.le_of_ble_eq_true rfl⟩ ?_
        refine R_iload_n 48 rfl dX11_marksOf_47 rfl ?_
        refine R_icmp_ne 51 55 rfl rfl dX11_marksOf_48 (by first | assumption | exact ⟨by omega, by omega⟩) (by first | assumption | exact ⟨by omega, by omega⟩) (fun h48 => ?_) (fun h48 => ?_)
        · refine R_iconst 56 rfl dX11_marksOf_55 ?_
          refine R_iadd 57 rfl dX11_marksOf_56 ?_
          refine R_istore_n [_, _, _, _, _] 58 rfl dX11_marksOf_57 rfl (by decide) ?_
          refine R_iinc [_, _, _, _, _] 61 rfl dX11_marksOf_58 rfl rfl (by decide) ?_
          refine R_goto 5 rfl dX11_marksOf_61 ?_
          first | exact ih (by omega) _ _ (by rw [cnt_y (decide_eq_true ⟨by omega, by omega⟩)]; omega) (by omega) | exact ih (by omega) _ _ (by rw [cnt_n (fun q => by have := of_decide_eq_true q; omega)]; omega) (by omega)
        · refine R_iconst 52 rfl dX11_marksOf_51 ?_
          refine R_goto 56 rfl dX11_marksOf_52 ?_
          refine R_iadd 57 rfl dX11_marksOf_56 ?_
          refine R_istore_n [_, _, _, _, _] 58 rfl dX11_marksOf_57 rfl (by decide) ?_
          refine R_iinc [_, _, _, _, _] 61 rfl dX11_marksOf_58 rfl rfl (by decide) ?_
          refine R_goto 5 rfl dX11_marksOf_61 ?_
          first | exact ih (by omega) _ _ (by rw [cnt_y (decide_eq_true ⟨by omega, by omega⟩)]; omega) (by omega) | exact ih (by omega) _ _ (by rw [cnt_n (fun q => by have := of_decide_eq_true q; omega)]; omega) (by omega)
  refine R_iconst 1 rfl dX11_marksOf_0 ?_
  refine R_istore_n [_, _, _, _, _] 2 rfl dX11_marksOf_1 rfl (by decide) ?_
  refine R_iconst 3 rfl dX11_marksOf_2 ?_
  refine R_istore [_, _, _, _, _] 5 rfl dX11_marksOf_3 rfl (by decide) ?_
  exact Lp 0 (by omega) _ _ rfl rfl
theorem c_X11_isLater (p f l : Int) (hR : RS L B ch m) (hp : rg p) (hf : (f = 0 ∧ l = 1) ∨ (f = 1 ∧ l = 0)) : C Γ mX11_isLater 1 40 0 0 [vr 96, vi p, vi f, vi l] SH m (Qi SH m (pI (chg B p f = true))) := by
  refine C_of_R rfl (Nat.le_of_ble_eq_true rfl) ?_
  have hO := hR.2.2.2.2.1
  have h3 := hO.1
  have cl := chg_lr (p := p) hO hf
  have rf : rg f := ⟨by omega, by omega⟩
  have rl : rg l := ⟨by omega, by omega⟩
  have Lo : ∀ k, k ≤ 2 * B.1 → ∀ a z x6 x7, (a = 0 ∨ a = 1) → (a = 1 ↔ ∃ i, i < k ∧ ∃ j, j < 2 * B.1 ∧ lrP B p f l i j) → z = (k : Int) → R Γ mX11_isLater { frames := 1, cells := 0, slots := 0, locals := 40 } 0 0 (Qi SH m (pI (chg B p f = true))) 0 0 6 [some (vr 96), some (vi p), some (vi f), some (vi l), some (vi a), some (vi z), x6, x7] [] SH m := by
    refine up_ind (2 * B.1) (fun k hk ih a z x6 x7 a01 ha hz => ?_)
    have Li : k < 2 * B.1 → ∀ q, q ≤ 2 * B.1 → ∀ a y x, (a = 0 ∨ a = 1) → (a = 1 ↔ (∃ i, i < k ∧ ∃ j, j < 2 * B.1 ∧ lrP B p f l i j) ∨ ∃ j, j < q ∧ lrP B p f l k j) → y = (q : Int) → R Γ mX11_isLater { frames := 1, cells := 0, slots := 0, locals := 40 } 0 0 (Qi SH m (pI (chg B p f = true))) 0 0 20 [some (vr 96), some (vi p), some (vi f), some (vi l), some (vi a), some (vi z), some (vi y), x] [] SH m := by
      intro hlt
      have g5 := hO.2.2 k (by omega)
      have g4 := hO.2.1 (k / 2) (by omega)
      have rk0 : rg (B.2.2 0 k) := ⟨by omega, by omega⟩
      refine up_ind (2 * B.1) (fun q hq ih2 a y x a01 ha hy => ?_)
      refine R_iload 22 rfl dX11_isLater_20 rfl ?_
      refine R_iconst 23 rfl dX11_isLater_22 ?_
      refine R_aload_n 24 rfl dX11_isLater_23 rfl ?_
      refine R_callV_i (M' := mX11_size) 27 rfl dX11_isLater_24 ml_X11_150 kmX11_size im_X11_size se_X11_size rfl ⟨by decide, rfl⟩ (c_X11_size hR) rfl rfl ⟨Nat.le_of_ble_eq_true rfl, Nat.le_of_ble_eq_true rfl⟩ (Nat.le_of_ble_eq_true rfl) ⟨Nat.le_of_ble_eq_true rfl, Nat.le_of_ble_eq_true rfl⟩ ?_
      refine R_imul 28 rfl dX11_isLater_27 ?_
      refine R_icmp_ge 31 150 rfl rfl dX11_isLater_28 (by first | assumption | exact ⟨by omega, by omega⟩) (by first | assumption | exact ⟨by omega, by omega⟩) (fun h28 => ?_) (fun h28 => ?_)
      · refine R_iinc [_, _, _, _, _, _, _, _] 153 rfl dX11_isLater_150 rfl rfl (by decide) ?_
        refine R_goto 6 rfl dX11_isLater_153 ?_
        refine ih (by omega) _ _ _ _ a01 (ha.trans ?_) (by omega)
        constructor
        · rintro (⟨i, i1, i2⟩ | ⟨j, j1, j2⟩)
          · exact ⟨i, by omega, i2⟩
          · exact ⟨k, by omega, j, by omega, j2⟩
        · rintro ⟨i, i1, j, j1, j2⟩
          by_cases e : i = k
          · subst e
            refine Or.inr ⟨j, ?_, j2⟩
            have := j2.1
            omega
          · exact Or.inl ⟨i, by omega, j, j1, j2⟩
      · refine R_aload_n 32 rfl dX11_isLater_31 rfl ?_
        refine R_iload 34 rfl dX11_isLater_32 rfl ?_
        refine R_iconst 35 rfl dX11_isLater_34 ?_
        refine R_idiv_p 36 rfl dX11_isLater_35 (by first | assumption | exact ⟨by omega, by omega⟩) (by first | assumption | exact ⟨by omega, by omega⟩) (by omega) (by omega) ?_
        refine R_iload 38 rfl dX11_isLater_36 rfl ?_
        refine R_iconst 39 rfl dX11_isLater_38 ?_
        refine R_irem_p 40 rfl dX11_isLater_39 (by first | assumption | exact ⟨by omega, by omega⟩) (by first | assumption | exact ⟨by omega, by omega⟩) (by omega) (by omega) ?_
        refine R_iconst 41 rfl dX11_isLater_40 ?_
        refine R_callV_i (M' := mX11_of5) 44 rfl dX11_isLater_41 ml_X11_198 kmX11_of5 im_X11_of5 se_X11_of5 rfl ⟨by decide, rfl⟩ (c_X11_of5 _ _ _ k 3 hR (by omega) (by omega) (by omega) (by omega) (by omega)) rfl rfl ⟨Nat.le_of_ble_eq_true rfl, Nat.le_of_ble_eq_true rfl⟩ (Nat.le_of_ble_eq_true rfl) ⟨Nat.le_of_ble_eq_true rfl, Nat.le_of_ble_eq_true rfl⟩ ?_
        refine R_iload_n 45 rfl dX11_isLater_44 rfl ?_
        refine R_icmp_ne 48 150 rfl rfl dX11_isLater_45 (by first | assumption | exact ⟨by omega, by omega⟩) (by first | assumption | exact ⟨by omega, by omega⟩) (fun h45 => ?_) (fun h45 => ?_)
        · refine R_iinc [_, _, _, _, _, _, _, _] 153 rfl dX11_isLater_150 rfl rfl (by decide) ?_
          refine R_goto 6 rfl dX11_isLater_153 ?_
          refine ih (by omega) _ _ _ _ a01 (ha.trans ?_) (by omega)
          constructor
          · rintro (⟨i, i1, i2⟩ | ⟨j, j1, j2⟩)
            · exact ⟨i, by omega, i2⟩
            · exact ⟨k, by omega, j, by omega, j2⟩
          · rintro ⟨i, i1, j, j1, j2⟩
            by_cases e : i = k
            · subst e
              refine Or.inr ⟨j, ?_, j2⟩
              have := j2.1
              omega
            · exact Or.inl ⟨i, by omega, j, j1, j2⟩
        · have k5 := hO.2.2 q (by omega)
          have k4 := hO.2.1 (q / 2) (by omega)
          have rq0 : rg (B.2.2 0 q) := by clear ha; exact ⟨by omega, by omega⟩
          refine R_aload_n 49 rfl dX11_isLater_48 rfl ?_
          refine R_iload 51 rfl dX11_isLater_49 rfl ?_
          refine R_iconst 52 rfl dX11_isLater_51 ?_
          refine R_idiv_p 53 rfl dX11_isLater_52 (by first | assumption | exact ⟨by omega, by omega⟩) (by first | assumption | exact ⟨by omega, by omega⟩) (by omega) (by omega) ?_
          refine R_iload 55 rfl dX11_isLater_53 rfl ?_
          refine R_iconst 56 rfl dX11_isLater_55 ?_
          refine R_irem_p 57 rfl dX11_isLater_56 (by first | assumption | exact ⟨by omega, by omega⟩) (by first | assumption | exact ⟨by omega, by omega⟩) (by omega) (by omega) ?_
          refine R_iconst 58 rfl dX11_isLater_57 ?_
          refine R_callV_i (M' := mX11_of5) 61 rfl dX11_isLater_58 ml_X11_198 kmX11_of5 im_X11_of5 se_X11_of5 rfl ⟨by decide, rfl⟩ (c_X11_of5 _ _ _ q 3 hR (by omega) (by omega) (by omega) (by omega) (by omega)) rfl rfl ⟨Nat.le_of_ble_eq_true rfl, Nat.le_of_ble_eq_true rfl⟩ (Nat.le_of_ble_eq_true rfl) ⟨Nat.le_of_ble_eq_true rfl, Nat.le_of_ble_eq_true rfl⟩ ?_
          refine R_iload_n 62 rfl dX11_isLater_61 rfl ?_
          refine R_icmp_ne 65 103 rfl rfl dX11_isLater_62 (by first | assumption | exact ⟨by omega, by omega⟩) (by first | assumption | exact ⟨by omega, by omega⟩) (fun h62 => ?_) (fun h62 => ?_)
          · refine R_iconst 104 rfl dX11_isLater_103 ?_
            refine R_istore [_, _, _, _, _, _, _, _] 106 rfl dX11_isLater_104 rfl (by decide) ?_
            refine R_iload 108 rfl dX11_isLater_106 rfl ?_
            refine R_if_ne 111 137 rfl rfl dX11_isLater_108 (by first | assumption | exact ⟨by omega, by omega⟩) (fun h108 => ?_) (fun h108 => ?_)
            · refine R_iconst 138 rfl dX11_isLater_137 ?_
              refine R_goto 142 rfl dX11_isLater_138 ?_
              refine R_istore [_, _, _, _, _, _, _, _] 144 rfl dX11_isLater_142 rfl (by decide) ?_
              refine R_iinc [_, _, _, _, _, _, _, _] 147 rfl dX11_isLater_144 rfl rfl (by decide) ?_
              refine R_goto 20 rfl dX11_isLater_147 ?_
              refine ih2 (by omega) _ _ _ (by omega) (lt_step ha ?_) (by omega)
              unfold lrP
              omega
            · refine R_iload 113 rfl dX11_isLater_111 rfl ?_
              refine R_if_eq 116 141 rfl rfl dX11_isLater_113 (by first | assumption | exact ⟨by omega, by omega⟩) (fun h113 => ?_) (fun h113 => ?_)
              rotate_left
              · exact absurd h113 (by omega)
              refine R_iconst 142 rfl dX11_isLater_141 ?_
              refine R_istore [_, _, _, _, _, _, _, _] 144 rfl dX11_isLater_142 rfl (by decide) ?_
              refine R_iinc [_, _, _, _, _, _, _, _] 147 rfl dX11_isLater_144 rfl rfl (by decide) ?_
              refine R_goto 20 rfl dX11_isLater_147 ?_
              refine ih2 (by omega) _ _ _ (by omega) (lt_step ha ?_) (by omega)
              unfold lrP
              omega
          · refine R_aload_n 66 rfl dX11_isLater_65 rfl ?_
            refine R_iload 68 rfl dX11_isLater_66 rfl ?_
            refine R_iconst 69 rfl dX11_isLater_68 ?_
            refine R_idiv_p 70 rfl dX11_isLater_69 (by first | assumption | exact ⟨by omega, by omega⟩) (by first | assumption | exact ⟨by omega, by omega⟩) (by omega) (by omega) ?_
            refine R_iload 72 rfl dX11_isLater_70 rfl ?_
            refine R_iconst 73 rfl dX11_isLater_72 ?_
            refine R_irem_p 74 rfl dX11_isLater_73 (by first | assumption | exact ⟨by omega, by omega⟩) (by first | assumption | exact ⟨by omega, by omega⟩) (by omega) (by omega) ?_
            refine R_iconst 75 rfl dX11_isLater_74 ?_
            refine R_callV_i (M' := mX11_of5) 78 rfl dX11_isLater_75 ml_X11_198 kmX11_of5 im_X11_of5 se_X11_of5 rfl ⟨by decide, rfl⟩ (c_X11_of5 _ _ _ k 0 hR (by omega) (by omega) (by omega) (by omega) (by omega)) rfl rfl ⟨Nat.le_of_ble_eq_true rfl, Nat.le_of_ble_eq_true rfl⟩ (Nat.le_of_ble_eq_true rfl) ⟨Nat.le_of_ble_eq_true rfl, Nat.le_of_ble_eq_true rfl⟩ ?_
            refine R_iload_n 79 rfl dX11_isLater_78 rfl ?_
            refine R_icmp_ne 82 103 rfl rfl dX11_isLater_79 (by first | assumption | exact ⟨by omega, by omega⟩) (by first | assumption | exact ⟨by omega, by omega⟩) (fun h79 => ?_) (fun h79 => ?_)
            · refine R_iconst 104 rfl dX11_isLater_103 ?_
              refine R_istore [_, _, _, _, _, _, _, _] 106 rfl dX11_isLater_104 rfl (by decide) ?_
              refine R_iload 108 rfl dX11_isLater_106 rfl ?_
              refine R_if_ne 111 137 rfl rfl dX11_isLater_108 (by first | assumption | exact ⟨by omega, by omega⟩) (fun h108 => ?_) (fun h108 => ?_)
              · refine R_iconst 138 rfl dX11_isLater_137 ?_
                refine R_goto 142 rfl dX11_isLater_138 ?_
                refine R_istore [_, _, _, _, _, _, _, _] 144 rfl dX11_isLater_142 rfl (by decide) ?_
                refine R_iinc [_, _, _, _, _, _, _, _] 147 rfl dX11_isLater_144 rfl rfl (by decide) ?_
                refine R_goto 20 rfl dX11_isLater_147 ?_
                refine ih2 (by omega) _ _ _ (by omega) (lt_step ha ?_) (by omega)
                unfold lrP
                omega
              · refine R_iload 113 rfl dX11_isLater_111 rfl ?_
                refine R_if_eq 116 141 rfl rfl dX11_isLater_113 (by first | assumption | exact ⟨by omega, by omega⟩) (fun h113 => ?_) (fun h113 => ?_)
                rotate_left
                · exact absurd h113 (by omega)
                refine R_iconst 142 rfl dX11_isLater_141 ?_
                refine R_istore [_, _, _, _, _, _, _, _] 144 rfl dX11_isLater_142 rfl (by decide) ?_
                refine R_iinc [_, _, _, _, _, _, _, _] 147 rfl dX11_isLater_144 rfl rfl (by decide) ?_
                refine R_goto 20 rfl dX11_isLater_147 ?_
                refine ih2 (by omega) _ _ _ (by omega) (lt_step ha ?_) (by omega)
                unfold lrP
                omega
            · refine R_aload_n 83 rfl dX11_isLater_82 rfl ?_
              refine R_iload 85 rfl dX11_isLater_83 rfl ?_
              refine R_iconst 86 rfl dX11_isLater_85 ?_
              refine R_idiv_p 87 rfl dX11_isLater_86 (by first | assumption | exact ⟨by omega, by omega⟩) (by first | assumption | exact ⟨by omega, by omega⟩) (by omega) (by omega) ?_
              refine R_iload 89 rfl dX11_isLater_87 rfl ?_
              refine R_iconst 90 rfl dX11_isLater_89 ?_
              refine R_irem_p 91 rfl dX11_isLater_90 (by first | assumption | exact ⟨by omega, by omega⟩) (by first | assumption | exact ⟨by omega, by omega⟩) (by omega) (by omega) ?_
              refine R_iconst 92 rfl dX11_isLater_91 ?_
              refine R_callV_i (M' := mX11_of5) 95 rfl dX11_isLater_92 ml_X11_198 kmX11_of5 im_X11_of5 se_X11_of5 rfl ⟨by decide, rfl⟩ (c_X11_of5 _ _ _ q 0 hR (by omega) (by omega) (by omega) (by omega) (by omega)) rfl rfl ⟨Nat.le_of_ble_eq_true rfl, Nat.le_of_ble_eq_true rfl⟩ (Nat.le_of_ble_eq_true rfl) ⟨Nat.le_of_ble_eq_true rfl, Nat.le_of_ble_eq_true rfl⟩ ?_
              refine R_iload_n 96 rfl dX11_isLater_95 rfl ?_
              refine R_icmp_ne 99 103 rfl rfl dX11_isLater_96 (by first | assumption | exact ⟨by omega, by omega⟩) (by first | assumption | exact ⟨by omega, by omega⟩) (fun h96 => ?_) (fun h96 => ?_)
              · refine R_iconst 104 rfl dX11_isLater_103 ?_
                refine R_istore [_, _, _, _, _, _, _, _] 106 rfl dX11_isLater_104 rfl (by decide) ?_
                refine R_iload 108 rfl dX11_isLater_106 rfl ?_
                refine R_if_ne 111 137 rfl rfl dX11_isLater_108 (by first | assumption | exact ⟨by omega, by omega⟩) (fun h108 => ?_) (fun h108 => ?_)
                · refine R_iconst 138 rfl dX11_isLater_137 ?_
                  refine R_goto 142 rfl dX11_isLater_138 ?_
                  refine R_istore [_, _, _, _, _, _, _, _] 144 rfl dX11_isLater_142 rfl (by decide) ?_
                  refine R_iinc [_, _, _, _, _, _, _, _] 147 rfl dX11_isLater_144 rfl rfl (by decide) ?_
                  refine R_goto 20 rfl dX11_isLater_147 ?_
                  refine ih2 (by omega) _ _ _ (by omega) (lt_step ha ?_) (by omega)
                  unfold lrP
                  omega
                · refine R_iload 113 rfl dX11_isLater_111 rfl ?_
                  refine R_if_eq 116 141 rfl rfl dX11_isLater_113 (by first | assumption | exact ⟨by omega, by omega⟩) (fun h113 => ?_) (fun h113 => ?_)
                  rotate_left
                  · exact absurd h113 (by omega)
                  refine R_iconst 142 rfl dX11_isLater_141 ?_
                  refine R_istore [_, _, _, _, _, _, _, _] 144 rfl dX11_isLater_142 rfl (by decide) ?_
                  refine R_iinc [_, _, _, _, _, _, _, _] 147 rfl dX11_isLater_144 rfl rfl (by decide) ?_
                  refine R_goto 20 rfl dX11_isLater_147 ?_
                  refine ih2 (by omega) _ _ _ (by omega) (lt_step ha ?_) (by omega)
                  unfold lrP
                  omega
              · refine R_iconst 100 rfl dX11_isLater_99 ?_
                refine R_goto 104 rfl dX11_isLater_100 ?_
                refine R_istore [_, _, _, _, _, _, _, _] 106 rfl dX11_isLater_104 rfl (by decide) ?_
                refine R_iload 108 rfl dX11_isLater_106 rfl ?_
                refine R_if_ne 111 137 rfl rfl dX11_isLater_108 (by first | assumption | exact ⟨by omega, by omega⟩) (fun h108 => ?_) (fun h108 => ?_)
                · refine R_iconst 138 rfl dX11_isLater_137 ?_
                  refine R_goto 142 rfl dX11_isLater_138 ?_
                  refine R_istore [_, _, _, _, _, _, _, _] 144 rfl dX11_isLater_142 rfl (by decide) ?_
                  refine R_iinc [_, _, _, _, _, _, _, _] 147 rfl dX11_isLater_144 rfl rfl (by decide) ?_
                  refine R_goto 20 rfl dX11_isLater_147 ?_
                  refine ih2 (by omega) _ _ _ (by omega) (lt_step ha ?_) (by omega)
                  unfold lrP
                  omega
                · refine R_iload 113 rfl dX11_isLater_111 rfl ?_
                  refine R_if_eq 116 141 rfl rfl dX11_isLater_113 (by first | assumption | exact ⟨by omega, by omega⟩) (fun h113 => ?_) (fun h113 => ?_)
                  · exact absurd h113 (by omega)
                  refine R_aload_n 117 rfl dX11_isLater_116 rfl ?_
                  refine R_iload 119 rfl dX11_isLater_117 rfl ?_
                  refine R_iconst 120 rfl dX11_isLater_119 ?_
                  refine R_idiv_p 121 rfl dX11_isLater_120 (by first | assumption | exact ⟨by omega, by omega⟩) (by first | assumption | exact ⟨by omega, by omega⟩) (by omega) (by omega) ?_
                  refine R_iconst 122 rfl dX11_isLater_121 ?_
                  refine R_callV_i (M' := mX11_its) 125 rfl dX11_isLater_122 ml_X11_153 kmX11_its im_X11_its se_X11_its rfl ⟨by decide, rfl⟩ (c_X11_its _ _ (k / 2) 1 hR (by omega) (by omega) (by omega) (by omega)) rfl rfl ⟨Nat.le_of_ble_eq_true rfl, Nat.le_of_ble_eq_true rfl⟩ (Nat.le_of_ble_eq_true rfl) ⟨Nat.le_of_ble_eq_true rfl, Nat.le_of_ble_eq_true rfl⟩ ?_
                  refine R_aload_n 126 rfl dX11_isLater_125 rfl ?_
                  refine R_iload 128 rfl dX11_isLater_126 rfl ?_
                  refine R_iconst 129 rfl dX11_isLater_128 ?_
                  refine R_idiv_p 130 rfl dX11_isLater_129 (by first | assumption | exact ⟨by omega, by omega⟩) (by first | assumption | exact ⟨by omega, by omega⟩) (by omega) (by omega) ?_
                  refine R_iconst 131 rfl dX11_isLater_130 ?_
                  refine R_callV_i (M' := mX11_its) 134 rfl dX11_isLater_131 ml_X11_153 kmX11_its im_X11_its se_X11_its rfl ⟨by decide, rfl⟩ (c_X11_its _ _ (q / 2) 1 hR (by omega) (by omega) (by omega) (by omega)) rfl rfl ⟨Nat.le_of_ble_eq_true rfl, Nat.le_of_ble_eq_true rfl⟩ (Nat.le_of_ble_eq_true rfl) ⟨Nat.le_of_ble_eq_true rfl, Nat.le_of_ble_eq_true rfl⟩ ?_
                  refine R_icmp_ge 137 141 rfl rfl dX11_isLater_134 (by first | assumption | exact ⟨by omega, by omega⟩) (by first | assumption | exact ⟨by omega, by omega⟩) (fun h134 => ?_) (fun h134 => ?_)
                  · refine R_iconst 142 rfl dX11_isLater_141 ?_
                    refine R_istore [_, _, _, _, _, _, _, _] 144 rfl dX11_isLater_142 rfl (by decide) ?_
                    refine R_iinc [_, _, _, _, _, _, _, _] 147 rfl dX11_isLater_144 rfl rfl (by decide) ?_
                    refine R_goto 20 rfl dX11_isLater_147 ?_
                    refine ih2 (by omega) _ _ _ (by omega) (lt_step ha ?_) (by omega)
                    unfold lrP
                    omega
                  · refine R_iconst 138 rfl dX11_isLater_137 ?_
                    refine R_goto 142 rfl dX11_isLater_138 ?_
                    refine R_istore [_, _, _, _, _, _, _, _] 144 rfl dX11_isLater_142 rfl (by decide) ?_
                    refine R_iinc [_, _, _, _, _, _, _, _] 147 rfl dX11_isLater_144 rfl rfl (by decide) ?_
                    refine R_goto 20 rfl dX11_isLater_147 ?_
                    refine ih2 (by omega) _ _ _ (by omega) (lt_step ha ?_) (by omega)
                    unfold lrP
                    omega
    refine R_iload 8 rfl dX11_isLater_6 rfl ?_
    refine R_iconst 9 rfl dX11_isLater_8 ?_
    refine R_aload_n 10 rfl dX11_isLater_9 rfl ?_
    refine R_callV_i (M' := mX11_size) 13 rfl dX11_isLater_10 ml_X11_150 kmX11_size im_X11_size se_X11_size rfl ⟨by decide, rfl⟩ (c_X11_size hR) rfl rfl ⟨Nat.le_of_ble_eq_true rfl, Nat.le_of_ble_eq_true rfl⟩ (Nat.le_of_ble_eq_true rfl) ⟨Nat.le_of_ble_eq_true rfl, Nat.le_of_ble_eq_true rfl⟩ ?_
    refine R_imul 14 rfl dX11_isLater_13 ?_
    refine R_icmp_ge 17 156 rfl rfl dX11_isLater_14 (by first | assumption | exact ⟨by omega, by omega⟩) (by first | assumption | exact ⟨by omega, by omega⟩) (fun h14 => ?_) (fun h14 => ?_)
    · refine R_iload 158 rfl dX11_isLater_156 rfl ?_
      refine R_zreturn dX11_isLater_158 rfl a01 ?_
      have ek : k = 2 * B.1 := by omega
      subst ek
      first
        | exact Qi_mk (by rcases a01 with e | e; (rw [e]; exact pI_0 (fun q => by have := ha.mpr (cl.mp q); omega)); (rw [e]; exact pI_1 (cl.mpr (ha.mp e))))
    · refine R_iconst 18 rfl dX11_isLater_17 ?_
      refine R_istore [_, _, _, _, _, _, _, _] 20 rfl dX11_isLater_18 rfl (by decide) ?_
      exact Li (by omega) 0 (by omega) _ _ _ a01 (ha.trans ⟨Or.inl, fun q => q.elim id (fun ⟨j, j1, _⟩ => by omega)⟩) rfl
  refine R_iconst 1 rfl dX11_isLater_0 ?_
  refine R_istore [_, _, _, _, _, _, _, _] 3 rfl dX11_isLater_1 rfl (by decide) ?_
  refine R_iconst 4 rfl dX11_isLater_3 ?_
  refine R_istore [_, _, _, _, _, _, _, _] 6 rfl dX11_isLater_4 rfl (by decide) ?_
  exact Lo 0 (by omega) _ _ _ _ (Or.inl rfl) ⟨fun q => by omega, fun ⟨i, i1, _⟩ => by omega⟩ rfl
theorem c_X11_widest (p : Int) (hR : RS L B ch m) (hp : rg p) : C Γ mX11_widest 1 40 0 0 [vr 96, vi p] SH m (Qi SH m (wOut B p (2 * B.1) (-4))) := by
  refine C_of_R rfl (Nat.le_of_ble_eq_true rfl) ?_
  have hO := hR.2.2.2.2.1
  have h3 := hO.1
  have Lo : ∀ k, k ≤ 2 * B.1 → ∀ a z x4 x5 x6, a = wOut B p k (-4) → z = (k : Int) → R Γ mX11_widest { frames := 1, cells := 0, slots := 0, locals := 40 } 0 0 (Qi SH m (wOut B p (2 * B.1) (-4))) 0 0 5 [some (vr 96), some (vi p), some (vi a), some (vi z), x4, x5, x6] [] SH m := by
    refine up_ind (2 * B.1) (fun k hk ih a z x4 x5 x6 ha hz => ?_)
    have wo := wOut_rg (B := B) (p := p) k (-4)
    have Li : k < 2 * B.1 → ∀ q, q ≤ k → ∀ a y x5 x6, a = wIn B p k q (wOut B p k (-4)) → y = (q : Int) → R Γ mX11_widest { frames := 1, cells := 0, slots := 0, locals := 40 } 0 0 (Qi SH m (wOut B p (2 * B.1) (-4))) 0 0 18 [some (vr 96), some (vi p), some (vi a), some (vi z), some (vi y), x5, x6] [] SH m := by
      intro hlt
      have g5 := hO.2.2 k (by omega)
      have ek : isNm B p k = true ↔ (B.2.2 3 k = p ∧ B.2.2 0 k = 1) := by simp [isNm]
      refine up_ind k (fun q hq ih2 a y x5 x6 ha hy => ?_)
      have wi := wIn_rg (B := B) (p := p) (a := k) q (wOut B p k (-4))
      have ws : wIn B p k (q + 1) (wOut B p k (-4)) = if isNm B p k = true ∧ isNm B p q = true then max (wIn B p k q (wOut B p k (-4))) (ap (B.2.2 2 k) (B.2.2 2 q)) else wIn B p k q (wOut B p k (-4)) := rfl
      refine R_iload 20 rfl dX11_widest_18 rfl ?_
      refine R_iload_n 21 rfl dX11_widest_20 rfl ?_
      refine R_icmp_ge 24 149 rfl rfl dX11_widest_21 (by first | assumption | exact ⟨by omega, by omega⟩) (by first | assumption | exact ⟨by omega, by omega⟩) (fun h21 => ?_) (fun h21 => ?_)
      · refine R_iinc [_, _, _, _, _, _, _] 152 rfl dX11_widest_149 rfl rfl (by decide) ?_
        refine R_goto 5 rfl dX11_widest_152 ?_
        have e9 : wOut B p (k + 1) (-4) = wIn B p k k (wOut B p k (-4)) := rfl
        first
          | (have eq9 : q = k := by omega
             subst eq9
             exact ih (by omega) _ _ _ _ _ (by omega) (by omega))
          | (have nk : ¬ isNm B p k = true := fun w => by have := ek.mp w; omega
             rw [wIn_no nk] at e9 ha
             exact ih (by omega) _ _ _ _ _ (by omega) (by omega))
      · refine R_aload_n 25 rfl dX11_widest_24 rfl ?_
        refine R_iload_n 26 rfl dX11_widest_25 rfl ?_
        refine R_iconst 27 rfl dX11_widest_26 ?_
        refine R_idiv_p 28 rfl dX11_widest_27 (by first | assumption | exact ⟨by omega, by omega⟩) (by first | assumption | exact ⟨by omega, by omega⟩) (by omega) (by omega) ?_
        refine R_iload_n 29 rfl dX11_widest_28 rfl ?_
        refine R_iconst 30 rfl dX11_widest_29 ?_
        refine R_irem_p 31 rfl dX11_widest_30 (by first | assumption | exact ⟨by omega, by omega⟩) (by first | assumption | exact ⟨by omega, by omega⟩) (by omega) (by omega) ?_
        refine R_iconst 32 rfl dX11_widest_31 ?_
        refine R_callV_i (M' := mX11_of5) 35 rfl dX11_widest_32 ml_X11_198 kmX11_of5 im_X11_of5 se_X11_of5 rfl ⟨by decide, rfl⟩ (c_X11_of5 _ _ _ k 3 hR (by omega) (by omega) (by omega) (by omega) (by omega)) rfl rfl ⟨Nat.le_of_ble_eq_true rfl, Nat.le_of_ble_eq_true rfl⟩ (Nat.le_of_ble_eq_true rfl) ⟨Nat.le_of_ble_eq_true rfl, Nat.le_of_ble_eq_true rfl⟩ ?_
        refine R_iload_n 36 rfl dX11_widest_35 rfl ?_
        refine R_icmp_ne 39 149 rfl rfl dX11_widest_36 (by first | assumption | exact ⟨by omega, by omega⟩) (by first | assumption | exact ⟨by omega, by omega⟩) (fun h36 => ?_) (fun h36 => ?_)
        · refine R_iinc [_, _, _, _, _, _, _] 152 rfl dX11_widest_149 rfl rfl (by decide) ?_
          refine R_goto 5 rfl dX11_widest_152 ?_
          have e9 : wOut B p (k + 1) (-4) = wIn B p k k (wOut B p k (-4)) := rfl
          first
            | (have eq9 : q = k := by omega
               subst eq9
               exact ih (by omega) _ _ _ _ _ (by omega) (by omega))
            | (have nk : ¬ isNm B p k = true := fun w => by have := ek.mp w; omega
               rw [wIn_no nk] at e9 ha
               exact ih (by omega) _ _ _ _ _ (by omega) (by omega))
        · refine R_aload_n 40 rfl dX11_widest_39 rfl ?_
          refine R_iload_n 41 rfl dX11_widest_40 rfl ?_
          refine R_iconst 42 rfl dX11_widest_41 ?_
          refine R_idiv_p 43 rfl dX11_widest_42 (by first | assumption | exact ⟨by omega, by omega⟩) (by first | assumption | exact ⟨by omega, by omega⟩) (by omega) (by omega) ?_
          refine R_iload_n 44 rfl dX11_widest_43 rfl ?_
          refine R_iconst 45 rfl dX11_widest_44 ?_
          refine R_irem_p 46 rfl dX11_widest_45 (by first | assumption | exact ⟨by omega, by omega⟩) (by first | assumption | exact ⟨by omega, by omega⟩) (by omega) (by omega) ?_
          refine R_iconst 47 rfl dX11_widest_46 ?_
          refine R_callV_i (M' := mX11_of5) 50 rfl dX11_widest_47 ml_X11_198 kmX11_of5 im_X11_of5 se_X11_of5 rfl ⟨by decide, rfl⟩ (c_X11_of5 _ _ _ k 0 hR (by omega) (by omega) (by omega) (by omega) (by omega)) rfl rfl ⟨Nat.le_of_ble_eq_true rfl, Nat.le_of_ble_eq_true rfl⟩ (Nat.le_of_ble_eq_true rfl) ⟨Nat.le_of_ble_eq_true rfl, Nat.le_of_ble_eq_true rfl⟩ ?_
          refine R_iconst 51 rfl dX11_widest_50 ?_
          refine R_icmp_ne 54 149 rfl rfl dX11_widest_51 (by first | assumption | exact ⟨by omega, by omega⟩) (by first | assumption | exact ⟨by omega, by omega⟩) (fun h51 => ?_) (fun h51 => ?_)
          · refine R_iinc [_, _, _, _, _, _, _] 152 rfl dX11_widest_149 rfl rfl (by decide) ?_
            refine R_goto 5 rfl dX11_widest_152 ?_
            have e9 : wOut B p (k + 1) (-4) = wIn B p k k (wOut B p k (-4)) := rfl
            first
              | (have eq9 : q = k := by omega
                 subst eq9
                 exact ih (by omega) _ _ _ _ _ (by omega) (by omega))
              | (have nk : ¬ isNm B p k = true := fun w => by have := ek.mp w; omega
                 rw [wIn_no nk] at e9 ha
                 exact ih (by omega) _ _ _ _ _ (by omega) (by omega))
          · have k5 := hO.2.2 q (by omega)
            have ar := ap_rg (B.2.2 2 k) (B.2.2 2 q)
            have eq : isNm B p q = true ↔ (B.2.2 3 q = p ∧ B.2.2 0 q = 1) := by simp [isNm]
            refine R_aload_n 55 rfl dX11_widest_54 rfl ?_
            refine R_iload 57 rfl dX11_widest_55 rfl ?_
            refine R_iconst 58 rfl dX11_widest_57 ?_
            refine R_idiv_p 59 rfl dX11_widest_58 (by first | assumption | exact ⟨by omega, by omega⟩) (by first | assumption | exact ⟨by omega, by omega⟩) (by omega) (by omega) ?_
            refine R_iload 61 rfl dX11_widest_59 rfl ?_
            refine R_iconst 62 rfl dX11_widest_61 ?_
            refine R_irem_p 63 rfl dX11_widest_62 (by first | assumption | exact ⟨by omega, by omega⟩) (by first | assumption | exact ⟨by omega, by omega⟩) (by omega) (by omega) ?_
            refine R_iconst 64 rfl dX11_widest_63 ?_
            refine R_callV_i (M' := mX11_of5) 67 rfl dX11_widest_64 ml_X11_198 kmX11_of5 im_X11_of5 se_X11_of5 rfl ⟨by decide, rfl⟩ (c_X11_of5 _ _ _ q 3 hR (by omega) (by omega) (by omega) (by omega) (by omega)) rfl rfl ⟨Nat.le_of_ble_eq_true rfl, Nat.le_of_ble_eq_true rfl⟩ (Nat.le_of_ble_eq_true rfl) ⟨Nat.le_of_ble_eq_true rfl, Nat.le_of_ble_eq_true rfl⟩ ?_
            refine R_iload_n 68 rfl dX11_widest_67 rfl ?_
            refine R_icmp_ne 71 92 rfl rfl dX11_widest_68 (by first | assumption | exact ⟨by omega, by omega⟩) (by first | assumption | exact ⟨by omega, by omega⟩) (fun h68 => ?_) (fun h68 => ?_)
            · refine R_iconst 93 rfl dX11_widest_92 ?_
              refine R_istore [_, _, _, _, _, _, _] 95 rfl dX11_widest_93 rfl (by decide) ?_
              refine R_aload_n 96 rfl dX11_widest_95 rfl ?_
              refine R_iload_n 97 rfl dX11_widest_96 rfl ?_
              refine R_iconst 98 rfl dX11_widest_97 ?_
              refine R_idiv_p 99 rfl dX11_widest_98 (by first | assumption | exact ⟨by omega, by omega⟩) (by first | assumption | exact ⟨by omega, by omega⟩) (by omega) (by omega) ?_
              refine R_iload_n 100 rfl dX11_widest_99 rfl ?_
              refine R_iconst 101 rfl dX11_widest_100 ?_
              refine R_irem_p 102 rfl dX11_widest_101 (by first | assumption | exact ⟨by omega, by omega⟩) (by first | assumption | exact ⟨by omega, by omega⟩) (by omega) (by omega) ?_
              refine R_iconst 103 rfl dX11_widest_102 ?_
              refine R_callV_i (M' := mX11_of5) 106 rfl dX11_widest_103 ml_X11_198 kmX11_of5 im_X11_of5 se_X11_of5 rfl ⟨by decide, rfl⟩ (c_X11_of5 _ _ _ k 2 hR (by omega) (by omega) (by omega) (by omega) (by omega)) rfl rfl ⟨Nat.le_of_ble_eq_true rfl, Nat.le_of_ble_eq_true rfl⟩ (Nat.le_of_ble_eq_true rfl) ⟨Nat.le_of_ble_eq_true rfl, Nat.le_of_ble_eq_true rfl⟩ ?_
              refine R_top (b := ((B.2.2 2 k).toNat : Int)) (by omega) ?_
              refine R_aload_n 107 rfl dX11_widest_106 rfl ?_
              refine R_iload 109 rfl dX11_widest_107 rfl ?_
              refine R_iconst 110 rfl dX11_widest_109 ?_
              refine R_idiv_p 111 rfl dX11_widest_110 (by first | assumption | exact ⟨by omega, by omega⟩) (by first | assumption | exact ⟨by omega, by omega⟩) (by omega) (by omega) ?_
              refine R_iload 113 rfl dX11_widest_111 rfl ?_
              refine R_iconst 114 rfl dX11_widest_113 ?_
              refine R_irem_p 115 rfl dX11_widest_114 (by first | assumption | exact ⟨by omega, by omega⟩) (by first | assumption | exact ⟨by omega, by omega⟩) (by omega) (by omega) ?_
              refine R_iconst 116 rfl dX11_widest_115 ?_
              refine R_callV_i (M' := mX11_of5) 119 rfl dX11_widest_116 ml_X11_198 kmX11_of5 im_X11_of5 se_X11_of5 rfl ⟨by decide, rfl⟩ (c_X11_of5 _ _ _ q 2 hR (by omega) (by omega) (by omega) (by omega) (by omega)) rfl rfl ⟨Nat.le_of_ble_eq_true rfl, Nat.le_of_ble_eq_true rfl⟩ (Nat.le_of_ble_eq_true rfl) ⟨Nat.le_of_ble_eq_true rfl, Nat.le_of_ble_eq_true rfl⟩ ?_
              refine R_top (b := ((B.2.2 2 q).toNat : Int)) (by omega) ?_
              refine R_ixor 120 rfl dX11_widest_119 ?_
              refine R_callS_i (M' := mX11_bitsOf) 123 rfl dX11_widest_120 ml_X11_204 kmX11_bitsOf st_X11_bitsOf (c_X11_bitsOf _ (Nat.lt_of_lt_of_le (Nat.xor_lt_two_pow (n := 8) (by omega) (by omega)) (by decide))) rfl rfl ⟨Nat.le_of_ble_eq_true rfl, Nat.le_of_ble_eq_true rfl⟩ (Nat.le_of_ble_eq_true rfl) ⟨Nat.le_of_ble_eq_true rfl, Nat.le_of_ble_eq_true rfl⟩ ?_
              refine R_top (b := ap (B.2.2 2 k) (B.2.2 2 q)) rfl ?_
              refine R_istore [_, _, _, _, _, _, _] 125 rfl dX11_widest_123 rfl (by decide) ?_
              refine R_iload 127 rfl dX11_widest_125 rfl ?_
              refine R_if_eq 130 141 rfl rfl dX11_widest_127 (by first | assumption | exact ⟨by omega, by omega⟩) (fun h127 => ?_) (fun h127 => ?_)
              rotate_left
              · exact absurd h127 (by omega)
              refine R_iload_n 142 rfl dX11_widest_141 rfl ?_
              refine R_istore_n [_, _, _, _, _, _, _] 143 rfl dX11_widest_142 rfl (by decide) ?_
              refine R_iinc [_, _, _, _, _, _, _] 146 rfl dX11_widest_143 rfl rfl (by decide) ?_
              refine R_goto 18 rfl dX11_widest_146 ?_
              first
                | (rw [if_pos ⟨ek.mpr (by omega), eq.mpr (by omega)⟩] at ws
                   exact ih2 (by omega) _ _ _ _ (by omega) (by omega))
                | (rw [if_neg (fun w => by have := eq.mp w.2; omega)] at ws
                   exact ih2 (by omega) _ _ _ _ (by omega) (by omega))
            · refine R_aload_n 72 rfl dX11_widest_71 rfl ?_
              refine R_iload 74 rfl dX11_widest_72 rfl ?_
              refine R_iconst 75 rfl dX11_widest_74 ?_
              refine R_idiv_p 76 rfl dX11_widest_75 (by first | assumption | exact ⟨by omega, by omega⟩) (by first | assumption | exact ⟨by omega, by omega⟩) (by omega) (by omega) ?_
              refine R_iload 78 rfl dX11_widest_76 rfl ?_
              refine R_iconst 79 rfl dX11_widest_78 ?_
              refine R_irem_p 80 rfl dX11_widest_79 (by first | assumption | exact ⟨by omega, by omega⟩) (by first | assumption | exact ⟨by omega, by omega⟩) (by omega) (by omega) ?_
              refine R_iconst 81 rfl dX11_widest_80 ?_
              refine R_callV_i (M' := mX11_of5) 84 rfl dX11_widest_81 ml_X11_198 kmX11_of5 im_X11_of5 se_X11_of5 rfl ⟨by decide, rfl⟩ (c_X11_of5 _ _ _ q 0 hR (by omega) (by omega) (by omega) (by omega) (by omega)) rfl rfl ⟨Nat.le_of_ble_eq_true rfl, Nat.le_of_ble_eq_true rfl⟩ (Nat.le_of_ble_eq_true rfl) ⟨Nat.le_of_ble_eq_true rfl, Nat.le_of_ble_eq_true rfl⟩ ?_
              refine R_iconst 85 rfl dX11_widest_84 ?_
              refine R_icmp_ne 88 92 rfl rfl dX11_widest_85 (by first | assumption | exact ⟨by omega, by omega⟩) (by first | assumption | exact ⟨by omega, by omega⟩) (fun h85 => ?_) (fun h85 => ?_)
              · refine R_iconst 93 rfl dX11_widest_92 ?_
                refine R_istore [_, _, _, _, _, _, _] 95 rfl dX11_widest_93 rfl (by decide) ?_
                refine R_aload_n 96 rfl dX11_widest_95 rfl ?_
                refine R_iload_n 97 rfl dX11_widest_96 rfl ?_
                refine R_iconst 98 rfl dX11_widest_97 ?_
                refine R_idiv_p 99 rfl dX11_widest_98 (by first | assumption | exact ⟨by omega, by omega⟩) (by first | assumption | exact ⟨by omega, by omega⟩) (by omega) (by omega) ?_
                refine R_iload_n 100 rfl dX11_widest_99 rfl ?_
                refine R_iconst 101 rfl dX11_widest_100 ?_
                refine R_irem_p 102 rfl dX11_widest_101 (by first | assumption | exact ⟨by omega, by omega⟩) (by first | assumption | exact ⟨by omega, by omega⟩) (by omega) (by omega) ?_
                refine R_iconst 103 rfl dX11_widest_102 ?_
                refine R_callV_i (M' := mX11_of5) 106 rfl dX11_widest_103 ml_X11_198 kmX11_of5 im_X11_of5 se_X11_of5 rfl ⟨by decide, rfl⟩ (c_X11_of5 _ _ _ k 2 hR (by omega) (by omega) (by omega) (by omega) (by omega)) rfl rfl ⟨Nat.le_of_ble_eq_true rfl, Nat.le_of_ble_eq_true rfl⟩ (Nat.le_of_ble_eq_true rfl) ⟨Nat.le_of_ble_eq_true rfl, Nat.le_of_ble_eq_true rfl⟩ ?_
                refine R_top (b := ((B.2.2 2 k).toNat : Int)) (by omega) ?_
                refine R_aload_n 107 rfl dX11_widest_106 rfl ?_
                refine R_iload 109 rfl dX11_widest_107 rfl ?_
                refine R_iconst 110 rfl dX11_widest_109 ?_
                refine R_idiv_p 111 rfl dX11_widest_110 (by first | assumption | exact ⟨by omega, by omega⟩) (by first | assumption | exact ⟨by omega, by omega⟩) (by omega) (by omega) ?_
                refine R_iload 113 rfl dX11_widest_111 rfl ?_
                refine R_iconst 114 rfl dX11_widest_113 ?_
                refine R_irem_p 115 rfl dX11_widest_114 (by first | assumption | exact ⟨by omega, by omega⟩) (by first | assumption | exact ⟨by omega, by omega⟩) (by omega) (by omega) ?_
                refine R_iconst 116 rfl dX11_widest_115 ?_
                refine R_callV_i (M' := mX11_of5) 119 rfl dX11_widest_116 ml_X11_198 kmX11_of5 im_X11_of5 se_X11_of5 rfl ⟨by decide, rfl⟩ (c_X11_of5 _ _ _ q 2 hR (by omega) (by omega) (by omega) (by omega) (by omega)) rfl rfl ⟨Nat.le_of_ble_eq_true rfl, Nat.le_of_ble_eq_true rfl⟩ (Nat.le_of_ble_eq_true rfl) ⟨Nat.le_of_ble_eq_true rfl, Nat.le_of_ble_eq_true rfl⟩ ?_
                refine R_top (b := ((B.2.2 2 q).toNat : Int)) (by omega) ?_
                refine R_ixor 120 rfl dX11_widest_119 ?_
                refine R_callS_i (M' := mX11_bitsOf) 123 rfl dX11_widest_120 ml_X11_204 kmX11_bitsOf st_X11_bitsOf (c_X11_bitsOf _ (Nat.lt_of_lt_of_le (Nat.xor_lt_two_pow (n := 8) (by omega) (by omega)) (by decide))) rfl rfl ⟨Nat.le_of_ble_eq_true rfl, Nat.le_of_ble_eq_true rfl⟩ (Nat.le_of_ble_eq_true rfl) ⟨Nat.le_of_ble_eq_true rfl, Nat.le_of_ble_eq_true rfl⟩ ?_
                refine R_top (b := ap (B.2.2 2 k) (B.2.2 2 q)) rfl ?_
                refine R_istore [_, _, _, _, _, _, _] 125 rfl dX11_widest_123 rfl (by decide) ?_
                refine R_iload 127 rfl dX11_widest_125 rfl ?_
                refine R_if_eq 130 141 rfl rfl dX11_widest_127 (by first | assumption | exact ⟨by omega, by omega⟩) (fun h127 => ?_) (fun h127 => ?_)
                rotate_left
                · exact absurd h127 (by omega)
                refine R_iload_n 142 rfl dX11_widest_141 rfl ?_
                refine R_istore_n [_, _, _, _, _, _, _] 143 rfl dX11_widest_142 rfl (by decide) ?_
                refine R_iinc [_, _, _, _, _, _, _] 146 rfl dX11_widest_143 rfl rfl (by decide) ?_
                refine R_goto 18 rfl dX11_widest_146 ?_
                first
                  | (rw [if_pos ⟨ek.mpr (by omega), eq.mpr (by omega)⟩] at ws
                     exact ih2 (by omega) _ _ _ _ (by omega) (by omega))
                  | (rw [if_neg (fun w => by have := eq.mp w.2; omega)] at ws
                     exact ih2 (by omega) _ _ _ _ (by omega) (by omega))
              · refine R_iconst 89 rfl dX11_widest_88 ?_
                refine R_goto 93 rfl dX11_widest_89 ?_
                refine R_istore [_, _, _, _, _, _, _] 95 rfl dX11_widest_93 rfl (by decide) ?_
                refine R_aload_n 96 rfl dX11_widest_95 rfl ?_
                refine R_iload_n 97 rfl dX11_widest_96 rfl ?_
                refine R_iconst 98 rfl dX11_widest_97 ?_
                refine R_idiv_p 99 rfl dX11_widest_98 (by first | assumption | exact ⟨by omega, by omega⟩) (by first | assumption | exact ⟨by omega, by omega⟩) (by omega) (by omega) ?_
                refine R_iload_n 100 rfl dX11_widest_99 rfl ?_
                refine R_iconst 101 rfl dX11_widest_100 ?_
                refine R_irem_p 102 rfl dX11_widest_101 (by first | assumption | exact ⟨by omega, by omega⟩) (by first | assumption | exact ⟨by omega, by omega⟩) (by omega) (by omega) ?_
                refine R_iconst 103 rfl dX11_widest_102 ?_
                refine R_callV_i (M' := mX11_of5) 106 rfl dX11_widest_103 ml_X11_198 kmX11_of5 im_X11_of5 se_X11_of5 rfl ⟨by decide, rfl⟩ (c_X11_of5 _ _ _ k 2 hR (by omega) (by omega) (by omega) (by omega) (by omega)) rfl rfl ⟨Nat.le_of_ble_eq_true rfl, Nat.le_of_ble_eq_true rfl⟩ (Nat.le_of_ble_eq_true rfl) ⟨Nat.le_of_ble_eq_true rfl, Nat.le_of_ble_eq_true rfl⟩ ?_
                refine R_top (b := ((B.2.2 2 k).toNat : Int)) (by omega) ?_
                refine R_aload_n 107 rfl dX11_widest_106 rfl ?_
                refine R_iload 109 rfl dX11_widest_107 rfl ?_
                refine R_iconst 110 rfl dX11_widest_109 ?_
                refine R_idiv_p 111 rfl dX11_widest_110 (by first | assumption | exact ⟨by omega, by omega⟩) (by first | assumption | exact ⟨by omega, by omega⟩) (by omega) (by omega) ?_
                refine R_iload 113 rfl dX11_widest_111 rfl ?_
                refine R_iconst 114 rfl dX11_widest_113 ?_
                refine R_irem_p 115 rfl dX11_widest_114 (by first | assumption | exact ⟨by omega, by omega⟩) (by first | assumption | exact ⟨by omega, by omega⟩) (by omega) (by omega) ?_
                refine R_iconst 116 rfl dX11_widest_115 ?_
                refine R_callV_i (M' := mX11_of5) 119 rfl dX11_widest_116 ml_X11_198 kmX11_of5 im_X11_of5 se_X11_of5 rfl ⟨by decide, rfl⟩ (c_X11_of5 _ _ _ q 2 hR (by omega) (by omega) (by omega) (by omega) (by omega)) rfl rfl ⟨Nat.le_of_ble_eq_true rfl, Nat.le_of_ble_eq_true rfl⟩ (Nat.le_of_ble_eq_true rfl) ⟨Nat.le_of_ble_eq_true rfl, Nat.le_of_ble_eq_true rfl⟩ ?_
                refine R_top (b := ((B.2.2 2 q).toNat : Int)) (by omega) ?_
                refine R_ixor 120 rfl dX11_widest_119 ?_
                refine R_callS_i (M' := mX11_bitsOf) 123 rfl dX11_widest_120 ml_X11_204 kmX11_bitsOf st_X11_bitsOf (c_X11_bitsOf _ (Nat.lt_of_lt_of_le (Nat.xor_lt_two_pow (n := 8) (by omega) (by omega)) (by decide))) rfl rfl ⟨Nat.le_of_ble_eq_true rfl, Nat.le_of_ble_eq_true rfl⟩ (Nat.le_of_ble_eq_true rfl) ⟨Nat.le_of_ble_eq_true rfl, Nat.le_of_ble_eq_true rfl⟩ ?_
                refine R_top (b := ap (B.2.2 2 k) (B.2.2 2 q)) rfl ?_
                refine R_istore [_, _, _, _, _, _, _] 125 rfl dX11_widest_123 rfl (by decide) ?_
                refine R_iload 127 rfl dX11_widest_125 rfl ?_
                refine R_if_eq 130 141 rfl rfl dX11_widest_127 (by first | assumption | exact ⟨by omega, by omega⟩) (fun h127 => ?_) (fun h127 => ?_)
                · exact absurd h127 (by omega)
                refine R_iload 132 rfl dX11_widest_130 rfl ?_
                refine R_iload_n 133 rfl dX11_widest_132 rfl ?_
                refine R_icmp_le 136 141 rfl rfl dX11_widest_133 (by first | assumption | exact ⟨by omega, by omega⟩) (by first | assumption | exact ⟨by omega, by omega⟩) (fun h133 => ?_) (fun h133 => ?_)
                · refine R_iload_n 142 rfl dX11_widest_141 rfl ?_
                  refine R_istore_n [_, _, _, _, _, _, _] 143 rfl dX11_widest_142 rfl (by decide) ?_
                  refine R_iinc [_, _, _, _, _, _, _] 146 rfl dX11_widest_143 rfl rfl (by decide) ?_
                  refine R_goto 18 rfl dX11_widest_146 ?_
                  first
                    | (rw [if_pos ⟨ek.mpr (by omega), eq.mpr (by omega)⟩] at ws
                       exact ih2 (by omega) _ _ _ _ (by omega) (by omega))
                    | (rw [if_neg (fun w => by have := eq.mp w.2; omega)] at ws
                       exact ih2 (by omega) _ _ _ _ (by omega) (by omega))
                · refine R_iload 138 rfl dX11_widest_136 rfl ?_
                  refine R_goto 142 rfl dX11_widest_138 ?_
                  refine R_istore_n [_, _, _, _, _, _, _] 143 rfl dX11_widest_142 rfl (by decide) ?_
                  refine R_iinc [_, _, _, _, _, _, _] 146 rfl dX11_widest_143 rfl rfl (by decide) ?_
                  refine R_goto 18 rfl dX11_widest_146 ?_
                  first
                    | (rw [if_pos ⟨ek.mpr (by omega), eq.mpr (by omega)⟩] at ws
                       exact ih2 (by omega) _ _ _ _ (by omega) (by omega))
                    | (rw [if_neg (fun w => by have := eq.mp w.2; omega)] at ws
                       exact ih2 (by omega) _ _ _ _ (by omega) (by omega))
    refine R_iload_n 6 rfl dX11_widest_5 rfl ?_
    refine R_iconst 7 rfl dX11_widest_6 ?_
    refine R_aload_n 8 rfl dX11_widest_7 rfl ?_
    refine R_callV_i (M' := mX11_size) 11 rfl dX11_widest_8 ml_X11_150 kmX11_size im_X11_size se_X11_size rfl ⟨by decide, rfl⟩ (c_X11_size hR) rfl rfl ⟨Nat.le_of_ble_eq_true rfl, Nat.le_of_ble_eq_true rfl⟩ (Nat.le_of_ble_eq_true rfl) ⟨Nat.le_of_ble_eq_true rfl, Nat.le_of_ble_eq_true rfl⟩ ?_
    refine R_imul 12 rfl dX11_widest_11 ?_
    refine R_icmp_ge 15 155 rfl rfl dX11_widest_12 (by first | assumption | exact ⟨by omega, by omega⟩) (by first | assumption | exact ⟨by omega, by omega⟩) (fun h12 => ?_) (fun h12 => ?_)
    · refine R_iload_n 156 rfl dX11_widest_155 rfl ?_
      refine R_ireturn dX11_widest_156 rfl ?_
      exact Qi_mk (by rw [ha, show k = 2 * B.1 by omega])
    · refine R_iconst 16 rfl dX11_widest_15 ?_
      refine R_istore [_, _, _, _, _, _, _] 18 rfl dX11_widest_16 rfl (by decide) ?_
      exact Li (by omega) 0 (by omega) _ _ _ _ ha rfl
  refine R_bipush 2 rfl dX11_widest_0 (by decide) ?_
  refine R_istore_n [_, _, _, _, _, _, _] 3 rfl dX11_widest_2 rfl (by decide) ?_
  refine R_iconst 4 rfl dX11_widest_3 ?_
  refine R_istore_n [_, _, _, _, _, _, _] 5 rfl dX11_widest_4 rfl (by decide) ?_
  exact Lo 0 (by omega) _ _ _ _ _ rfl rfl
theorem c_X11_person (p w : Int) (hR : RS L B ch m) (hp : rg p) (hw : rg w) : C Γ mX11_person 2 80 0 0 [vr 96, vi p, vi w] SH m (QM L B ch m (a_person B p w)) := by
  refine C_of_R rfl (Nat.le_of_ble_eq_true rfl) ?_
  have hw1 := hw.1
  have hw2 := hw.2
  refine R_iload_n 1 rfl dX11_person_0 rfl ?_
  refine R_i2l 2 rfl dX11_person_1 (by first | assumption | exact ⟨by omega, by omega⟩) ?_
  refine R_lconst 3 rfl dX11_person_2 ?_
  refine R_topL (b := 1) rfl ?_
  refine R_ldc2 (99) 6 rfl dX11_person_3 kl_X11_189 (by decide) ?_
  refine R_callS_i (M' := mX11_in) 9 rfl dX11_person_6 ml_X11_63 kmX11_in st_X11_in (c_X11_in _ _ _ (by first | assumption | exact ⟨by omega, by omega⟩ | exact rg_L (by assumption)) (by first | assumption | exact ⟨by omega, by omega⟩ | exact rg_L (by assumption)) (by first | assumption | exact ⟨by omega, by omega⟩ | exact rg_L (by assumption))) rfl rfl ⟨Nat.le_of_ble_eq_true rfl, Nat.le_of_ble_eq_true rfl⟩ (Nat.le_of_ble_eq_true rfl) ⟨Nat.le_of_ble_eq_true rfl, Nat.le_of_ble_eq_true rfl⟩ ?_
  refine R_ifp_ne 12 14 rfl rfl dX11_person_9 (fun h9 => ?_) (fun h9 => ?_)
  · refine R_iload_n 15 rfl dX11_person_14 rfl ?_
    rcases (show w < 0 ∨ 4 < w ∨ w = 0 ∨ w = 1 ∨ w = 2 ∨ w = 3 ∨ w = 4 by omega) with h15 | h15 | rfl | rfl | rfl | rfl | rfl
    · refine R_tsOut 107 dX11_person_15 (by first | assumption | exact ⟨by omega, by omega⟩) (by omega) rfl ?_
      refine R_iconst 108 rfl dX11_person_107 ?_
      refine R_ireturn dX11_person_108 rfl ?_
      exact QI_mk ⟨by unfold a_person; rw [if_neg (by omega)], Fm.rf, hR⟩
    · refine R_tsOut 107 dX11_person_15 (by first | assumption | exact ⟨by omega, by omega⟩) (by omega) rfl ?_
      refine R_iconst 108 rfl dX11_person_107 ?_
      refine R_ireturn dX11_person_108 rfl ?_
      exact QI_mk ⟨by unfold a_person; rw [if_neg (by omega)], Fm.rf, hR⟩
    · refine R_tsIn 48 dX11_person_15 ⟨by omega, by omega⟩ (by omega) (by omega) rfl rfl ?_
      refine R_aload_n 49 rfl dX11_person_48 rfl ?_
      refine R_iload_n 50 rfl dX11_person_49 rfl ?_
      refine R_iconst 51 rfl dX11_person_50 ?_
      refine R_callV_i (M' := mX11_marksOf) 54 rfl dX11_person_51 ml_X11_318 kmX11_marksOf im_X11_marksOf se_X11_marksOf rfl ⟨by decide, rfl⟩ (c_X11_marksOf _ _ hR hp ⟨by omega, by omega⟩) rfl rfl ⟨Nat.le_of_ble_eq_true rfl, Nat.le_of_ble_eq_true rfl⟩ (Nat.le_of_ble_eq_true rfl) ⟨Nat.le_of_ble_eq_true rfl, Nat.le_of_ble_eq_true rfl⟩ ?_
      refine R_aload_n 55 rfl dX11_person_54 rfl ?_
      refine R_iload_n 56 rfl dX11_person_55 rfl ?_
      refine R_iconst 57 rfl dX11_person_56 ?_
      refine R_callV_i (M' := mX11_marksOf) 60 rfl dX11_person_57 ml_X11_318 kmX11_marksOf im_X11_marksOf se_X11_marksOf rfl ⟨by decide, rfl⟩ (c_X11_marksOf _ _ hR hp ⟨by omega, by omega⟩) rfl rfl ⟨Nat.le_of_ble_eq_true rfl, Nat.le_of_ble_eq_true rfl⟩ (Nat.le_of_ble_eq_true rfl) ⟨Nat.le_of_ble_eq_true rfl, Nat.le_of_ble_eq_true rfl⟩ ?_
      refine R_iadd 61 rfl dX11_person_60 ?_
      refine R_ireturn dX11_person_61 rfl ?_
      exact QI_mk ⟨by unfold a_person; rw [if_pos (by omega), if_pos rfl, Int.add_comm], Fm.rf, hR⟩
    · refine R_tsIn 62 dX11_person_15 ⟨by omega, by omega⟩ (by omega) (by omega) rfl rfl ?_
      refine R_aload_n 63 rfl dX11_person_62 rfl ?_
      refine R_iload_n 64 rfl dX11_person_63 rfl ?_
      refine R_iconst 65 rfl dX11_person_64 ?_
      refine R_callV_i (M' := mX11_marksOf) 68 rfl dX11_person_65 ml_X11_318 kmX11_marksOf im_X11_marksOf se_X11_marksOf rfl ⟨by decide, rfl⟩ (c_X11_marksOf _ _ hR hp ⟨by omega, by omega⟩) rfl rfl ⟨Nat.le_of_ble_eq_true rfl, Nat.le_of_ble_eq_true rfl⟩ (Nat.le_of_ble_eq_true rfl) ⟨Nat.le_of_ble_eq_true rfl, Nat.le_of_ble_eq_true rfl⟩ ?_
      refine R_ireturn dX11_person_68 rfl ?_
      exact QI_mk ⟨by unfold a_person; rw [if_pos (by omega)]; simp, Fm.rf, hR⟩
    · refine R_tsIn 69 dX11_person_15 ⟨by omega, by omega⟩ (by omega) (by omega) rfl rfl ?_
      refine R_aload_n 70 rfl dX11_person_69 rfl ?_
      refine R_iload_n 71 rfl dX11_person_70 rfl ?_
      refine R_iconst 72 rfl dX11_person_71 ?_
      refine R_iconst 73 rfl dX11_person_72 ?_
      refine R_callV_i (M' := mX11_isLater) 76 rfl dX11_person_73 ml_X11_321 kmX11_isLater im_X11_isLater se_X11_isLater rfl ⟨by decide, rfl⟩ (c_X11_isLater _ _ _ hR hp (Or.inl ⟨rfl, rfl⟩)) rfl rfl ⟨Nat.le_of_ble_eq_true rfl, Nat.le_of_ble_eq_true rfl⟩ (Nat.le_of_ble_eq_true rfl) ⟨Nat.le_of_ble_eq_true rfl, Nat.le_of_ble_eq_true rfl⟩ ?_
      refine R_ifp_eq 79 83 rfl rfl dX11_person_76 (fun h76 => ?_) (fun h76 => ?_)
      · refine R_iconst 84 rfl dX11_person_83 ?_
        refine R_ireturn dX11_person_84 rfl ?_
        first | exact QI_mk ⟨by unfold a_person; rw [if_pos (by omega)]; simp; exact pI_1 h76, Fm.rf, hR⟩ | exact QI_mk ⟨by unfold a_person; rw [if_pos (by omega)]; simp; exact pI_0 h76, Fm.rf, hR⟩
      · refine R_iconst 80 rfl dX11_person_79 ?_
        refine R_goto 84 rfl dX11_person_80 ?_
        refine R_ireturn dX11_person_84 rfl ?_
        first | exact QI_mk ⟨by unfold a_person; rw [if_pos (by omega)]; simp; exact pI_1 h76, Fm.rf, hR⟩ | exact QI_mk ⟨by unfold a_person; rw [if_pos (by omega)]; simp; exact pI_0 h76, Fm.rf, hR⟩
    · refine R_tsIn 85 dX11_person_15 ⟨by omega, by omega⟩ (by omega) (by omega) rfl rfl ?_
      refine R_aload_n 86 rfl dX11_person_85 rfl ?_
      refine R_iload_n 87 rfl dX11_person_86 rfl ?_
      refine R_iconst 88 rfl dX11_person_87 ?_
      refine R_iconst 89 rfl dX11_person_88 ?_
      refine R_callV_i (M' := mX11_isLater) 92 rfl dX11_person_89 ml_X11_321 kmX11_isLater im_X11_isLater se_X11_isLater rfl ⟨by decide, rfl⟩ (c_X11_isLater _ _ _ hR hp (Or.inr ⟨rfl, rfl⟩)) rfl rfl ⟨Nat.le_of_ble_eq_true rfl, Nat.le_of_ble_eq_true rfl⟩ (Nat.le_of_ble_eq_true rfl) ⟨Nat.le_of_ble_eq_true rfl, Nat.le_of_ble_eq_true rfl⟩ ?_
      refine R_ifp_eq 95 99 rfl rfl dX11_person_92 (fun h92 => ?_) (fun h92 => ?_)
      · refine R_iconst 100 rfl dX11_person_99 ?_
        refine R_ireturn dX11_person_100 rfl ?_
        first | exact QI_mk ⟨by unfold a_person; rw [if_pos (by omega)]; simp; exact pI_1 h92, Fm.rf, hR⟩ | exact QI_mk ⟨by unfold a_person; rw [if_pos (by omega)]; simp; exact pI_0 h92, Fm.rf, hR⟩
      · refine R_iconst 96 rfl dX11_person_95 ?_
        refine R_goto 100 rfl dX11_person_96 ?_
        refine R_ireturn dX11_person_100 rfl ?_
        first | exact QI_mk ⟨by unfold a_person; rw [if_pos (by omega)]; simp; exact pI_1 h92, Fm.rf, hR⟩ | exact QI_mk ⟨by unfold a_person; rw [if_pos (by omega)]; simp; exact pI_0 h92, Fm.rf, hR⟩
    · refine R_tsIn 101 dX11_person_15 ⟨by omega, by omega⟩ (by omega) (by omega) rfl rfl ?_
      refine R_aload_n 102 rfl dX11_person_101 rfl ?_
      refine R_iload_n 103 rfl dX11_person_102 rfl ?_
      refine R_callV_i (M' := mX11_widest) 106 rfl dX11_person_103 ml_X11_325 kmX11_widest im_X11_widest se_X11_widest rfl ⟨by decide, rfl⟩ (c_X11_widest _ hR hp) rfl rfl ⟨Nat.le_of_ble_eq_true rfl, Nat.le_of_ble_eq_true rfl⟩ (Nat.le_of_ble_eq_true rfl) ⟨Nat.le_of_ble_eq_true rfl, Nat.le_of_ble_eq_true rfl⟩ ?_
      refine R_ireturn dX11_person_106 rfl ?_
      exact QI_mk ⟨by unfold a_person; rw [if_pos (by omega), wOut_m4]; simp, Fm.rf, hR⟩
  · refine R_iconst 13 rfl dX11_person_12 ?_
    refine R_ireturn dX11_person_13 rfl ?_
    exact QI_mk ⟨by unfold a_person; rw [if_neg (by omega)], Fm.rf, hR⟩
end
