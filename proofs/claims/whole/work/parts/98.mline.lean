theorem body_nm {T : Tp} {st : St} : (nm T st = 0 → bodyT T st = parishT T st) ∧ (nm T st = 1 → bodyT T st = clerkT T st) ∧ (nm T st = 2 → bodyT T st = triedT T st) ∧ (nm T st = 3 → bodyT T st = ruleT T 1 5 20 2 st) ∧ (nm T st = 4 → bodyT T st = agesT T st) ∧ (nm T st = 5 → bodyT T st = ruleT T 4 0 999 5 st) ∧ (nm T st = 6 → bodyT T st = ruleT T 8 0 8 6 st) ∧ (¬ (0 ≤ nm T st ∧ nm T st ≤ 6) → bodyT T st = .inl (2, st.2.1)) := by
  have n0 := nm_iff (T := T) (st := st) (j := 0) (by decide)
  have n1 := nm_iff (T := T) (st := st) (j := 1) (by decide)
  have n2 := nm_iff (T := T) (st := st) (j := 2) (by decide)
  have n3 := nm_iff (T := T) (st := st) (j := 3) (by decide)
  have n4 := nm_iff (T := T) (st := st) (j := 4) (by decide)
  have n5 := nm_iff (T := T) (st := st) (j := 5) (by decide)
  have n6 := nm_iff (T := T) (st := st) (j := 6) (by decide)
  unfold bodyT
  generalize nm T st = n at n0 n1 n2 n3 n4 n5 n6
  refine ⟨fun h => ?_, fun h => ?_, fun h => ?_, fun h => ?_, fun h => ?_, fun h => ?_, fun h => ?_, fun h => ?_⟩
  · rw [if_pos (n0.mp (by omega))]
  · rw [if_neg (fun w => by have := n0.mpr w; omega), if_pos (n1.mp (by omega))]
  · rw [if_neg (fun w => by have := n0.mpr w; omega), if_neg (fun w => by have := n1.mpr w; omega), if_pos (n2.mp (by omega))]
  · rw [if_neg (fun w => by have := n0.mpr w; omega), if_neg (fun w => by have := n1.mpr w; omega), if_neg (fun w => by have := n2.mpr w; omega), if_pos (n3.mp (by omega))]
  · rw [if_neg (fun w => by have := n0.mpr w; omega), if_neg (fun w => by have := n1.mpr w; omega), if_neg (fun w => by have := n2.mpr w; omega), if_neg (fun w => by have := n3.mpr w; omega), if_pos (n4.mp (by omega))]
  · rw [if_neg (fun w => by have := n0.mpr w; omega), if_neg (fun w => by have := n1.mpr w; omega), if_neg (fun w => by have := n2.mpr w; omega), if_neg (fun w => by have := n3.mpr w; omega), if_neg (fun w => by have := n4.mpr w; omega), if_pos (n5.mp (by omega))]
  · rw [if_neg (fun w => by have := n0.mpr w; omega), if_neg (fun w => by have := n1.mpr w; omega), if_neg (fun w => by have := n2.mpr w; omega), if_neg (fun w => by have := n3.mpr w; omega), if_neg (fun w => by have := n4.mpr w; omega), if_neg (fun w => by have := n5.mpr w; omega), if_pos (n6.mp (by omega))]
  · rw [if_neg (fun w => by have := n0.mpr w; omega), if_neg (fun w => by have := n1.mpr w; omega), if_neg (fun w => by have := n2.mpr w; omega), if_neg (fun w => by have := n3.mpr w; omega), if_neg (fun w => by have := n4.mpr w; omega), if_neg (fun w => by have := n5.mpr w; omega), if_neg (fun w => by have := n6.mpr w; omega)]
section
variable {Γ : GX} {m m' m'' : Mem} {T : Tp} {L : Ld} {x : PX St}
theorem c_X11_readLine (st : St) (hb : MB T m) (hx : MCa T m st) : C Γ mX11_readLine 5 200 0 0 [vr 96] SH m (QV SH (fun m' => Fy m m' ∧ MCx T m' (lineT T st))) := by
  refine C_of_R rfl (Nat.le_of_ble_eq_true rfl) ?_
  have hx0 : MCx T m (.inr st) := hx
  have bn := body_nm (T := T) (st := st)
  have nr := nm_rg (T := T) (st := st)
  have L63 : ∀ x mm y, bodyT T st = x → Fy m mm → MCx T mm x → R Γ mX11_readLine { frames := 5, cells := 0, slots := 0, locals := 200 } 0 0 (QV SH (fun m' => Fy m m' ∧ MCx T m' (lineT T st))) 0 0 63 [some (vr 96), y] [] SH mm := by
    intro x mm y he fm pm
    have bm := hb.fy fm
    have el : lineT T st = pb x (stp T) := by unfold lineT; rw [he]
    clear bn
    cases x with
    | inl e =>
      have q3 := pm.1
      have q1 := pm.2.2
      refine R_aload_n 64 rfl dX11_readLine_63 rfl ?_
      refine R_getI 3 67 rfl dX11_readLine_64 rfl rfl fl_X11_67 ?_
      refine R_if_ne 70 83 rfl rfl dX11_readLine_67 (by first | assumption | exact ⟨by omega, by omega⟩) (fun h67 => ?_) (fun h67 => ?_)
      · refine R_aload_n 84 rfl dX11_readLine_83 rfl ?_
        refine R_callV_V (M' := mX11_next2) 87 rfl dX11_readLine_84 ml_X11_101 kmX11_next2 im_X11_next2 se_X11_next2 rfl ⟨by decide, rfl⟩ (c_X11_next2 _ bm pm) rfl rfl ⟨Nat.le_of_ble_eq_true rfl, Nat.le_of_ble_eq_true rfl⟩ (Nat.le_of_ble_eq_true rfl) ⟨Nat.le_of_ble_eq_true rfl, Nat.le_of_ble_eq_true rfl⟩ ?_
        rintro m84 h84
        obtain ⟨f84, p84⟩ := h84
        refine R_return dX11_readLine_87 rfl ?_
        rw [el]
        exact QV_mk ⟨fm.tr f84.y, p84⟩
      · exfalso; omega
    | inr s =>
      have q3 := pm.1
      have q7 := pm.2.2.2.1
      have v4 := pm.2.2.2.2.2.2.1.2.2.2.1
      have el2 : lineT T st = if s.2.2.1 = 3 then adv T s else .inl (2, s.2.1) := el
      have L83 : s.2.2.1 ≠ 3 → ∀ m2, Fy m m2 → MCx T m2 (.inl (2, s.2.1)) → R Γ mX11_readLine { frames := 5, cells := 0, slots := 0, locals := 200 } 0 0 (QV SH (fun m' => Fy m m' ∧ MCx T m' (lineT T st))) 0 0 83 [some (vr 96), y] [] SH m2 := by
        intro t3 m2 f2 p2
        rw [if_neg t3] at el2
        refine R_aload_n 84 rfl dX11_readLine_83 rfl ?_
        refine R_callV_V (M' := mX11_next2) 87 rfl dX11_readLine_84 ml_X11_101 kmX11_next2 im_X11_next2 se_X11_next2 rfl ⟨by decide, rfl⟩ (c_X11_next2 _ (hb.fy f2) p2) rfl rfl ⟨Nat.le_of_ble_eq_true rfl, Nat.le_of_ble_eq_true rfl⟩ (Nat.le_of_ble_eq_true rfl) ⟨Nat.le_of_ble_eq_true rfl, Nat.le_of_ble_eq_true rfl⟩ ?_
        rintro m84 h84
        obtain ⟨f84, p84⟩ := h84
        refine R_return dX11_readLine_87 rfl ?_
        rw [el2]
        exact QV_mk ⟨f2.tr f84.y, p84⟩
      have M83 : s.2.2.1 = 3 → R Γ mX11_readLine { frames := 5, cells := 0, slots := 0, locals := 200 } 0 0 (QV SH (fun m' => Fy m m' ∧ MCx T m' (lineT T st))) 0 0 83 [some (vr 96), y] [] SH mm := by
        intro t3
        rw [if_pos t3] at el2
        refine R_aload_n 84 rfl dX11_readLine_83 rfl ?_
        refine R_callV_V (M' := mX11_next2) 87 rfl dX11_readLine_84 ml_X11_101 kmX11_next2 im_X11_next2 se_X11_next2 rfl ⟨by decide, rfl⟩ (c_X11_next2 (.inr s) bm pm) rfl rfl ⟨Nat.le_of_ble_eq_true rfl, Nat.le_of_ble_eq_true rfl⟩ (Nat.le_of_ble_eq_true rfl) ⟨Nat.le_of_ble_eq_true rfl, Nat.le_of_ble_eq_true rfl⟩ ?_
        rintro m84 h84
        obtain ⟨f84, p84⟩ := h84
        refine R_return dX11_readLine_87 rfl ?_
        rw [el2]
        exact QV_mk ⟨fm.tr f84.y, p84⟩
      refine R_aload_n 64 rfl dX11_readLine_63 rfl ?_
      refine R_getI 3 67 rfl dX11_readLine_64 rfl rfl fl_X11_67 ?_
      refine R_if_ne 70 83 rfl rfl dX11_readLine_67 (by first | assumption | exact ⟨by omega, by omega⟩) (fun h67 => ?_) (fun h67 => ?_)
      · first | (exfalso; omega) | exact M83 (by omega) | exact L83 (by omega) _ (fm.tr f80.y) p80
      · refine R_aload_n 71 rfl dX11_readLine_70 rfl ?_
        refine R_getI 7 74 rfl dX11_readLine_71 rfl rfl fl_X11_76 ?_
        refine R_iconst 75 rfl dX11_readLine_74 ?_
        refine R_icmp_eq 78 83 rfl rfl dX11_readLine_75 (by first | assumption | exact ⟨by omega, by omega⟩) (by first | assumption | exact ⟨by omega, by omega⟩) (fun h75 => ?_) (fun h75 => ?_)
        · first | (exfalso; omega) | exact M83 (by omega) | exact L83 (by omega) _ (fm.tr f80.y) p80
        · refine R_aload_n 79 rfl dX11_readLine_78 rfl ?_
          refine R_iconst 80 rfl dX11_readLine_79 ?_
          refine R_callV_V (M' := mX11_fails) 83 rfl dX11_readLine_80 ml_X11_97 kmX11_fails im_X11_fails se_X11_fails rfl ⟨by decide, rfl⟩ (c_X11_fails 2 (.inr s) pm (by omega)) rfl rfl ⟨Nat.le_of_ble_eq_true rfl, Nat.le_of_ble_eq_true rfl⟩ (Nat.le_of_ble_eq_true rfl) ⟨Nat.le_of_ble_eq_true rfl, Nat.le_of_ble_eq_true rfl⟩ ?_
          rintro m80 h80
          obtain ⟨f80, p80⟩ := h80
          first | (exfalso; omega) | exact M83 (by omega) | exact L83 (by omega) _ (fm.tr f80.y) p80
  have L58 : ∀ y : Nat, ∀ X, bodyT T st = X → (C Γ mX11_readRule 3 120 0 0 [vr 96, vi (y : Int)] SH m (QV SH (fun m' => Fy m m' ∧ MCx T m' X))) → R Γ mX11_readLine { frames := 5, cells := 0, slots := 0, locals := 200 } 0 0 (QV SH (fun m' => Fy m m' ∧ MCx T m' (lineT T st))) 0 0 58 [some (vr 96), some (vi (y : Int))] [] SH m := by
    intro y X hX hC
    refine R_aload_n 59 rfl dX11_readLine_58 rfl ?_
    refine R_iload_n 60 rfl dX11_readLine_59 rfl ?_
    refine R_callV_V (M' := mX11_readRule) 63 rfl dX11_readLine_60 ml_X11_129 kmX11_readRule im_X11_readRule se_X11_readRule rfl ⟨by decide, rfl⟩ (hC) rfl rfl ⟨Nat.le_of_ble_eq_true rfl, Nat.le_of_ble_eq_true rfl⟩ (Nat.le_of_ble_eq_true rfl) ⟨Nat.le_of_ble_eq_true rfl, Nat.le_of_ble_eq_true rfl⟩ ?_
    rintro m60 h60
    obtain ⟨f60, p60⟩ := h60
    exact L63 _ _ _ hX f60 p60
  refine R_aload_n 1 rfl dX11_readLine_0 rfl ?_
  refine R_callV_i (M' := mX11_nameHere) 4 rfl dX11_readLine_1 ml_X11_104 kmX11_nameHere im_X11_nameHere se_X11_nameHere rfl ⟨by decide, rfl⟩ (c_X11_nameHere st hb hx) rfl rfl ⟨Nat.le_of_ble_eq_true rfl, Nat.le_of_ble_eq_true rfl⟩ (Nat.le_of_ble_eq_true rfl) ⟨Nat.le_of_ble_eq_true rfl, Nat.le_of_ble_eq_true rfl⟩ ?_
  refine R_istore_n [_, _] 5 rfl dX11_readLine_4 rfl (by decide) ?_
  obtain ⟨c0, c1, c2, c3, c4, c5, c6, c7⟩ := bn
  generalize hN : nm T st = N at c0 c1 c2 c3 c4 c5 c6 c7 nr ⊢
  refine R_iload_n 6 rfl dX11_readLine_5 rfl ?_
  refine R_i2l 7 rfl dX11_readLine_6 (by first | assumption | exact ⟨by omega, by omega⟩) ?_
  refine R_lconst 8 rfl dX11_readLine_7 ?_
  refine R_topL (b := 0) rfl ?_
  refine R_ldc2 (6) 11 rfl dX11_readLine_8 kl_X11_118 (by decide) ?_
  refine R_callS_i (M' := mX11_in) 14 rfl dX11_readLine_11 ml_X11_63 kmX11_in st_X11_in (c_X11_in _ _ _ (by first | assumption | exact ⟨by omega, by omega⟩ | exact rg_L (by assumption)) (by first | assumption | exact ⟨by omega, by omega⟩ | exact rg_L (by assumption)) (by first | assumption | exact ⟨by omega, by omega⟩ | exact rg_L (by assumption))) rfl rfl ⟨Nat.le_of_ble_eq_true rfl, Nat.le_of_ble_eq_true rfl⟩ (Nat.le_of_ble_eq_true rfl) ⟨Nat.le_of_ble_eq_true rfl, Nat.le_of_ble_eq_true rfl⟩ ?_
  refine R_ifp_ne 17 23 rfl rfl dX11_readLine_14 (fun h14 => ?_) (fun h14 => ?_)
  · refine R_iload_n 24 rfl dX11_readLine_23 rfl ?_
    refine R_if_ne 27 34 rfl rfl dX11_readLine_24 (by first | assumption | exact ⟨by omega, by omega⟩) (fun h24 => ?_) (fun h24 => ?_)
    · refine R_iload_n 35 rfl dX11_readLine_34 rfl ?_
      refine R_iconst 36 rfl dX11_readLine_35 ?_
      refine R_icmp_ne 39 46 rfl rfl dX11_readLine_36 (by first | assumption | exact ⟨by omega, by omega⟩) (by first | assumption | exact ⟨by omega, by omega⟩) (fun h36 => ?_) (fun h36 => ?_)
      · refine R_iload_n 47 rfl dX11_readLine_46 rfl ?_
        refine R_iconst 48 rfl dX11_readLine_47 ?_
        refine R_icmp_ne 51 58 rfl rfl dX11_readLine_48 (by first | assumption | exact ⟨by omega, by omega⟩) (by first | assumption | exact ⟨by omega, by omega⟩) (fun h48 => ?_) (fun h48 => ?_)
        · rcases (show N = 3 ∨ N = 4 ∨ N = 5 ∨ N = 6 by omega) with e | e | e | e
          · subst e; exact L58 3 _ (c3 rfl) (c_X11_readRule3 st hb hx)
          · subst e; exact L58 4 _ (c4 rfl) (c_X11_readRule4 st hb hx)
          · subst e; exact L58 5 _ (c5 rfl) (c_X11_readRule5 st hb hx)
          · subst e; exact L58 6 _ (c6 rfl) (c_X11_readRule6 st hb hx)
        · refine R_aload_n 52 rfl dX11_readLine_51 rfl ?_
          refine R_callV_V (M' := mX11_readTried) 55 rfl dX11_readLine_52 ml_X11_126 kmX11_readTried im_X11_readTried se_X11_readTried rfl ⟨by decide, rfl⟩ (c_X11_readTried st hb hx) rfl rfl ⟨Nat.le_of_ble_eq_true rfl, Nat.le_of_ble_eq_true rfl⟩ (Nat.le_of_ble_eq_true rfl) ⟨Nat.le_of_ble_eq_true rfl, Nat.le_of_ble_eq_true rfl⟩ ?_
          rintro m52 h52
          obtain ⟨f52, p52⟩ := h52
          refine R_goto 63 rfl dX11_readLine_55 ?_
          first | exact L63 _ _ _ (c0 (by omega)) f28 p28 | exact L63 _ _ _ (c1 (by omega)) f40 p40 | exact L63 _ _ _ (c2 (by omega)) f52 p52
      · refine R_aload_n 40 rfl dX11_readLine_39 rfl ?_
        refine R_callV_V (M' := mX11_readClerk) 43 rfl dX11_readLine_40 ml_X11_123 kmX11_readClerk im_X11_readClerk se_X11_readClerk rfl ⟨by decide, rfl⟩ (c_X11_readClerk st hb hx) rfl rfl ⟨Nat.le_of_ble_eq_true rfl, Nat.le_of_ble_eq_true rfl⟩ (Nat.le_of_ble_eq_true rfl) ⟨Nat.le_of_ble_eq_true rfl, Nat.le_of_ble_eq_true rfl⟩ ?_
        rintro m40 h40
        obtain ⟨f40, p40⟩ := h40
        refine R_goto 63 rfl dX11_readLine_43 ?_
        first | exact L63 _ _ _ (c0 (by omega)) f28 p28 | exact L63 _ _ _ (c1 (by omega)) f40 p40 | exact L63 _ _ _ (c2 (by omega)) f52 p52
    · refine R_aload_n 28 rfl dX11_readLine_27 rfl ?_
      refine R_callV_V (M' := mX11_readParish) 31 rfl dX11_readLine_28 ml_X11_120 kmX11_readParish im_X11_readParish se_X11_readParish rfl ⟨by decide, rfl⟩ (c_X11_readParish st hb hx) rfl rfl ⟨Nat.le_of_ble_eq_true rfl, Nat.le_of_ble_eq_true rfl⟩ (Nat.le_of_ble_eq_true rfl) ⟨Nat.le_of_ble_eq_true rfl, Nat.le_of_ble_eq_true rfl⟩ ?_
      rintro m28 h28
      obtain ⟨f28, p28⟩ := h28
      refine R_goto 63 rfl dX11_readLine_31 ?_
      first | exact L63 _ _ _ (c0 (by omega)) f28 p28 | exact L63 _ _ _ (c1 (by omega)) f40 p40 | exact L63 _ _ _ (c2 (by omega)) f52 p52
  · refine R_aload_n 18 rfl dX11_readLine_17 rfl ?_
    refine R_iconst 19 rfl dX11_readLine_18 ?_
    refine R_callV_V (M' := mX11_fails) 22 rfl dX11_readLine_19 ml_X11_97 kmX11_fails im_X11_fails se_X11_fails rfl ⟨by decide, rfl⟩ (c_X11_fails 2 _ hx0 (by omega)) rfl rfl ⟨Nat.le_of_ble_eq_true rfl, Nat.le_of_ble_eq_true rfl⟩ (Nat.le_of_ble_eq_true rfl) ⟨Nat.le_of_ble_eq_true rfl, Nat.le_of_ble_eq_true rfl⟩ ?_
    rintro m19 h19
    obtain ⟨f19, p19⟩ := h19
    refine R_return dX11_readLine_22 rfl ?_
    have e : lineT T st = .inl (2, st.2.1) := by unfold lineT; rw [c7 (by omega)]; rfl
    rw [e]
    exact QV_mk ⟨f19.y, p19⟩
end
