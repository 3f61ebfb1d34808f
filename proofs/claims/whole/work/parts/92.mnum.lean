section
variable {Γ : GX} {m m' m'' : Mem} {T : Tp} {L : Ld} {x : PX St}
theorem c_X11_number (lo hi : Int) (x : PX St) (hb : MB T m) (hx : MCx T m x) (hr : ∀ s, x = .inr s → rg lo ∧ rg hi) : C Γ mX11_number 2 80 0 0 [vr 96, vi lo, vi hi] SH m (QI SH (fun z m' => Fn m m' ∧ MCx T m' (sx (pb x (num T lo hi))) ∧ (∀ v s, pb x (num T lo hi) = .inr (v, s) → z = v) ∧ (z = lo ∨ (0 ≤ z ∧ z ≤ 999)))) := by
  refine C_of_R rfl (Nat.le_of_ble_eq_true rfl) ?_
  have hx0 := hx
  cases x with
  | inl e =>
    have g3 := hx.1
    have g1 := hx.2.2
    refine R_aload_n 1 rfl dX11_number_0 rfl ?_
    refine R_getI 3 4 rfl dX11_number_1 rfl rfl fl_X11_67 ?_
    refine R_if_ne 7 20 rfl rfl dX11_number_4 (by first | assumption | exact ⟨by omega, by omega⟩) (fun h4 => ?_) (fun h4 => ?_)
    · refine R_aload_n 21 rfl dX11_number_20 rfl ?_
      refine R_getI 3 24 rfl dX11_number_21 rfl rfl fl_X11_67 ?_
      refine R_if_ne 27 47 rfl rfl dX11_number_24 (by first | assumption | exact ⟨by omega, by omega⟩) (fun h24 => ?_) (fun h24 => ?_)
      · refine R_aload_n 48 rfl dX11_number_47 rfl ?_
        refine R_getI 3 51 rfl dX11_number_48 rfl rfl fl_X11_67 ?_
        refine R_if_ne 54 61 rfl rfl dX11_number_51 (by first | assumption | exact ⟨by omega, by omega⟩) (fun h51 => ?_) (fun h51 => ?_)
        · refine R_iload_n 62 rfl dX11_number_61 rfl ?_
          refine R_istore_n [_, _, _, _] 63 rfl dX11_number_62 rfl (by decide) ?_
          refine R_aload_n 64 rfl dX11_number_63 rfl ?_
          refine R_callV_V (M' := mX11_next2) 67 rfl dX11_number_64 ml_X11_101 kmX11_next2 im_X11_next2 se_X11_next2 rfl ⟨by decide, rfl⟩ (c_X11_next2 (.inl e) hb hx0) rfl rfl ⟨Nat.le_of_ble_eq_true rfl, Nat.le_of_ble_eq_true rfl⟩ (Nat.le_of_ble_eq_true rfl) ⟨Nat.le_of_ble_eq_true rfl, Nat.le_of_ble_eq_true rfl⟩ ?_
          rintro m64 h64
          obtain ⟨f64, p64⟩ := h64
          refine R_iload_n 68 rfl dX11_number_67 rfl ?_
          refine R_ireturn dX11_number_68 rfl ?_
          exact QI_mk ⟨f64, p64, fun v s q => by simp [pb] at q, Or.inl rfl⟩
        · exfalso; omega
      · exfalso; omega
    · exfalso; omega
  | inr st =>
    obtain ⟨g3, g5, g6, g7, g8, g18, v, hL, hB⟩ := hx
    have ⟨r1, r2⟩ := hr st rfl
    have vn := Vs_num v
    have v4 := v.2.2.2.1
    have en : num T lo hi st = if st.2.2.1 = 2 then (if lo ≤ nv T st.2.1 (st.1 - st.2.1) ∧ nv T st.2.1 (st.1 - st.2.1) ≤ hi then pb (adv T st) (fun s => .inr (nv T st.2.1 (st.1 - st.2.1), s)) else .inl (3, st.2.1)) else .inl (2, st.2.1) := rfl
    have D47 : ∀ (w : Int) y m1, 1 ≤ w → w ≤ 5 → Fn m m1 → MCx T m1 (.inl (w, st.2.1)) → num T lo hi st = .inl (w, st.2.1) → R Γ mX11_number { frames := 2, cells := 0, slots := 0, locals := 80 } 0 0 (QI SH (fun z m' => Fn m m' ∧ MCx T m' (sx (pb (.inr st : PX St) (num T lo hi))) ∧ (∀ v s, pb (.inr st : PX St) (num T lo hi) = .inr (v, s) → z = v) ∧ (z = lo ∨ (0 ≤ z ∧ z ≤ 999)))) 0 0 47 [some (vr 96), some (vi lo), some (vi hi), y] [] SH m1 := by
      intro w y m1 w1 w5 f1 p1 e1
      have q3 : m1.1 96 3 = w := p1.1
      have ep : pb (.inr st : PX St) (num T lo hi) = .inl (w, st.2.1) := e1
      refine R_aload_n 48 rfl dX11_number_47 rfl ?_
      refine R_getI 3 51 rfl dX11_number_48 rfl rfl fl_X11_67 ?_
      refine R_if_ne 54 61 rfl rfl dX11_number_51 (by first | assumption | exact ⟨by omega, by omega⟩) (fun h51 => ?_) (fun h51 => ?_)
      · refine R_iload_n 62 rfl dX11_number_61 rfl ?_
        refine R_istore_n [_, _, _, _] 63 rfl dX11_number_62 rfl (by decide) ?_
        refine R_aload_n 64 rfl dX11_number_63 rfl ?_
        refine R_callV_V (M' := mX11_next2) 67 rfl dX11_number_64 ml_X11_101 kmX11_next2 im_X11_next2 se_X11_next2 rfl ⟨by decide, rfl⟩ (c_X11_next2 _ (hb.fn f1) p1) rfl rfl ⟨Nat.le_of_ble_eq_true rfl, Nat.le_of_ble_eq_true rfl⟩ (Nat.le_of_ble_eq_true rfl) ⟨Nat.le_of_ble_eq_true rfl, Nat.le_of_ble_eq_true rfl⟩ ?_
        rintro m64 h64
        obtain ⟨f64, p64⟩ := h64
        refine R_iload_n 68 rfl dX11_number_67 rfl ?_
        refine R_ireturn dX11_number_68 rfl ?_
        rw [ep]
        exact QI_mk ⟨f1.tr f64, p64, fun v s q => (by cases q), Or.inl rfl⟩
      · exfalso; omega
    have A47 : ∀ y, st.2.2.1 = 2 → (lo ≤ nv T st.2.1 (st.1 - st.2.1) ∧ nv T st.2.1 (st.1 - st.2.1) ≤ hi) → R Γ mX11_number { frames := 2, cells := 0, slots := 0, locals := 80 } 0 0 (QI SH (fun z m' => Fn m m' ∧ MCx T m' (sx (pb (.inr st : PX St) (num T lo hi))) ∧ (∀ v s, pb (.inr st : PX St) (num T lo hi) = .inr (v, s) → z = v) ∧ (z = lo ∨ (0 ≤ z ∧ z ≤ 999)))) 0 0 47 [some (vr 96), some (vi lo), some (vi hi), y] [] SH m := by
      intro y t2 hin
      have n2 := g8 t2
      rw [if_pos t2, if_pos hin] at en
      have ep : pb (.inr st : PX St) (num T lo hi) = pb (adv T st) (fun s => .inr (nv T st.2.1 (st.1 - st.2.1), s)) := en
      refine R_aload_n 48 rfl dX11_number_47 rfl ?_
      refine R_getI 3 51 rfl dX11_number_48 rfl rfl fl_X11_67 ?_
      refine R_if_ne 54 61 rfl rfl dX11_number_51 (by first | assumption | exact ⟨by omega, by omega⟩) (fun h51 => ?_) (fun h51 => ?_)
      · exfalso; omega
      · refine R_aload_n 55 rfl dX11_number_54 rfl ?_
        refine R_getI 8 58 rfl dX11_number_55 rfl rfl fl_X11_86 ?_
        refine R_goto 62 rfl dX11_number_58 ?_
        refine R_istore_n [_, _, _, _] 63 rfl dX11_number_62 rfl (by decide) ?_
        refine R_aload_n 64 rfl dX11_number_63 rfl ?_
        refine R_callV_V (M' := mX11_next2) 67 rfl dX11_number_64 ml_X11_101 kmX11_next2 im_X11_next2 se_X11_next2 rfl ⟨by decide, rfl⟩ (c_X11_next2 _ hb hx0) rfl rfl ⟨Nat.le_of_ble_eq_true rfl, Nat.le_of_ble_eq_true rfl⟩ (Nat.le_of_ble_eq_true rfl) ⟨Nat.le_of_ble_eq_true rfl, Nat.le_of_ble_eq_true rfl⟩ ?_
        rintro m64 h64
        obtain ⟨f64, p64⟩ := h64
        have p64 : MCx T m64 (adv T st) := p64
        refine R_iload_n 68 rfl dX11_number_67 rfl ?_
        refine R_ireturn dX11_number_68 rfl ?_
        rw [ep]
        refine QI_mk ⟨f64, ?_, fun v s q => ?_, Or.inr (by have q9 := vn t2; omega)⟩
        · cases ha : adv T st with
          | inl e => rw [ha] at p64; exact p64
          | inr s => rw [ha] at p64; exact p64
        · cases ha : adv T st with
          | inl e => rw [ha] at q; cases q
          | inr s' => rw [ha] at q; cases q; exact n2
    have D20 : ∀ y m1, st.2.2.1 ≠ 2 → Fn m m1 → MCx T m1 (.inl (2, st.2.1)) → R Γ mX11_number { frames := 2, cells := 0, slots := 0, locals := 80 } 0 0 (QI SH (fun z m' => Fn m m' ∧ MCx T m' (sx (pb (.inr st : PX St) (num T lo hi))) ∧ (∀ v s, pb (.inr st : PX St) (num T lo hi) = .inr (v, s) → z = v) ∧ (z = lo ∨ (0 ≤ z ∧ z ≤ 999)))) 0 0 20 [some (vr 96), some (vi lo), some (vi hi), y] [] SH m1 := by
      intro y m1 t2 f1 p1
      have q3 : m1.1 96 3 = 2 := p1.1
      rw [if_neg t2] at en
      refine R_aload_n 21 rfl dX11_number_20 rfl ?_
      refine R_getI 3 24 rfl dX11_number_21 rfl rfl fl_X11_67 ?_
      refine R_if_ne 27 47 rfl rfl dX11_number_24 (by first | assumption | exact ⟨by omega, by omega⟩) (fun h24 => ?_) (fun h24 => ?_)
      · exact D47 2 _ _ (by omega) (by omega) f1 p1 en
      · exfalso; omega
    have A20 : ∀ y, st.2.2.1 = 2 → R Γ mX11_number { frames := 2, cells := 0, slots := 0, locals := 80 } 0 0 (QI SH (fun z m' => Fn m m' ∧ MCx T m' (sx (pb (.inr st : PX St) (num T lo hi))) ∧ (∀ v s, pb (.inr st : PX St) (num T lo hi) = .inr (v, s) → z = v) ∧ (z = lo ∨ (0 ≤ z ∧ z ≤ 999)))) 0 0 20 [some (vr 96), some (vi lo), some (vi hi), y] [] SH m := by
      intro y t2
      have n1 := vn t2
      have n2 := g8 t2
      refine R_aload_n 21 rfl dX11_number_20 rfl ?_
      refine R_getI 3 24 rfl dX11_number_21 rfl rfl fl_X11_67 ?_
      refine R_if_ne 27 47 rfl rfl dX11_number_24 (by first | assumption | exact ⟨by omega, by omega⟩) (fun h24 => ?_) (fun h24 => ?_)
      · first | (exfalso; omega) | exact A47 _ t2 (by omega) | exact D47 3 _ _ (by omega) (by omega) f44 p44 en
      · refine R_aload_n 28 rfl dX11_number_27 rfl ?_
        refine R_getI 8 31 rfl dX11_number_28 rfl rfl fl_X11_86 ?_
        rw [n2]
        refine R_i2l 32 rfl dX11_number_31 (by first | assumption | exact ⟨by omega, by omega⟩) ?_
        refine R_iload_n 33 rfl dX11_number_32 rfl ?_
        refine R_i2l 34 rfl dX11_number_33 (by first | assumption | exact ⟨by omega, by omega⟩) ?_
        refine R_iload_n 35 rfl dX11_number_34 rfl ?_
        refine R_i2l 36 rfl dX11_number_35 (by first | assumption | exact ⟨by omega, by omega⟩) ?_
        refine R_callS_i (M' := mX11_in) 39 rfl dX11_number_36 ml_X11_63 kmX11_in st_X11_in (c_X11_in _ _ _ (by first | assumption | exact ⟨by omega, by omega⟩ | exact rg_L (by assumption)) (by first | assumption | exact ⟨by omega, by omega⟩ | exact rg_L (by assumption)) (by first | assumption | exact ⟨by omega, by omega⟩ | exact rg_L (by assumption))) rfl rfl ⟨Nat.le_of_ble_eq_true rfl, Nat.le_of_ble_eq_true rfl⟩ (Nat.le_of_ble_eq_true rfl) ⟨Nat.le_of_ble_eq_true rfl, Nat.le_of_ble_eq_true rfl⟩ ?_
        refine R_ifp_ne 42 47 rfl rfl dX11_number_39 (fun h39 => ?_) (fun h39 => ?_)
        · first | (exfalso; omega) | exact A47 _ t2 (by omega) | exact D47 3 _ _ (by omega) (by omega) f44 p44 en
        · refine R_aload_n 43 rfl dX11_number_42 rfl ?_
          refine R_iconst 44 rfl dX11_number_43 ?_
          refine R_callV_V (M' := mX11_fails) 47 rfl dX11_number_44 ml_X11_97 kmX11_fails im_X11_fails se_X11_fails rfl ⟨by decide, rfl⟩ (c_X11_fails 3 _ hx0 (by omega)) rfl rfl ⟨Nat.le_of_ble_eq_true rfl, Nat.le_of_ble_eq_true rfl⟩ (Nat.le_of_ble_eq_true rfl) ⟨Nat.le_of_ble_eq_true rfl, Nat.le_of_ble_eq_true rfl⟩ ?_
          rintro m44 h44
          obtain ⟨f44, p44⟩ := h44
          rw [if_pos t2, if_neg (by omega)] at en
          first | (exfalso; omega) | exact A47 _ t2 (by omega) | exact D47 3 _ _ (by omega) (by omega) f44 p44 en
    skip
    refine R_aload_n 1 rfl dX11_number_0 rfl ?_
    refine R_getI 3 4 rfl dX11_number_1 rfl rfl fl_X11_67 ?_
    refine R_if_ne 7 20 rfl rfl dX11_number_4 (by first | assumption | exact ⟨by omega, by omega⟩) (fun h4 => ?_) (fun h4 => ?_)
    · first | (exfalso; omega) | exact A20 _ (by omega) | exact D20 _ _ (by omega) f17 p17
    · refine R_aload_n 8 rfl dX11_number_7 rfl ?_
      refine R_getI 7 11 rfl dX11_number_8 rfl rfl fl_X11_76 ?_
      refine R_iconst 12 rfl dX11_number_11 ?_
      refine R_icmp_eq 15 20 rfl rfl dX11_number_12 (by first | assumption | exact ⟨by omega, by omega⟩) (by first | assumption | exact ⟨by omega, by omega⟩) (fun h12 => ?_) (fun h12 => ?_)
      · first | (exfalso; omega) | exact A20 _ (by omega) | exact D20 _ _ (by omega) f17 p17
      · refine R_aload_n 16 rfl dX11_number_15 rfl ?_
        refine R_iconst 17 rfl dX11_number_16 ?_
        refine R_callV_V (M' := mX11_fails) 20 rfl dX11_number_17 ml_X11_97 kmX11_fails im_X11_fails se_X11_fails rfl ⟨by decide, rfl⟩ (c_X11_fails 2 _ hx0 (by omega)) rfl rfl ⟨Nat.le_of_ble_eq_true rfl, Nat.le_of_ble_eq_true rfl⟩ (Nat.le_of_ble_eq_true rfl) ⟨Nat.le_of_ble_eq_true rfl, Nat.le_of_ble_eq_true rfl⟩ ?_
        rintro m17 h17
        obtain ⟨f17, p17⟩ := h17
        first | (exfalso; omega) | exact A20 _ (by omega) | exact D20 _ _ (by omega) f17 p17
end
