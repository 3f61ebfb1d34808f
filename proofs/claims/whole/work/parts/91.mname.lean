def nmF (T : Tp) (st : St) : Nat → Nat → Int
  | 0, _ => -4
  | f + 1, j => if isW T j st = true then (j : Int) else nmF T st f (j + 1)
/-- the name that stands here -/
def nm (T : Tp) (st : St) : Int := nmF T st 12 0
theorem cu_len : ∀ j, j < 12 → cuL.getD (j + 1) 0 - cuL.getD j 0 = (lenJS.getD j 0 : Int) := by decide
theorem cu_rg : ∀ j, j < 13 → 0 ≤ cuL.getD j 0 ∧ cuL.getD j 0 ≤ 60 := by decide
theorem le_ltr : ∀ j, j < 12 → ∀ i, i < lenJS.getD j 0 → leL.getD ((cuL.getD j 0).toNat + i) 0 = ltr j i ∧ (cuL.getD j 0).toNat + i < 60 := by decide
theorem nmF_no {T : Tp} {st : St} (h : st.2.2.1 ≠ 1) : ∀ f j, nmF T st f j = -4
  | 0, _ => rfl
  | f + 1, j => by
    show (if isW T j st = true then (j : Int) else nmF T st f (j + 1)) = -4
    rw [if_neg (fun q => h (isW_iff.mp q).1)]
    exact nmF_no h f (j + 1)
section
variable {Γ : GX} {m m' m'' : Mem} {T : Tp} {L : Ld} {x : PX St}
theorem c_X11_nameHere (st : St) (hb : MB T m) (hx : MCa T m st) : C Γ mX11_nameHere 1 40 0 0 [vr 96] SH m (Qi SH m (nm T st)) := by
  refine C_of_R rfl (Nat.le_of_ble_eq_true rfl) ?_
  obtain ⟨g3, g5, g6, g7, g8, g18, v, hL, hB⟩ := hx
  obtain ⟨v1, v2, v3, v4, v5, -⟩ := v
  have hl := hb.2.2.2.1.1
  have hO := hb.2.2.2.1
  have hP := hb.1
  have hcu := hb.2.2.2.2.2.1
  have hle := hb.2.2.2.2.2.2
  have Lo : ∀ j : Nat, j ≤ 12 → ∀ z y2 y3, z = (j : Int) → nmF T st (12 - j) j = nm T st → R Γ mX11_nameHere { frames := 1, cells := 0, slots := 0, locals := 40 } 0 0 (Qi SH m (nm T st)) 0 0 2 [some (vr 96), some (vi z), y2, y3] [] SH m := by
    refine up_ind 12 (fun j hj ih z y2 y3 hz hn => ?_)
    rcases (show j = 12 ∨ j < 12 by omega) with e | lt
    · subst e
      have hn2 : (-4 : Int) = nm T st := hn
      refine R_iload_n 3 rfl dX11_nameHere_2 rfl ?_
      refine R_bipush 5 rfl dX11_nameHere_3 (by decide) ?_
      refine R_icmp_ge 8 118 rfl rfl dX11_nameHere_5 (by first | assumption | exact ⟨by omega, by omega⟩) (by first | assumption | exact ⟨by omega, by omega⟩) (fun h5 => ?_) (fun h5 => ?_)
      · refine R_bipush 120 rfl dX11_nameHere_118 (by decide) ?_
        refine R_ireturn dX11_nameHere_120 rfl ?_
        exact Qi_mk hn2
      · exfalso; omega
    · have c0 := hcu j (by omega)
      have c1 := hcu (j + 1) (by omega)
      have r0 := cu_rg j (by omega)
      have r1 := cu_rg (j + 1) (by omega)
      have cl := cu_len j lt
      have hn2 : (if isW T j st = true then (j : Int) else nmF T st (12 - (j + 1)) (j + 1)) = nm T st := by
        rw [show 12 - j = (12 - (j + 1)) + 1 by omega] at hn
        exact hn
      have iw := isW_iff (T := T) (j := j) (st := st)
      have Le : ∀ b i, (b = 1 ∧ isW T j st = true) ∨ (b = 0 ∧ ¬ isW T j st = true) → R Γ mX11_nameHere { frames := 1, cells := 0, slots := 0, locals := 40 } 0 0 (Qi SH m (nm T st)) 0 0 106 [some (vr 96), some (vi z), some (vi b), some (vi i)] [] SH m := by
        intro b i hbb
        refine R_iload_n 107 rfl dX11_nameHere_106 rfl ?_
        refine R_if_eq 110 112 rfl rfl dX11_nameHere_107 (by first | assumption | exact ⟨by omega, by omega⟩) (fun h107 => ?_) (fun h107 => ?_)
        · refine R_iinc [_, _, _, _] 115 rfl dX11_nameHere_112 rfl rfl (by decide) ?_
          refine R_goto 2 rfl dX11_nameHere_115 ?_
          rw [if_neg (hbb.elim (fun q => by exfalso; omega) (fun q => q.2))] at hn2
          exact ih lt _ _ _ (by omega) hn2
        · refine R_iload_n 111 rfl dX11_nameHere_110 rfl ?_
          refine R_ireturn dX11_nameHere_111 rfl ?_
          rw [if_pos (hbb.elim (fun q => q.2) (fun q => by exfalso; omega))] at hn2
          exact Qi_mk (by omega)
      have Lz : ¬ isW T j st = true → ∀ b i, b = 0 → R Γ mX11_nameHere { frames := 1, cells := 0, slots := 0, locals := 40 } 0 0 (Qi SH m (nm T st)) 0 0 51 [some (vr 96), some (vi z), some (vi b), some (vi i)] [] SH m := by
        intro nw b i hb0
        refine R_iload_n 52 rfl dX11_nameHere_51 rfl ?_
        refine R_if_eq 55 106 rfl rfl dX11_nameHere_52 (by first | assumption | exact ⟨by omega, by omega⟩) (fun h52 => ?_) (fun h52 => ?_)
        · exact Le _ _ (Or.inr ⟨hb0, nw⟩)
        · exfalso; omega
      have Li : st.2.2.1 = 1 → st.1 - st.2.1 = lenJS.getD j 0 → ∀ i : Nat, i ≤ lenJS.getD j 0 → ∀ b zi, zi = (i : Int) → (b = 1 ∧ ∀ q, q < i → T.2 (st.2.1 + q) = ltr j q) ∨ (b = 0 ∧ ¬ isW T j st = true) → R Γ mX11_nameHere { frames := 1, cells := 0, slots := 0, locals := 40 } 0 0 (Qi SH m (nm T st)) 0 0 51 [some (vr 96), some (vi z), some (vi b), some (vi zi)] [] SH m := by
        intro t1 t2
        refine up_ind (lenJS.getD j 0) (fun i hi ih2 b zi hzi hbb => ?_)
        have rb : b = 0 ∨ b = 1 := by rcases hbb with q | q <;> omega
        refine R_iload_n 52 rfl dX11_nameHere_51 rfl ?_
        refine R_if_eq 55 106 rfl rfl dX11_nameHere_52 (by first | assumption | exact ⟨by omega, by omega⟩) (fun h52 => ?_) (fun h52 => ?_)
        · refine Le _ _ ?_
          first
          | exact hbb.elim (fun q => by exfalso; omega) (fun q => Or.inr q)
          | exact hbb.elim (fun q => Or.inl ⟨q.1, iw.mpr ⟨t1, t2, fun k hk => q.2 k (by omega)⟩⟩) (fun q => Or.inr q)
        · refine R_iload_n 56 rfl dX11_nameHere_55 rfl ?_
          refine R_aload_n 57 rfl dX11_nameHere_56 rfl ?_
          refine R_getI 5 60 rfl dX11_nameHere_57 rfl rfl fl_X11_79 ?_
          refine R_aload_n 61 rfl dX11_nameHere_60 rfl ?_
          refine R_getI 6 64 rfl dX11_nameHere_61 rfl rfl fl_X11_70 ?_
          refine R_isub 65 rfl dX11_nameHere_64 ?_
          refine R_icmp_ge 68 106 rfl rfl dX11_nameHere_65 (by first | assumption | exact ⟨by omega, by omega⟩) (by first | assumption | exact ⟨by omega, by omega⟩) (fun h65 => ?_) (fun h65 => ?_)
          · refine Le _ _ ?_
            first
            | exact hbb.elim (fun q => by exfalso; omega) (fun q => Or.inr q)
            | exact hbb.elim (fun q => Or.inl ⟨q.1, iw.mpr ⟨t1, t2, fun k hk => q.2 k (by omega)⟩⟩) (fun q => Or.inr q)
          · have hb1 : b = 1 ∧ ∀ q, q < i → T.2 (st.2.1 + q) = ltr j q := by
              rcases hbb with q | q
              · exact q
              · exfalso; omega
            have lt2 := le_ltr j lt i (by omega)
            have lv := hle ((cuL.getD j 0).toNat + i) lt2.2
            have lr := ltr_rg j lt i (by omega)
            have bt := btA_in (T := T) (i := st.2.1 + i) (by omega)
            have br := hO.2 (st.2.1 + i) (by omega)
            refine R_aload_n 69 rfl dX11_nameHere_68 rfl ?_
            refine R_aload_n 70 rfl dX11_nameHere_69 rfl ?_
            refine R_getI 6 73 rfl dX11_nameHere_70 rfl rfl fl_X11_70 ?_
            refine R_iload_n 74 rfl dX11_nameHere_73 rfl ?_
            refine R_iadd 75 rfl dX11_nameHere_74 ?_
            refine R_callV_i (M' := mX11_byteAt) 78 rfl dX11_nameHere_75 ml_X11_82 kmX11_byteAt im_X11_byteAt se_X11_byteAt rfl ⟨by decide, rfl⟩ (c_X11_byteAt _ (st.2.1 + i) hb (by omega) (by omega)) rfl rfl ⟨Nat.le_of_ble_eq_true rfl, Nat.le_of_ble_eq_true rfl⟩ (Nat.le_of_ble_eq_true rfl) ⟨Nat.le_of_ble_eq_true rfl, Nat.le_of_ble_eq_true rfl⟩ ?_
            refine R_aload_n 79 rfl dX11_nameHere_78 rfl ?_
            refine R_getP 10 82 rfl dX11_nameHere_79 rfl rfl fl_X11_16 (hP _ _ _ rfl) ?_
            refine R_aload_n 83 rfl dX11_nameHere_82 rfl ?_
            refine R_getP 9 86 rfl dX11_nameHere_83 rfl rfl fl_X11_13 (hP _ _ _ rfl) ?_
            refine R_iload_n 87 rfl dX11_nameHere_86 rfl ?_
            refine R_iald j 88 rfl dX11_nameHere_87 rfl (by first | rfl | omega) (by omega) (by decide) ?_
            refine R_iload_n 89 rfl dX11_nameHere_88 rfl ?_
            refine R_iadd 90 rfl dX11_nameHere_89 ?_
            refine R_iald ((cuL.getD j 0).toNat + i) 91 rfl dX11_nameHere_90 rfl (by first | rfl | omega) (by omega) (by decide) ?_
            refine R_icmp_ne 94 98 rfl rfl dX11_nameHere_91 (by first | assumption | exact ⟨by omega, by omega⟩) (by first | assumption | exact ⟨by omega, by omega⟩) (fun h91 => ?_) (fun h91 => ?_)
            · refine R_iconst 99 rfl dX11_nameHere_98 ?_
              refine R_istore_n [_, _, _, _] 100 rfl dX11_nameHere_99 rfl (by decide) ?_
              refine R_iinc [_, _, _, _] 103 rfl dX11_nameHere_100 rfl rfl (by decide) ?_
              refine R_goto 51 rfl dX11_nameHere_103 ?_
              refine ih2 (by omega) _ _ (by omega) ?_
              first
              | (left
                 refine ⟨rfl, fun q hq => ?_⟩
                 by_cases e : q = i
                 · subst e; omega
                 · exact hb1.2 q (by omega))
              | (right
                 refine ⟨rfl, fun w => ?_⟩
                 have := (iw.mp w).2.2 i (by omega)
                 omega)
            · refine R_iconst 95 rfl dX11_nameHere_94 ?_
              refine R_goto 99 rfl dX11_nameHere_95 ?_
              refine R_istore_n [_, _, _, _] 100 rfl dX11_nameHere_99 rfl (by decide) ?_
              refine R_iinc [_, _, _, _] 103 rfl dX11_nameHere_100 rfl rfl (by decide) ?_
              refine R_goto 51 rfl dX11_nameHere_103 ?_
              refine ih2 (by omega) _ _ (by omega) ?_
              first
              | (left
                 refine ⟨rfl, fun q hq => ?_⟩
                 by_cases e : q = i
                 · subst e; omega
                 · exact hb1.2 q (by omega))
              | (right
                 refine ⟨rfl, fun w => ?_⟩
                 have := (iw.mp w).2.2 i (by omega)
                 omega)
      refine R_iload_n 3 rfl dX11_nameHere_2 rfl ?_
      refine R_bipush 5 rfl dX11_nameHere_3 (by decide) ?_
      refine R_icmp_ge 8 118 rfl rfl dX11_nameHere_5 (by first | assumption | exact ⟨by omega, by omega⟩) (by first | assumption | exact ⟨by omega, by omega⟩) (fun h5 => ?_) (fun h5 => ?_)
      · refine R_bipush 120 rfl dX11_nameHere_118 (by decide) ?_
        refine R_ireturn dX11_nameHere_120 rfl ?_
        first
        | (exfalso; omega)
        | exact Qi_mk (nmF_no (by omega) 12 0).symm
      · refine R_aload_n 9 rfl dX11_nameHere_8 rfl ?_
        refine R_getI 7 12 rfl dX11_nameHere_9 rfl rfl fl_X11_76 ?_
        refine R_iconst 13 rfl dX11_nameHere_12 ?_
        refine R_icmp_ne 16 118 rfl rfl dX11_nameHere_13 (by first | assumption | exact ⟨by omega, by omega⟩) (by first | assumption | exact ⟨by omega, by omega⟩) (fun h13 => ?_) (fun h13 => ?_)
        · refine R_bipush 120 rfl dX11_nameHere_118 (by decide) ?_
          refine R_ireturn dX11_nameHere_120 rfl ?_
          first
          | (exfalso; omega)
          | exact Qi_mk (nmF_no (by omega) 12 0).symm
        · refine R_aload_n 17 rfl dX11_nameHere_16 rfl ?_
          refine R_getI 5 20 rfl dX11_nameHere_17 rfl rfl fl_X11_79 ?_
          refine R_aload_n 21 rfl dX11_nameHere_20 rfl ?_
          refine R_getI 6 24 rfl dX11_nameHere_21 rfl rfl fl_X11_70 ?_
          refine R_isub 25 rfl dX11_nameHere_24 ?_
          refine R_aload_n 26 rfl dX11_nameHere_25 rfl ?_
          refine R_getP 9 29 rfl dX11_nameHere_26 rfl rfl fl_X11_13 (hP _ _ _ rfl) ?_
          refine R_iload_n 30 rfl dX11_nameHere_29 rfl ?_
          refine R_iconst 31 rfl dX11_nameHere_30 ?_
          refine R_iadd 32 rfl dX11_nameHere_31 ?_
          refine R_iald (j + 1) 33 rfl dX11_nameHere_32 rfl (by first | rfl | omega) (by omega) (by decide) ?_
          refine R_aload_n 34 rfl dX11_nameHere_33 rfl ?_
          refine R_getP 9 37 rfl dX11_nameHere_34 rfl rfl fl_X11_13 (hP _ _ _ rfl) ?_
          refine R_iload_n 38 rfl dX11_nameHere_37 rfl ?_
          refine R_iald j 39 rfl dX11_nameHere_38 rfl (by first | rfl | omega) (by omega) (by decide) ?_
          refine R_isub 40 rfl dX11_nameHere_39 ?_
          refine R_icmp_ne 43 47 rfl rfl dX11_nameHere_40 (by first | assumption | exact ⟨by omega, by omega⟩) (by first | assumption | exact ⟨by omega, by omega⟩) (fun h40 => ?_) (fun h40 => ?_)
          · refine R_iconst 48 rfl dX11_nameHere_47 ?_
            refine R_istore_n [_, _, _, _] 49 rfl dX11_nameHere_48 rfl (by decide) ?_
            refine R_iconst 50 rfl dX11_nameHere_49 ?_
            refine R_istore_n [_, _, _, _] 51 rfl dX11_nameHere_50 rfl (by decide) ?_
            first
            | exact Li (by omega) (by omega) 0 (by omega) _ _ rfl (Or.inl ⟨rfl, fun q h => by omega⟩)
            | (have nw : ¬ isW T j st = true := fun w => by
                 have := iw.mp w
                 omega
               exact Lz nw _ _ rfl)
          · refine R_iconst 44 rfl dX11_nameHere_43 ?_
            refine R_goto 48 rfl dX11_nameHere_44 ?_
            refine R_istore_n [_, _, _, _] 49 rfl dX11_nameHere_48 rfl (by decide) ?_
            refine R_iconst 50 rfl dX11_nameHere_49 ?_
            refine R_istore_n [_, _, _, _] 51 rfl dX11_nameHere_50 rfl (by decide) ?_
            first
            | exact Li (by omega) (by omega) 0 (by omega) _ _ rfl (Or.inl ⟨rfl, fun q h => by omega⟩)
            | (have nw : ¬ isW T j st = true := fun w => by
                 have := iw.mp w
                 omega
               exact Lz nw _ _ rfl)
  refine R_iconst 1 rfl dX11_nameHere_0 ?_
  refine R_istore_n [_, _, _, _] 2 rfl dX11_nameHere_1 rfl (by decide) ?_
  exact Lo 0 (by omega) _ _ _ rfl rfl
end
