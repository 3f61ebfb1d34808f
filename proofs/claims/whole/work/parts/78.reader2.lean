section
variable {Γ : GX} {m m' : Mem} {T : Tp} {o d : Nat} {P : Nat → Bool}
theorem c_X5_advance (st : St) (hb : PCb o d T m) (h2 : m.1 3 2 = (st.1 : Int)) (h6 : m.1 3 6 = (st.2.2.2.1 : Int)) (h7 : m.1 3 7 = 0) (h1 : st.1 ≤ T.1) (hs : st.2.2.2.1 < 64) (hL : LdC d m (sL st)) (hB : LdB (sL st)) : C Γ mX5_advance 2 80 0 0 [vr 3] SH m (QV SH (fun m' => Fr is3 m m' ∧ PCx T d m' (adv T st))) := by
  refine C_of_R rfl (Nat.le_of_ble_eq_true rfl) ?_
  have hl := hb.2.2.1.1
  have Lp : ∀ a, a ≤ T.1 → st.1 ≤ a → ∀ m1, Fr is3 m m1 → m1.1 3 2 = (a : Int) → m1.1 3 6 = (st.2.2.2.1 : Int) → m1.1 3 7 = 0 → rE T 4 a = rE T 4 st.1 → R Γ mX5_advance { frames := 2, cells := 0, slots := 0, locals := 80 } 0 0 (QV SH (fun m' => Fr is3 m m' ∧ PCx T d m' (adv T st))) 0 0 0 [some (vr 3)] [] SH m1 := by
    refine up_ind T.1 (fun a ha ih hsa m1 hf g2 g6 g7 he => ?_)
    have hb1 := hb.fr hf rfl rfl
    have hP := hb1.1.2
    have ht := hb1.2.1.1
    have b2 : ∀ z, PCb o d T (setI m1 3 4 z) := fun z => hb1.fr (P := is3) (Fr.rf.set rfl) rfl rfl
    have L39 : srA T a ≠ 4 → R Γ mX5_advance { frames := 2, cells := 0, slots := 0, locals := 80 } 0 0 (QV SH (fun m' => Fr is3 m m' ∧ PCx T d m' (adv T st))) 0 0 39 [some (vr 3)] [] SH m1 := by
      intro ne
      have ep : rE T 4 st.1 = a := he.symm.trans (rE_n ne)
      have fin : ∀ m2, Fr is3 m m2 → m2.1 3 6 = (st.2.2.2.1 : Int) → (∀ s, adv T st = .inr s → m2.1 3 2 = (s.1 : Int) ∧ m2.1 3 3 = (s.2.2.1 : Int) ∧ m2.1 3 4 = (s.2.1 : Int) ∧ (s.2.2.1 = 2 → m2.1 3 5 = nv T s.2.1 (s.1 - s.2.1)) ∧ m2.1 3 7 = 0) → (∀ e, adv T st = .inl e → m2.1 3 7 = 1 ∧ m2.1 3 8 = (a : Int) ∧ m2.1 3 3 = 0) → Fr is3 m m2 ∧ PCx T d m2 (adv T st) := by
        intro m2 f2 k6 kr ki
        refine ⟨f2, ?_⟩
        cases hx : adv T st with
        | inl e =>
          have q := ki e hx
          have q2 := adv_er hx
          rw [ep] at q2
          subst q2
          exact ⟨q.1, q.2.1, q.2.2, (by decide : (1 : Int) ≤ 1), (by decide : (1 : Int) ≤ 5)⟩
        | inr s =>
          have q := kr s hx
          obtain ⟨v, -, v2⟩ := adv_sp h1 hs hx
          have e1 : sL s = sL st := by unfold sL; rw [v2]
          refine ⟨q.1, q.2.1, q.2.2.1, q.2.2.2.1, ?_, q.2.2.2.2, v, ?_, ?_⟩
          · rw [v2]; exact k6
          · rw [e1]; exact hL.fr f2 is3_L
          · rw [e1]; exact hB
      have ad : adv T st = if srA T a = 0 then .inr (a, a, 0, st.2.2.2) else if srA T a = 5 then .inl (1, a) else if srA T a = 3 then .inr (a + 1, a, 3, st.2.2.2) else if srA T a = 1 then .inr (rE T 1 a, a, 1, st.2.2.2) else if 3 < rE T 2 a - a then .inl (1, a) else .inr (rE T 2 a, a, 2, st.2.2.2) := by unfold adv; rw [ep]
      rcases (show a < T.1 ∨ a = T.1 by omega) with lt | eq
      · have s0 := srA_in lt
        have s1 := srt5_rg (T.2 a)
        have cr : C Γ mX5_readRow 1 40 0 0 [vr 3] SH (setI (setI m1 3 4 (a : Int)) 3 3 (srt5 (T.2 a) : Int)) (QV SH (fun m' => (srt5 (T.2 a) = 1 ∨ srt5 (T.2 a) = 2) → Fr is3 (setI (setI m1 3 4 (a : Int)) 3 3 (srt5 (T.2 a) : Int)) m' ∧ m'.1 3 6 = (setI (setI m1 3 4 (a : Int)) 3 3 (srt5 (T.2 a) : Int)).1 3 6 ∧ rrP T a (srt5 (T.2 a)) m')) ∨ ¬ (srt5 (T.2 a) = 1 ∨ srt5 (T.2 a) = 2) := by
          by_cases q : srt5 (T.2 a) = 1 ∨ srt5 (T.2 a) = 2
          · left
            exact C_wk (c_X5_readRow a (srt5 (T.2 a)) q (hb1.fr (P := is3) ((Fr.rf.set rfl).set rfl) rfl rfl) (by simp [setI]; exact g2) (by simp [setI]) (by simp [setI]) (by simp [setI]; exact g7) lt) (fun r S' m' w => ⟨w.1, w.2.1, fun _ => w.2.2⟩)
          · exact Or.inr q
        refine R_aload_n 40 rfl dX5_advance_39 rfl ?_
        refine R_aload_n 41 rfl dX5_advance_40 rfl ?_
        refine R_getI 2 44 rfl dX5_advance_41 rfl rfl fl_X5_24 ?_
        rw [g2]
        refine R_putI 4 47 rfl dX5_advance_44 rfl rfl fl_X5_138 ?_
        refine R_aload_n 48 rfl dX5_advance_47 rfl ?_
        refine R_aload_n 49 rfl dX5_advance_48 rfl ?_
        refine R_getI 2 52 rfl dX5_advance_49 rfl rfl fl_X5_24 ?_
        refine R_top (b := (a : Int)) (by simp [setI]; exact g2) ?_
        refine R_aload_n 53 rfl dX5_advance_52 rfl ?_
        refine R_getP 0 56 rfl dX5_advance_53 rfl rfl fl_X5_9 hb1.2.2.2.1 ?_
        refine R_getI 1 59 rfl dX5_advance_56 rfl rfl fl_X5_141 ?_
        refine R_top (b := (T.1 : Int)) (by simp [setI]; exact ht) ?_
        refine R_icmp_ge 62 73 rfl rfl dX5_advance_59 (by first | assumption | exact ⟨by omega, by omega⟩) (by first | assumption | exact ⟨by omega, by omega⟩) (fun h59 => ?_) (fun h59 => ?_)
        · exfalso; omega
        · refine R_aload_n 63 rfl dX5_advance_62 rfl ?_
          refine R_aload_n 64 rfl dX5_advance_63 rfl ?_
          refine R_getI 2 67 rfl dX5_advance_64 rfl rfl fl_X5_24 ?_
          refine R_top (b := (a : Int)) (by simp [setI]; exact g2) ?_
          refine R_callV_i (M' := mX5_sortAt) 70 rfl dX5_advance_67 ml_X5_146 kmX5_sortAt im_X5_sortAt se_X5_sortAt rfl ⟨by decide, rfl⟩ (c_X5_sortAt _ a (b2 _) (by omega) lt) rfl rfl ⟨Nat.le_of_ble_eq_true rfl, Nat.le_of_ble_eq_true rfl⟩ (Nat.le_of_ble_eq_true rfl) ⟨Nat.le_of_ble_eq_true rfl, Nat.le_of_ble_eq_true rfl⟩ ?_
          refine R_goto 74 rfl dX5_advance_70 ?_
          refine R_putI 3 77 rfl dX5_advance_74 rfl rfl fl_X5_40 ?_
          refine R_aload_n 78 rfl dX5_advance_77 rfl ?_
          refine R_getI 3 81 rfl dX5_advance_78 rfl rfl fl_X5_40 ?_
          refine R_top (b := (srt5 (T.2 a) : Int)) (by simp [setI]) ?_
          refine R_iconst 82 rfl dX5_advance_81 ?_
          refine R_icmp_ne 85 93 rfl rfl dX5_advance_82 (by first | assumption | exact ⟨by omega, by omega⟩) (by first | assumption | exact ⟨by omega, by omega⟩) (fun h82 => ?_) (fun h82 => ?_)
          · refine R_aload_n 94 rfl dX5_advance_93 rfl ?_
            refine R_getI 3 97 rfl dX5_advance_94 rfl rfl fl_X5_40 ?_
            refine R_top (b := (srt5 (T.2 a) : Int)) (by simp [setI]) ?_
            refine R_iconst 98 rfl dX5_advance_97 ?_
            refine R_icmp_ne 101 114 rfl rfl dX5_advance_98 (by first | assumption | exact ⟨by omega, by omega⟩) (by first | assumption | exact ⟨by omega, by omega⟩) (fun h98 => ?_) (fun h98 => ?_)
            · refine R_aload_n 115 rfl dX5_advance_114 rfl ?_
              refine R_getI 3 118 rfl dX5_advance_115 rfl rfl fl_X5_40 ?_
              refine R_top (b := (srt5 (T.2 a) : Int)) (by simp [setI]) ?_
              refine R_if_eq 121 125 rfl rfl dX5_advance_118 (by first | assumption | exact ⟨by omega, by omega⟩) (fun h118 => ?_) (fun h118 => ?_)
              · refine R_return dX5_advance_125 rfl ?_
                first
                  | (exfalso; omega)
                  | (rw [if_neg (by omega), if_pos (by omega)] at ad
                     refine QV_mk (fin _ (((((hf.set rfl).set rfl).set rfl).set rfl).set rfl) (by simp [setI]; exact g6) (fun s hx => ?_) (fun e hx => ⟨by simp [setI], by simp [setI], by simp [setI]⟩))
                     rw [ad] at hx
                     cases hx)
                  | (rw [if_neg (by omega), if_neg (by omega), if_pos (by omega)] at ad
                     have q3 : srt5 (T.2 a) = 3 := by omega
                     refine QV_mk (fin _ (((hf.set rfl).set rfl).set rfl) (by simp [setI]; exact g6) (fun s hx => ?_) (fun e hx => ?_))
                     · rw [ad] at hx
                       cases hx
                       exact ⟨by simp [setI], by simp [setI, q3], by simp [setI], fun q => by simp at q, by simp [setI]; exact g7⟩
                     · rw [ad] at hx
                       cases hx)
                  | (have f2 : Fr is3 m m122 := ((hf.set rfl).set rfl).tr f122
                     have k2 : m122.1 3 6 = (st.2.2.2.1 : Int) := k122.trans (by simp [setI]; exact g6)
                     rcases (show srt5 (T.2 a) = 1 ∨ srt5 (T.2 a) = 2 by omega) with q1 | q1
                     · rw [if_neg (by omega), if_neg (by omega), if_neg (by omega), if_pos (by omega)] at ad
                       rw [q1] at r122
                       refine QV_mk (fin _ f2 k2 (fun s hx => ?_) (fun e hx => ?_))
                       · rw [ad] at hx
                         cases hx
                         rcases r122 with w | w
                         · exact absurd w.1 (by decide)
                         · exact ⟨w.2.2.1, w.2.2.2.1, w.2.2.2.2.1, fun q => by simp at q, w.2.1⟩
                       · rw [ad] at hx
                         cases hx
                     · rw [if_neg (by omega), if_neg (by omega), if_neg (by omega), if_neg (by omega)] at ad
                       rw [q1] at r122
                       rcases r122 with w | w
                       · rw [if_pos w.2.1] at ad
                         refine QV_mk (fin _ f2 k2 (fun s hx => ?_) (fun e hx => ⟨w.2.2.1, w.2.2.2.1, w.2.2.2.2⟩))
                         rw [ad] at hx
                         cases hx
                       · rw [if_neg (fun q => w.1 ⟨rfl, q⟩)] at ad
                         refine QV_mk (fin _ f2 k2 (fun s hx => ?_) (fun e hx => ?_))
                         · rw [ad] at hx
                           cases hx
                           exact ⟨w.2.2.1, w.2.2.2.1, w.2.2.2.2.1, fun _ => w.2.2.2.2.2 rfl, w.2.1⟩
                         · rw [ad] at hx
                           cases hx)
              · refine R_aload_n 122 rfl dX5_advance_121 rfl ?_
                refine R_callV_V (M' := mX5_readRow) 125 rfl dX5_advance_122 ml_X5_150 kmX5_readRow im_X5_readRow se_X5_readRow rfl ⟨by decide, rfl⟩ ((cr.resolve_right (fun q => q (by omega)))) rfl rfl ⟨Nat.le_of_ble_eq_true rfl, Nat.le_of_ble_eq_true rfl⟩ (Nat.le_of_ble_eq_true rfl) ⟨Nat.le_of_ble_eq_true rfl, Nat.le_of_ble_eq_true rfl⟩ ?_
                rintro m122 h122
                obtain ⟨f122, k122, r122⟩ := h122 (by omega)
                refine R_return dX5_advance_125 rfl ?_
                first
                  | (exfalso; omega)
                  | (rw [if_neg (by omega), if_pos (by omega)] at ad
                     refine QV_mk (fin _ (((((hf.set rfl).set rfl).set rfl).set rfl).set rfl) (by simp [setI]; exact g6) (fun s hx => ?_) (fun e hx => ⟨by simp [setI], by simp [setI], by simp [setI]⟩))
                     rw [ad] at hx
                     cases hx)
                  | (rw [if_neg (by omega), if_neg (by omega), if_pos (by omega)] at ad
                     have q3 : srt5 (T.2 a) = 3 := by omega
                     refine QV_mk (fin _ (((hf.set rfl).set rfl).set rfl) (by simp [setI]; exact g6) (fun s hx => ?_) (fun e hx => ?_))
                     · rw [ad] at hx
                       cases hx
                       exact ⟨by simp [setI], by simp [setI, q3], by simp [setI], fun q => by simp at q, by simp [setI]; exact g7⟩
                     · rw [ad] at hx
                       cases hx)
                  | (have f2 : Fr is3 m m122 := ((hf.set rfl).set rfl).tr f122
                     have k2 : m122.1 3 6 = (st.2.2.2.1 : Int) := k122.trans (by simp [setI]; exact g6)
                     rcases (show srt5 (T.2 a) = 1 ∨ srt5 (T.2 a) = 2 by omega) with q1 | q1
                     · rw [if_neg (by omega), if_neg (by omega), if_neg (by omega), if_pos (by omega)] at ad
                       rw [q1] at r122
                       refine QV_mk (fin _ f2 k2 (fun s hx => ?_) (fun e hx => ?_))
                       · rw [ad] at hx
                         cases hx
                         rcases r122 with w | w
                         · exact absurd w.1 (by decide)
                         · exact ⟨w.2.2.1, w.2.2.2.1, w.2.2.2.2.1, fun q => by simp at q, w.2.1⟩
                       · rw [ad] at hx
                         cases hx
                     · rw [if_neg (by omega), if_neg (by omega), if_neg (by omega), if_neg (by omega)] at ad
                       rw [q1] at r122
                       rcases r122 with w | w
                       · rw [if_pos w.2.1] at ad
                         refine QV_mk (fin _ f2 k2 (fun s hx => ?_) (fun e hx => ⟨w.2.2.1, w.2.2.2.1, w.2.2.2.2⟩))
                         rw [ad] at hx
                         cases hx
                       · rw [if_neg (fun q => w.1 ⟨rfl, q⟩)] at ad
                         refine QV_mk (fin _ f2 k2 (fun s hx => ?_) (fun e hx => ?_))
                         · rw [ad] at hx
                           cases hx
                           exact ⟨w.2.2.1, w.2.2.2.1, w.2.2.2.2.1, fun _ => w.2.2.2.2.2 rfl, w.2.1⟩
                         · rw [ad] at hx
                           cases hx)
            · refine R_aload_n 102 rfl dX5_advance_101 rfl ?_
              refine R_dup 103 rfl dX5_advance_102 rfl ?_
              refine R_getI 2 106 rfl dX5_advance_103 rfl rfl fl_X5_24 ?_
              refine R_top (b := (a : Int)) (by simp [setI]; exact g2) ?_
              refine R_iconst 107 rfl dX5_advance_106 ?_
              refine R_iadd 108 rfl dX5_advance_107 ?_
              refine R_putI 2 111 rfl dX5_advance_108 rfl rfl fl_X5_24 ?_
              refine R_goto 125 rfl dX5_advance_111 ?_
              refine R_return dX5_advance_125 rfl ?_
              first
                | (exfalso; omega)
                | (rw [if_neg (by omega), if_pos (by omega)] at ad
                   refine QV_mk (fin _ (((((hf.set rfl).set rfl).set rfl).set rfl).set rfl) (by simp [setI]; exact g6) (fun s hx => ?_) (fun e hx => ⟨by simp [setI], by simp [setI], by simp [setI]⟩))
                   rw [ad] at hx
                   cases hx)
                | (rw [if_neg (by omega), if_neg (by omega), if_pos (by omega)] at ad
                   have q3 : srt5 (T.2 a) = 3 := by omega
                   refine QV_mk (fin _ (((hf.set rfl).set rfl).set rfl) (by simp [setI]; exact g6) (fun s hx => ?_) (fun e hx => ?_))
                   · rw [ad] at hx
                     cases hx
                     exact ⟨by simp [setI], by simp [setI, q3], by simp [setI], fun q => by simp at q, by simp [setI]; exact g7⟩
                   · rw [ad] at hx
                     cases hx)
                | (have f2 : Fr is3 m m122 := ((hf.set rfl).set rfl).tr f122
                   have k2 : m122.1 3 6 = (st.2.2.2.1 : Int) := k122.trans (by simp [setI]; exact g6)
                   rcases (show srt5 (T.2 a) = 1 ∨ srt5 (T.2 a) = 2 by omega) with q1 | q1
                   · rw [if_neg (by omega), if_neg (by omega), if_neg (by omega), if_pos (by omega)] at ad
                     rw [q1] at r122
                     refine QV_mk (fin _ f2 k2 (fun s hx => ?_) (fun e hx => ?_))
                     · rw [ad] at hx
                       cases hx
                       rcases r122 with w | w
                       · exact absurd w.1 (by decide)
                       · exact ⟨w.2.2.1, w.2.2.2.1, w.2.2.2.2.1, fun q => by simp at q, w.2.1⟩
                     · rw [ad] at hx
                       cases hx
                   · rw [if_neg (by omega), if_neg (by omega), if_neg (by omega), if_neg (by omega)] at ad
                     rw [q1] at r122
                     rcases r122 with w | w
                     · rw [if_pos w.2.1] at ad
                       refine QV_mk (fin _ f2 k2 (fun s hx => ?_) (fun e hx => ⟨w.2.2.1, w.2.2.2.1, w.2.2.2.2⟩))
                       rw [ad] at hx
                       cases hx
                     · rw [if_neg (fun q => w.1 ⟨rfl, q⟩)] at ad
                       refine QV_mk (fin _ f2 k2 (fun s hx => ?_) (fun e hx => ?_))
                       · rw [ad] at hx
                         cases hx
                         exact ⟨w.2.2.1, w.2.2.2.1, w.2.2.2.2.1, fun _ => w.2.2.2.2.2 rfl, w.2.1⟩
                       · rw [ad] at hx
                         cases hx)
          · refine R_aload_n 86 rfl dX5_advance_85 rfl ?_
            refine R_iconst 87 rfl dX5_advance_86 ?_
            refine R_callV_v (M' := mX5_refuse) 90 rfl dX5_advance_87 ml_X5_93 kmX5_refuse im_X5_refuse se_X5_refuse rfl ⟨by decide, rfl⟩ (c_X5_refuse0 _ (by simp [setI]; exact g7)) rfl rfl ⟨Nat.le_of_ble_eq_true rfl, Nat.le_of_ble_eq_true rfl⟩ (Nat.le_of_ble_eq_true rfl) ⟨Nat.le_of_ble_eq_true rfl, Nat.le_of_ble_eq_true rfl⟩ ?_
            refine R_goto 125 rfl dX5_advance_90 ?_
            refine R_return dX5_advance_125 rfl ?_
            first
              | (exfalso; omega)
              | (rw [if_neg (by omega), if_pos (by omega)] at ad
                 refine QV_mk (fin _ (((((hf.set rfl).set rfl).set rfl).set rfl).set rfl) (by simp [setI]; exact g6) (fun s hx => ?_) (fun e hx => ⟨by simp [setI], by simp [setI], by simp [setI]⟩))
                 rw [ad] at hx
                 cases hx)
              | (rw [if_neg (by omega), if_neg (by omega), if_pos (by omega)] at ad
                 have q3 : srt5 (T.2 a) = 3 := by omega
                 refine QV_mk (fin _ (((hf.set rfl).set rfl).set rfl) (by simp [setI]; exact g6) (fun s hx => ?_) (fun e hx => ?_))
                 · rw [ad] at hx
                   cases hx
                   exact ⟨by simp [setI], by simp [setI, q3], by simp [setI], fun q => by simp at q, by simp [setI]; exact g7⟩
                 · rw [ad] at hx
                   cases hx)
              | (have f2 : Fr is3 m m122 := ((hf.set rfl).set rfl).tr f122
                 have k2 : m122.1 3 6 = (st.2.2.2.1 : Int) := k122.trans (by simp [setI]; exact g6)
                 rcases (show srt5 (T.2 a) = 1 ∨ srt5 (T.2 a) = 2 by omega) with q1 | q1
                 · rw [if_neg (by omega), if_neg (by omega), if_neg (by omega), if_pos (by omega)] at ad
                   rw [q1] at r122
                   refine QV_mk (fin _ f2 k2 (fun s hx => ?_) (fun e hx => ?_))
                   · rw [ad] at hx
                     cases hx
                     rcases r122 with w | w
                     · exact absurd w.1 (by decide)
                     · exact ⟨w.2.2.1, w.2.2.2.1, w.2.2.2.2.1, fun q => by simp at q, w.2.1⟩
                   · rw [ad] at hx
                     cases hx
                 · rw [if_neg (by omega), if_neg (by omega), if_neg (by omega), if_neg (by omega)] at ad
                   rw [q1] at r122
                   rcases r122 with w | w
                   · rw [if_pos w.2.1] at ad
                     refine QV_mk (fin _ f2 k2 (fun s hx => ?_) (fun e hx => ⟨w.2.2.1, w.2.2.2.1, w.2.2.2.2⟩))
                     rw [ad] at hx
                     cases hx
                   · rw [if_neg (fun q => w.1 ⟨rfl, q⟩)] at ad
                     refine QV_mk (fin _ f2 k2 (fun s hx => ?_) (fun e hx => ?_))
                     · rw [ad] at hx
                       cases hx
                       exact ⟨w.2.2.1, w.2.2.2.1, w.2.2.2.2.1, fun _ => w.2.2.2.2.2 rfl, w.2.1⟩
                     · rw [ad] at hx
                       cases hx)
      · have s0 := srA_out (T := T) (k := a) (by omega)
        rw [if_pos s0] at ad
        refine R_aload_n 40 rfl dX5_advance_39 rfl ?_
        refine R_aload_n 41 rfl dX5_advance_40 rfl ?_
        refine R_getI 2 44 rfl dX5_advance_41 rfl rfl fl_X5_24 ?_
        rw [g2]
        refine R_putI 4 47 rfl dX5_advance_44 rfl rfl fl_X5_138 ?_
        refine R_aload_n 48 rfl dX5_advance_47 rfl ?_
        refine R_aload_n 49 rfl dX5_advance_48 rfl ?_
        refine R_getI 2 52 rfl dX5_advance_49 rfl rfl fl_X5_24 ?_
        refine R_top (b := (a : Int)) (by simp [setI]; exact g2) ?_
        refine R_aload_n 53 rfl dX5_advance_52 rfl ?_
        refine R_getP 0 56 rfl dX5_advance_53 rfl rfl fl_X5_9 hb1.2.2.2.1 ?_
        refine R_getI 1 59 rfl dX5_advance_56 rfl rfl fl_X5_141 ?_
        refine R_top (b := (T.1 : Int)) (by simp [setI]; exact ht) ?_
        refine R_icmp_ge 62 73 rfl rfl dX5_advance_59 (by first | assumption | exact ⟨by omega, by omega⟩) (by first | assumption | exact ⟨by omega, by omega⟩) (fun h59 => ?_) (fun h59 => ?_)
        · refine R_iconst 74 rfl dX5_advance_73 ?_
          refine R_putI 3 77 rfl dX5_advance_74 rfl rfl fl_X5_40 ?_
          refine R_aload_n 78 rfl dX5_advance_77 rfl ?_
          refine R_getI 3 81 rfl dX5_advance_78 rfl rfl fl_X5_40 ?_
          refine R_top (b := 0) (by simp [setI]) ?_
          refine R_iconst 82 rfl dX5_advance_81 ?_
          refine R_icmp_ne 85 93 rfl rfl dX5_advance_82 (by first | assumption | exact ⟨by omega, by omega⟩) (by first | assumption | exact ⟨by omega, by omega⟩) (fun h82 => ?_) (fun h82 => ?_)
          rotate_left
          · exact absurd h82 (by omega)
          refine R_aload_n 94 rfl dX5_advance_93 rfl ?_
          refine R_getI 3 97 rfl dX5_advance_94 rfl rfl fl_X5_40 ?_
          refine R_top (b := 0) (by simp [setI]) ?_
          refine R_iconst 98 rfl dX5_advance_97 ?_
          refine R_icmp_ne 101 114 rfl rfl dX5_advance_98 (by first | assumption | exact ⟨by omega, by omega⟩) (by first | assumption | exact ⟨by omega, by omega⟩) (fun h98 => ?_) (fun h98 => ?_)
          rotate_left
          · exact absurd h98 (by omega)
          refine R_aload_n 115 rfl dX5_advance_114 rfl ?_
          refine R_getI 3 118 rfl dX5_advance_115 rfl rfl fl_X5_40 ?_
          refine R_top (b := 0) (by simp [setI]) ?_
          refine R_if_eq 121 125 rfl rfl dX5_advance_118 (by first | assumption | exact ⟨by omega, by omega⟩) (fun h118 => ?_) (fun h118 => ?_)
          rotate_left
          · exact absurd h118 (by omega)
          refine R_return dX5_advance_125 rfl ?_
          refine QV_mk (fin _ ((hf.set rfl).set rfl) (by simp [setI]; exact g6) (fun s hx => ?_) (fun e hx => ?_))
          · rw [ad] at hx
            cases hx
            exact ⟨by simp [setI]; exact g2, by simp [setI], by simp [setI], fun q => by simp at q, by simp [setI]; exact g7⟩
          · rw [ad] at hx
            cases hx
        · exfalso; omega
    refine R_aload_n 1 rfl dX5_advance_0 rfl ?_
    refine R_getI 2 4 rfl dX5_advance_1 rfl rfl fl_X5_24 ?_
    refine R_aload_n 5 rfl dX5_advance_4 rfl ?_
    refine R_getP 0 8 rfl dX5_advance_5 rfl rfl fl_X5_9 hb1.2.2.2.1 ?_
    refine R_getI 1 11 rfl dX5_advance_8 rfl rfl fl_X5_141 ?_
    refine R_icmp_ge 14 39 rfl rfl dX5_advance_11 (by first | assumption | exact ⟨by omega, by omega⟩) (by first | assumption | exact ⟨by omega, by omega⟩) (fun h11 => ?_) (fun h11 => ?_)
    · first | exact L39 (by rw [srA_out (by omega)]; decide) | exact L39 (by rw [srA_in (by omega)]; omega)
    · have s1 := srt5_rg (T.2 a)
      refine R_aload_n 15 rfl dX5_advance_14 rfl ?_
      refine R_aload_n 16 rfl dX5_advance_15 rfl ?_
      refine R_getI 2 19 rfl dX5_advance_16 rfl rfl fl_X5_24 ?_
      refine R_callV_i (M' := mX5_sortAt) 22 rfl dX5_advance_19 ml_X5_146 kmX5_sortAt im_X5_sortAt se_X5_sortAt rfl ⟨by decide, rfl⟩ (c_X5_sortAt _ a hb1 (by omega) (by omega)) rfl rfl ⟨Nat.le_of_ble_eq_true rfl, Nat.le_of_ble_eq_true rfl⟩ (Nat.le_of_ble_eq_true rfl) ⟨Nat.le_of_ble_eq_true rfl, Nat.le_of_ble_eq_true rfl⟩ ?_
      refine R_iconst 23 rfl dX5_advance_22 ?_
      refine R_icmp_ne 26 39 rfl rfl dX5_advance_23 (by first | assumption | exact ⟨by omega, by omega⟩) (by first | assumption | exact ⟨by omega, by omega⟩) (fun h23 => ?_) (fun h23 => ?_)
      · first | exact L39 (by rw [srA_out (by omega)]; decide) | exact L39 (by rw [srA_in (by omega)]; omega)
      · refine R_aload_n 27 rfl dX5_advance_26 rfl ?_
        refine R_dup 28 rfl dX5_advance_27 rfl ?_
        refine R_getI 2 31 rfl dX5_advance_28 rfl rfl fl_X5_24 ?_
        refine R_iconst 32 rfl dX5_advance_31 ?_
        refine R_iadd 33 rfl dX5_advance_32 ?_
        refine R_putI 2 36 rfl dX5_advance_33 rfl rfl fl_X5_24 ?_
        refine R_goto 0 rfl dX5_advance_36 ?_
        have s0 := srA_in (T := T) (k := a) (by omega)
        have ey := rE_y (T := T) (c := 4) (a := a) (by decide) (by omega)
        exact ih (by omega) (by omega) _ (hf.set rfl) (by simp [setI]; omega) (by simp [setI]; exact g6) (by simp [setI]; exact g7) (by rw [← ey]; exact he)
  exact Lp st.1 h1 (Nat.le_refl _) m Fr.rf h2 h6 h7 rfl
end
