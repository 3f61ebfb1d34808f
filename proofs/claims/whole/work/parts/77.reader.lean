/-! the class's reader -/
def PCb (o d : Nat) (T : Tp) (m : Mem) : Prop := PO o d m ∧ TpC m T ∧ TpOk T ∧ m.2 3 0 = some 1 ∧ m.2 3 1 = some d
def LdB (L : Ld) : Prop := 0 ≤ L.1 0 ∧ L.1 0 ≤ 12 ∧ 0 ≤ L.1 1 ∧ L.1 1 ≤ 8
def PCa (T : Tp) (d : Nat) (m : Mem) (st : St) : Prop := m.1 3 2 = (st.1 : Int) ∧ m.1 3 3 = (st.2.2.1 : Int) ∧ m.1 3 4 = (st.2.1 : Int) ∧ (st.2.2.1 = 2 → m.1 3 5 = nv T st.2.1 (st.1 - st.2.1)) ∧ m.1 3 6 = (st.2.2.2.1 : Int) ∧ m.1 3 7 = 0 ∧ Vs T st ∧ LdC d m (sL st) ∧ LdB (sL st)
def PCd (m : Mem) (e : Int × Nat) : Prop := m.1 3 7 = e.1 ∧ m.1 3 8 = (e.2 : Int) ∧ m.1 3 3 = 0 ∧ 1 ≤ e.1 ∧ e.1 ≤ 5
def PCx (T : Tp) (d : Nat) (m : Mem) (x : PX St) : Prop := match x with
  | .inl e => PCd m e
  | .inr st => PCa T d m st
def is3 (a : Nat) : Bool := decide (a = 3)
theorem bm_cases {x : Int} (h : 0 ≤ x ∧ x ≤ 255) : (x < 128 ∧ x.bmod 256 = x) ∨ (128 ≤ x ∧ x.bmod 256 = x - 256) := by
  unfold Int.bmod
  simp
  split <;> omega
section
variable {Γ : GX} {m m' : Mem} {T : Tp} {o d : Nat} {P : Nat → Bool}
theorem TpC.fr (h : TpC m T) (hf : Fr P m m') (h1 : P 1 = false) (h2 : P 2 = false) : TpC m' T := ⟨by rw [hf.1 1 1 h1]; exact h.1, fun k hk => by rw [hf.1 2 k h2]; exact h.2 k hk⟩
theorem PCb.fr (h : PCb o d T m) (hf : Fr P m m') (h1 : P 1 = false) (h2 : P 2 = false) : PCb o d T m' := ⟨h.1.eq hf.2, h.2.1.fr hf h1 h2, h.2.2.1, by rw [hf.2]; exact h.2.2.2.1, by rw [hf.2]; exact h.2.2.2.2⟩
theorem is3_L : ∀ a, 4 ≤ a → a ≤ 29 → is3 a = false := fun a h1 h2 => by simp [is3]; omega
theorem c_X5_sortAt (z : Int) (i : Nat) (hb : PCb o d T m) (hz : z = (i : Int)) (hi : i < T.1) : C Γ mX5_sortAt 0 0 0 0 [vr 3, vi z] SH m (Qi SH m (srt5 (T.2 i) : Int)) := by
  refine C_of_R rfl (Nat.le_of_ble_eq_true rfl) ?_
  have hP := hb.1.2
  have h1 := hb.2.1.2 i hi
  have h2 := hb.2.2.1.1
  have h3 := bm_cases (hb.2.2.1.2 i hi)
  have h4 := hb.2.2.1.2 i hi
  have e : (97 ≤ T.2 i ∧ T.2 i ≤ 122 → srt5 (T.2 i) = 1) ∧ (48 ≤ T.2 i ∧ T.2 i ≤ 57 → srt5 (T.2 i) = 2) ∧ (T.2 i = 32 → srt5 (T.2 i) = 4) ∧ (T.2 i = 59 → srt5 (T.2 i) = 3) ∧ (¬ (97 ≤ T.2 i ∧ T.2 i ≤ 122) ∧ ¬ (48 ≤ T.2 i ∧ T.2 i ≤ 57) ∧ ¬ T.2 i = 32 ∧ ¬ T.2 i = 59 → srt5 (T.2 i) = 5) := by
    unfold srt5
    refine ⟨fun q => if_pos q, fun q => ?_, fun q => ?_, fun q => ?_, fun q => ?_⟩
    · rw [if_neg (by omega), if_pos q]
    · rw [if_neg (by omega), if_neg (by omega), if_pos q]
    · rw [if_neg (by omega), if_neg (by omega), if_neg (by omega), if_pos q]
    · rw [if_neg q.1, if_neg q.2.1, if_neg q.2.2.1, if_neg q.2.2.2]
  refine R_aload_n 1 rfl dX5_sortAt_0 rfl ?_
  refine R_getP 0 4 rfl dX5_sortAt_1 rfl rfl fl_X5_9 hb.2.2.2.1 ?_
  refine R_getP 0 7 rfl dX5_sortAt_4 rfl rfl fl_X5_153 (hP _ _ _ rfl) ?_
  refine R_iload_n 8 rfl dX5_sortAt_7 rfl ?_
  refine R_bald i 9 rfl dX5_sortAt_8 rfl (by first | rfl | omega) (by omega) (by decide) ?_
  rw [h1]
  refine R_istore_n [_, _, _] 10 rfl dX5_sortAt_9 rfl (by decide) ?_
  refine R_iload_n 11 rfl dX5_sortAt_10 rfl ?_
  refine R_bipush 13 rfl dX5_sortAt_11 (by decide) ?_
  refine R_icmp_lt 16 24 rfl rfl dX5_sortAt_13 (by first | assumption | exact ⟨by omega, by omega⟩) (by first | assumption | exact ⟨by omega, by omega⟩) (fun h13 => ?_) (fun h13 => ?_)
  · refine R_iload_n 25 rfl dX5_sortAt_24 rfl ?_
    refine R_bipush 27 rfl dX5_sortAt_25 (by decide) ?_
    refine R_icmp_lt 30 38 rfl rfl dX5_sortAt_27 (by first | assumption | exact ⟨by omega, by omega⟩) (by first | assumption | exact ⟨by omega, by omega⟩) (fun h27 => ?_) (fun h27 => ?_)
    · refine R_iload_n 39 rfl dX5_sortAt_38 rfl ?_
      refine R_bipush 41 rfl dX5_sortAt_39 (by decide) ?_
      refine R_icmp_ne 44 46 rfl rfl dX5_sortAt_41 (by first | assumption | exact ⟨by omega, by omega⟩) (by first | assumption | exact ⟨by omega, by omega⟩) (fun h41 => ?_) (fun h41 => ?_)
      · refine R_iload_n 47 rfl dX5_sortAt_46 rfl ?_
        refine R_bipush 49 rfl dX5_sortAt_47 (by decide) ?_
        refine R_icmp_ne 52 56 rfl rfl dX5_sortAt_49 (by first | assumption | exact ⟨by omega, by omega⟩) (by first | assumption | exact ⟨by omega, by omega⟩) (fun h49 => ?_) (fun h49 => ?_)
        · refine R_iconst 57 rfl dX5_sortAt_56 ?_
          refine R_ireturn dX5_sortAt_57 rfl ?_
          exact Qi_mk (by omega)
        · refine R_iconst 53 rfl dX5_sortAt_52 ?_
          refine R_goto 57 rfl dX5_sortAt_53 ?_
          refine R_ireturn dX5_sortAt_57 rfl ?_
          exact Qi_mk (by omega)
      · refine R_iconst 45 rfl dX5_sortAt_44 ?_
        refine R_ireturn dX5_sortAt_45 rfl ?_
        exact Qi_mk (by omega)
    · refine R_iload_n 31 rfl dX5_sortAt_30 rfl ?_
      refine R_bipush 33 rfl dX5_sortAt_31 (by decide) ?_
      refine R_icmp_gt 36 38 rfl rfl dX5_sortAt_33 (by first | assumption | exact ⟨by omega, by omega⟩) (by first | assumption | exact ⟨by omega, by omega⟩) (fun h33 => ?_) (fun h33 => ?_)
      · refine R_iload_n 39 rfl dX5_sortAt_38 rfl ?_
        refine R_bipush 41 rfl dX5_sortAt_39 (by decide) ?_
        refine R_icmp_ne 44 46 rfl rfl dX5_sortAt_41 (by first | assumption | exact ⟨by omega, by omega⟩) (by first | assumption | exact ⟨by omega, by omega⟩) (fun h41 => ?_) (fun h41 => ?_)
        · refine R_iload_n 47 rfl dX5_sortAt_46 rfl ?_
          refine R_bipush 49 rfl dX5_sortAt_47 (by decide) ?_
          refine R_icmp_ne 52 56 rfl rfl dX5_sortAt_49 (by first | assumption | exact ⟨by omega, by omega⟩) (by first | assumption | exact ⟨by omega, by omega⟩) (fun h49 => ?_) (fun h49 => ?_)
          · refine R_iconst 57 rfl dX5_sortAt_56 ?_
            refine R_ireturn dX5_sortAt_57 rfl ?_
            exact Qi_mk (by omega)
          · refine R_iconst 53 rfl dX5_sortAt_52 ?_
            refine R_goto 57 rfl dX5_sortAt_53 ?_
            refine R_ireturn dX5_sortAt_57 rfl ?_
            exact Qi_mk (by omega)
        · refine R_iconst 45 rfl dX5_sortAt_44 ?_
          refine R_ireturn dX5_sortAt_45 rfl ?_
          exact Qi_mk (by omega)
      · refine R_iconst 37 rfl dX5_sortAt_36 ?_
        refine R_ireturn dX5_sortAt_37 rfl ?_
        exact Qi_mk (by omega)
  · refine R_iload_n 17 rfl dX5_sortAt_16 rfl ?_
    refine R_bipush 19 rfl dX5_sortAt_17 (by decide) ?_
    refine R_icmp_gt 22 24 rfl rfl dX5_sortAt_19 (by first | assumption | exact ⟨by omega, by omega⟩) (by first | assumption | exact ⟨by omega, by omega⟩) (fun h19 => ?_) (fun h19 => ?_)
    · refine R_iload_n 25 rfl dX5_sortAt_24 rfl ?_
      refine R_bipush 27 rfl dX5_sortAt_25 (by decide) ?_
      refine R_icmp_lt 30 38 rfl rfl dX5_sortAt_27 (by first | assumption | exact ⟨by omega, by omega⟩) (by first | assumption | exact ⟨by omega, by omega⟩) (fun h27 => ?_) (fun h27 => ?_)
      · refine R_iload_n 39 rfl dX5_sortAt_38 rfl ?_
        refine R_bipush 41 rfl dX5_sortAt_39 (by decide) ?_
        refine R_icmp_ne 44 46 rfl rfl dX5_sortAt_41 (by first | assumption | exact ⟨by omega, by omega⟩) (by first | assumption | exact ⟨by omega, by omega⟩) (fun h41 => ?_) (fun h41 => ?_)
        · refine R_iload_n 47 rfl dX5_sortAt_46 rfl ?_
          refine R_bipush 49 rfl dX5_sortAt_47 (by decide) ?_
          refine R_icmp_ne 52 56 rfl rfl dX5_sortAt_49 (by first | assumption | exact ⟨by omega, by omega⟩) (by first | assumption | exact ⟨by omega, by omega⟩) (fun h49 => ?_) (fun h49 => ?_)
          · refine R_iconst 57 rfl dX5_sortAt_56 ?_
            refine R_ireturn dX5_sortAt_57 rfl ?_
            exact Qi_mk (by omega)
          · refine R_iconst 53 rfl dX5_sortAt_52 ?_
            refine R_goto 57 rfl dX5_sortAt_53 ?_
            refine R_ireturn dX5_sortAt_57 rfl ?_
            exact Qi_mk (by omega)
        · refine R_iconst 45 rfl dX5_sortAt_44 ?_
          refine R_ireturn dX5_sortAt_45 rfl ?_
          exact Qi_mk (by omega)
      · refine R_iload_n 31 rfl dX5_sortAt_30 rfl ?_
        refine R_bipush 33 rfl dX5_sortAt_31 (by decide) ?_
        refine R_icmp_gt 36 38 rfl rfl dX5_sortAt_33 (by first | assumption | exact ⟨by omega, by omega⟩) (by first | assumption | exact ⟨by omega, by omega⟩) (fun h33 => ?_) (fun h33 => ?_)
        · refine R_iload_n 39 rfl dX5_sortAt_38 rfl ?_
          refine R_bipush 41 rfl dX5_sortAt_39 (by decide) ?_
          refine R_icmp_ne 44 46 rfl rfl dX5_sortAt_41 (by first | assumption | exact ⟨by omega, by omega⟩) (by first | assumption | exact ⟨by omega, by omega⟩) (fun h41 => ?_) (fun h41 => ?_)
          · refine R_iload_n 47 rfl dX5_sortAt_46 rfl ?_
            refine R_bipush 49 rfl dX5_sortAt_47 (by decide) ?_
            refine R_icmp_ne 52 56 rfl rfl dX5_sortAt_49 (by first | assumption | exact ⟨by omega, by omega⟩) (by first | assumption | exact ⟨by omega, by omega⟩) (fun h49 => ?_) (fun h49 => ?_)
            · refine R_iconst 57 rfl dX5_sortAt_56 ?_
              refine R_ireturn dX5_sortAt_57 rfl ?_
              exact Qi_mk (by omega)
            · refine R_iconst 53 rfl dX5_sortAt_52 ?_
              refine R_goto 57 rfl dX5_sortAt_53 ?_
              refine R_ireturn dX5_sortAt_57 rfl ?_
              exact Qi_mk (by omega)
          · refine R_iconst 45 rfl dX5_sortAt_44 ?_
            refine R_ireturn dX5_sortAt_45 rfl ?_
            exact Qi_mk (by omega)
        · refine R_iconst 37 rfl dX5_sortAt_36 ?_
          refine R_ireturn dX5_sortAt_37 rfl ?_
          exact Qi_mk (by omega)
    · refine R_iconst 23 rfl dX5_sortAt_22 ?_
      refine R_ireturn dX5_sortAt_23 rfl ?_
      exact Qi_mk (by omega)
theorem c_X5_refuse0 (w : Int) (h7 : m.1 3 7 = 0) : C Γ mX5_refuse 0 0 0 0 [vr 3, vi w] SH m (Qv SH (setI (setI (setI m 3 7 w) 3 8 (m.1 3 4)) 3 3 0)) := by
  refine C_of_R rfl (Nat.le_of_ble_eq_true rfl) ?_
  refine R_aload_n 1 rfl dX5_refuse_0 rfl ?_
  refine R_getI 7 4 rfl dX5_refuse_1 rfl rfl fl_X5_31 ?_
  refine R_if_ne 7 20 rfl rfl dX5_refuse_4 (by first | assumption | exact ⟨by omega, by omega⟩) (fun h4 => ?_) (fun h4 => ?_)
  · first
      | exact absurd h7 h4
      | (refine R_aload_n 21 rfl dX5_refuse_20 rfl ?_
         refine R_iconst 22 rfl dX5_refuse_21 ?_
         refine R_putI 3 25 rfl dX5_refuse_22 rfl rfl fl_X5_40 ?_
         exact R_return dX5_refuse_25 rfl (Qv_mk rfl))
  · refine R_aload_n 8 rfl dX5_refuse_7 rfl ?_
    refine R_iload_n 9 rfl dX5_refuse_8 rfl ?_
    refine R_putI 7 12 rfl dX5_refuse_9 rfl rfl fl_X5_31 ?_
    refine R_aload_n 13 rfl dX5_refuse_12 rfl ?_
    refine R_aload_n 14 rfl dX5_refuse_13 rfl ?_
    refine R_getI 4 17 rfl dX5_refuse_14 rfl rfl fl_X5_138 ?_
    refine R_putI 8 20 rfl dX5_refuse_17 rfl rfl fl_X5_34 ?_
    first
      | exact absurd h7 h4
      | (refine R_aload_n 21 rfl dX5_refuse_20 rfl ?_
         refine R_iconst 22 rfl dX5_refuse_21 ?_
         refine R_putI 3 25 rfl dX5_refuse_22 rfl rfl fl_X5_40 ?_
         exact R_return dX5_refuse_25 rfl (Qv_mk rfl))
theorem c_X5_refuse1 (w : Int) (h7 : m.1 3 7 ≠ 0) (hr : 1 ≤ m.1 3 7 ∧ m.1 3 7 ≤ 5) : C Γ mX5_refuse 0 0 0 0 [vr 3, vi w] SH m (Qv SH (setI m 3 3 0)) := by
  refine C_of_R rfl (Nat.le_of_ble_eq_true rfl) ?_
  refine R_aload_n 1 rfl dX5_refuse_0 rfl ?_
  refine R_getI 7 4 rfl dX5_refuse_1 rfl rfl fl_X5_31 ?_
  refine R_if_ne 7 20 rfl rfl dX5_refuse_4 (by first | assumption | exact ⟨by omega, by omega⟩) (fun h4 => ?_) (fun h4 => ?_)
  · refine R_aload_n 21 rfl dX5_refuse_20 rfl ?_
    refine R_iconst 22 rfl dX5_refuse_21 ?_
    refine R_putI 3 25 rfl dX5_refuse_22 rfl rfl fl_X5_40 ?_
    refine R_return dX5_refuse_25 rfl ?_
    exact Qv_mk rfl
  · exfalso; omega
def rrP (T : Tp) (p c : Nat) (m' : Mem) : Prop := (c = 2 ∧ 3 < rE T 2 p - p ∧ m'.1 3 7 = 1 ∧ m'.1 3 8 = (p : Int) ∧ m'.1 3 3 = 0) ∨ (¬ (c = 2 ∧ 3 < rE T 2 p - p) ∧ m'.1 3 7 = 0 ∧ m'.1 3 2 = (rE T c p : Int) ∧ m'.1 3 3 = (c : Int) ∧ m'.1 3 4 = (p : Int) ∧ (c = 2 → m'.1 3 5 = nv T p (rE T c p - p)))
theorem c_X5_readRow (p c : Nat) (hc : c = 1 ∨ c = 2) (hb : PCb o d T m) (h2 : m.1 3 2 = (p : Int)) (h3 : m.1 3 3 = (c : Int)) (h4 : m.1 3 4 = (p : Int)) (h7 : m.1 3 7 = 0) (hp : p < T.1) : C Γ mX5_readRow 1 40 0 0 [vr 3] SH m (QV SH (fun m' => Fr is3 m m' ∧ m'.1 3 6 = m.1 3 6 ∧ rrP T p c m')) := by
  refine C_of_R rfl (Nat.le_of_ble_eq_true rfl) ?_
  have hl := hb.2.2.1.1
  have Lp : ∀ a, a ≤ T.1 → p ≤ a → ∀ m1, Fr is3 m m1 → m1.1 3 2 = (a : Int) → m1.1 3 3 = (c : Int) → m1.1 3 4 = (p : Int) → m1.1 3 7 = 0 → m1.1 3 6 = m.1 3 6 → (c = 2 → m1.1 3 5 = nv T p (a - p)) → rE T c a = rE T c p → R Γ mX5_readRow { frames := 1, cells := 0, slots := 0, locals := 40 } 0 0 (QV SH (fun m' => Fr is3 m m' ∧ m'.1 3 6 = m.1 3 6 ∧ rrP T p c m')) 0 0 5 [some (vr 3)] [] SH m1 := by
    refine up_ind T.1 (fun a ha ih hpa m1 hf g2 g3 g4 g7 g6 g5 he => ?_)
    have hb1 := hb.fr hf rfl rfl
    have hP := hb1.1.2
    have ht := hb1.2.1.1
    have rr := rE_rg (T := T) (c := c) ha
    refine R_aload_n 6 rfl dX5_readRow_5 rfl ?_
    refine R_getI 2 9 rfl dX5_readRow_6 rfl rfl fl_X5_24 ?_
    refine R_aload_n 10 rfl dX5_readRow_9 rfl ?_
    refine R_getP 0 13 rfl dX5_readRow_10 rfl rfl fl_X5_9 hb1.2.2.2.1 ?_
    refine R_getI 1 16 rfl dX5_readRow_13 rfl rfl fl_X5_141 ?_
    refine R_icmp_ge 19 74 rfl rfl dX5_readRow_16 (by first | assumption | exact ⟨by omega, by omega⟩) (by first | assumption | exact ⟨by omega, by omega⟩) (fun h16 => ?_) (fun h16 => ?_)
    · have ne : srA T a ≠ c := by
        first
          | (rw [srA_out (by omega)]; omega)
          | omega
      have ea : rE T c a = a := rE_n ne
      have ea2 : rE T c p = a := by rw [← he]; exact ea
      refine R_aload_n 75 rfl dX5_readRow_74 rfl ?_
      refine R_getI 3 78 rfl dX5_readRow_75 rfl rfl fl_X5_40 ?_
      refine R_iconst 79 rfl dX5_readRow_78 ?_
      refine R_icmp_ne 82 100 rfl rfl dX5_readRow_79 (by first | assumption | exact ⟨by omega, by omega⟩) (by first | assumption | exact ⟨by omega, by omega⟩) (fun h79 => ?_) (fun h79 => ?_)
      · refine R_return dX5_readRow_100 rfl ?_
        first
          | (refine QV_mk ⟨((hf.set rfl).set rfl).set rfl, by simp [setI]; exact g6, Or.inl ⟨by omega, ?_, by simp [setI], by simp [setI]; exact g4, by simp [setI]⟩⟩
             have e2 : c = 2 := by omega
             subst e2
             omega)
          | (refine QV_mk ⟨hf, g6, Or.inr ⟨fun q => ?_, g7, by rw [ea2]; exact g2, g3, g4, by rw [ea2]; exact g5⟩⟩
             have e2 := q.1
             subst e2
             omega)
      · refine R_aload_n 83 rfl dX5_readRow_82 rfl ?_
        refine R_getI 2 86 rfl dX5_readRow_83 rfl rfl fl_X5_24 ?_
        refine R_aload_n 87 rfl dX5_readRow_86 rfl ?_
        refine R_getI 4 90 rfl dX5_readRow_87 rfl rfl fl_X5_138 ?_
        refine R_isub 91 rfl dX5_readRow_90 ?_
        refine R_iconst 92 rfl dX5_readRow_91 ?_
        refine R_icmp_le 95 100 rfl rfl dX5_readRow_92 (by first | assumption | exact ⟨by omega, by omega⟩) (by first | assumption | exact ⟨by omega, by omega⟩) (fun h92 => ?_) (fun h92 => ?_)
        · refine R_return dX5_readRow_100 rfl ?_
          first
            | (refine QV_mk ⟨((hf.set rfl).set rfl).set rfl, by simp [setI]; exact g6, Or.inl ⟨by omega, ?_, by simp [setI], by simp [setI]; exact g4, by simp [setI]⟩⟩
               have e2 : c = 2 := by omega
               subst e2
               omega)
            | (refine QV_mk ⟨hf, g6, Or.inr ⟨fun q => ?_, g7, by rw [ea2]; exact g2, g3, g4, by rw [ea2]; exact g5⟩⟩
               have e2 := q.1
               subst e2
               omega)
        · refine R_aload_n 96 rfl dX5_readRow_95 rfl ?_
          refine R_iconst 97 rfl dX5_readRow_96 ?_
          refine R_callV_v (M' := mX5_refuse) 100 rfl dX5_readRow_97 ml_X5_93 kmX5_refuse im_X5_refuse se_X5_refuse rfl ⟨by decide, rfl⟩ (c_X5_refuse0 _ g7) rfl rfl ⟨Nat.le_of_ble_eq_true rfl, Nat.le_of_ble_eq_true rfl⟩ (Nat.le_of_ble_eq_true rfl) ⟨Nat.le_of_ble_eq_true rfl, Nat.le_of_ble_eq_true rfl⟩ ?_
          refine R_return dX5_readRow_100 rfl ?_
          first
            | (refine QV_mk ⟨((hf.set rfl).set rfl).set rfl, by simp [setI]; exact g6, Or.inl ⟨by omega, ?_, by simp [setI], by simp [setI]; exact g4, by simp [setI]⟩⟩
               have e2 : c = 2 := by omega
               subst e2
               omega)
            | (refine QV_mk ⟨hf, g6, Or.inr ⟨fun q => ?_, g7, by rw [ea2]; exact g2, g3, g4, by rw [ea2]; exact g5⟩⟩
               have e2 := q.1
               subst e2
               omega)
    · have s0 := srA_in (T := T) (k := a) (by omega)
      have s1 := srt5_rg (T.2 a)
      have b1 := hb1.2.1.2 a (by omega)
      have b2 := hb1.2.2.1.2 a (by omega)
      have b3 := bm_cases b2
      refine R_aload_n 20 rfl dX5_readRow_19 rfl ?_
      refine R_aload_n 21 rfl dX5_readRow_20 rfl ?_
      refine R_getI 2 24 rfl dX5_readRow_21 rfl rfl fl_X5_24 ?_
      refine R_callV_i (M' := mX5_sortAt) 27 rfl dX5_readRow_24 ml_X5_146 kmX5_sortAt im_X5_sortAt se_X5_sortAt rfl ⟨by decide, rfl⟩ (c_X5_sortAt _ a hb1 (by omega) (by omega)) rfl rfl ⟨Nat.le_of_ble_eq_true rfl, Nat.le_of_ble_eq_true rfl⟩ (Nat.le_of_ble_eq_true rfl) ⟨Nat.le_of_ble_eq_true rfl, Nat.le_of_ble_eq_true rfl⟩ ?_
      refine R_aload_n 28 rfl dX5_readRow_27 rfl ?_
      refine R_getI 3 31 rfl dX5_readRow_28 rfl rfl fl_X5_40 ?_
      refine R_icmp_ne 34 74 rfl rfl dX5_readRow_31 (by first | assumption | exact ⟨by omega, by omega⟩) (by first | assumption | exact ⟨by omega, by omega⟩) (fun h31 => ?_) (fun h31 => ?_)
      · have ne : srA T a ≠ c := by
          first
            | (rw [srA_out (by omega)]; omega)
            | omega
        have ea : rE T c a = a := rE_n ne
        have ea2 : rE T c p = a := by rw [← he]; exact ea
        refine R_aload_n 75 rfl dX5_readRow_74 rfl ?_
        refine R_getI 3 78 rfl dX5_readRow_75 rfl rfl fl_X5_40 ?_
        refine R_iconst 79 rfl dX5_readRow_78 ?_
        refine R_icmp_ne 82 100 rfl rfl dX5_readRow_79 (by first | assumption | exact ⟨by omega, by omega⟩) (by first | assumption | exact ⟨by omega, by omega⟩) (fun h79 => ?_) (fun h79 => ?_)
        · refine R_return dX5_readRow_100 rfl ?_
          first
            | (refine QV_mk ⟨((hf.set rfl).set rfl).set rfl, by simp [setI]; exact g6, Or.inl ⟨by omega, ?_, by simp [setI], by simp [setI]; exact g4, by simp [setI]⟩⟩
               have e2 : c = 2 := by omega
               subst e2
               omega)
            | (refine QV_mk ⟨hf, g6, Or.inr ⟨fun q => ?_, g7, by rw [ea2]; exact g2, g3, g4, by rw [ea2]; exact g5⟩⟩
               have e2 := q.1
               subst e2
               omega)
        · refine R_aload_n 83 rfl dX5_readRow_82 rfl ?_
          refine R_getI 2 86 rfl dX5_readRow_83 rfl rfl fl_X5_24 ?_
          refine R_aload_n 87 rfl dX5_readRow_86 rfl ?_
          refine R_getI 4 90 rfl dX5_readRow_87 rfl rfl fl_X5_138 ?_
          refine R_isub 91 rfl dX5_readRow_90 ?_
          refine R_iconst 92 rfl dX5_readRow_91 ?_
          refine R_icmp_le 95 100 rfl rfl dX5_readRow_92 (by first | assumption | exact ⟨by omega, by omega⟩) (by first | assumption | exact ⟨by omega, by omega⟩) (fun h92 => ?_) (fun h92 => ?_)
          · refine R_return dX5_readRow_100 rfl ?_
            first
              | (refine QV_mk ⟨((hf.set rfl).set rfl).set rfl, by simp [setI]; exact g6, Or.inl ⟨by omega, ?_, by simp [setI], by simp [setI]; exact g4, by simp [setI]⟩⟩
                 have e2 : c = 2 := by omega
                 subst e2
                 omega)
              | (refine QV_mk ⟨hf, g6, Or.inr ⟨fun q => ?_, g7, by rw [ea2]; exact g2, g3, g4, by rw [ea2]; exact g5⟩⟩
                 have e2 := q.1
                 subst e2
                 omega)
          · refine R_aload_n 96 rfl dX5_readRow_95 rfl ?_
            refine R_iconst 97 rfl dX5_readRow_96 ?_
            refine R_callV_v (M' := mX5_refuse) 100 rfl dX5_readRow_97 ml_X5_93 kmX5_refuse im_X5_refuse se_X5_refuse rfl ⟨by decide, rfl⟩ (c_X5_refuse0 _ g7) rfl rfl ⟨Nat.le_of_ble_eq_true rfl, Nat.le_of_ble_eq_true rfl⟩ (Nat.le_of_ble_eq_true rfl) ⟨Nat.le_of_ble_eq_true rfl, Nat.le_of_ble_eq_true rfl⟩ ?_
            refine R_return dX5_readRow_100 rfl ?_
            first
              | (refine QV_mk ⟨((hf.set rfl).set rfl).set rfl, by simp [setI]; exact g6, Or.inl ⟨by omega, ?_, by simp [setI], by simp [setI]; exact g4, by simp [setI]⟩⟩
                 have e2 : c = 2 := by omega
                 subst e2
                 omega)
              | (refine QV_mk ⟨hf, g6, Or.inr ⟨fun q => ?_, g7, by rw [ea2]; exact g2, g3, g4, by rw [ea2]; exact g5⟩⟩
                 have e2 := q.1
                 subst e2
                 omega)
      · refine R_aload_n 35 rfl dX5_readRow_34 rfl ?_
        refine R_aload_n 36 rfl dX5_readRow_35 rfl ?_
        refine R_getI 5 39 rfl dX5_readRow_36 rfl rfl fl_X5_131 ?_
        refine R_bipush 41 rfl dX5_readRow_39 (by decide) ?_
        refine R_imul 42 rfl dX5_readRow_41 ?_
        refine R_aload_n 43 rfl dX5_readRow_42 rfl ?_
        refine R_getP 0 46 rfl dX5_readRow_43 rfl rfl fl_X5_9 hb1.2.2.2.1 ?_
        refine R_getP 0 49 rfl dX5_readRow_46 rfl rfl fl_X5_153 (hP _ _ _ rfl) ?_
        refine R_aload_n 50 rfl dX5_readRow_49 rfl ?_
        refine R_getI 2 53 rfl dX5_readRow_50 rfl rfl fl_X5_24 ?_
        refine R_bald a 54 rfl dX5_readRow_53 rfl (by first | rfl | omega) (by omega) (by decide) ?_
        refine R_bipush 56 rfl dX5_readRow_54 (by decide) ?_
        refine R_isub 57 rfl dX5_readRow_56 ?_
        refine R_iadd 58 rfl dX5_readRow_57 ?_
        refine R_putI 5 61 rfl dX5_readRow_58 rfl rfl fl_X5_131 ?_
        refine R_aload_n 62 rfl dX5_readRow_61 rfl ?_
        refine R_dup 63 rfl dX5_readRow_62 rfl ?_
        refine R_getI 2 66 rfl dX5_readRow_63 rfl rfl fl_X5_24 ?_
        refine R_iconst 67 rfl dX5_readRow_66 ?_
        refine R_iadd 68 rfl dX5_readRow_67 ?_
        refine R_putI 2 71 rfl dX5_readRow_68 rfl rfl fl_X5_24 ?_
        refine R_goto 5 rfl dX5_readRow_71 ?_
        have es : srA T a = c := by omega
        have ey := rE_y (T := T) (c := c) (a := a) (by omega) es
        refine ih (by omega) (by omega) _ ((hf.set rfl).set rfl) (by simp [setI]; omega) (by simp [setI]; exact g3) (by simp [setI]; exact g4) (by simp [setI]; exact g7) (by simp [setI]; exact g6) (fun q => ?_) (by rw [← ey]; exact he)
        have sd : 48 ≤ T.2 a ∧ T.2 a ≤ 57 := by
          have : srt5 (T.2 a) = 2 := by omega
          unfold srt5 at this
          split at this
          · omega
          · split at this
            · assumption
            · split at this
              · omega
              · split at this <;> omega
        have bb : m1.1 2 a = T.2 a := by omega
        have nn : nv T p (a + 1 - p) = nv T p (a - p) * 10 + (T.2 (p + (a - p)) - 48) := by rw [show a + 1 - p = (a - p) + 1 by omega]; rfl
        rw [show p + (a - p) = a by omega, ← g5 q, ← bb] at nn
        simp only [setI]
        rw [if_neg (by omega), if_pos ⟨trivial, trivial⟩]
        omega
  refine R_aload_n 1 rfl dX5_readRow_0 rfl ?_
  refine R_iconst 2 rfl dX5_readRow_1 ?_
  refine R_putI 5 5 rfl dX5_readRow_2 rfl rfl fl_X5_131 ?_
  exact Lp p (by omega) (Nat.le_refl _) _ (Fr.rf.set rfl) (by simp [setI]; exact h2) (by simp [setI]; exact h3) (by simp [setI]; exact h4) (by simp [setI]; exact h7) (by simp [setI]) (fun _ => by simp [setI, nv]) rfl
end
