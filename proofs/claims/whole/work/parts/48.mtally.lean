def scM (m : Mem) (c : Nat) (p f t s r : Int) : Mem := setI (setI (setI (setI (setI (setI m 107 (640 + 5 * c) p) 107 (640 + 5 * c + 1) f) 107 (640 + 5 * c + 2) t) 107 (640 + 5 * c + 3) s) 107 (640 + 5 * c + 4) r) 96 20 1
/-- kinds laid, choices awake -/
def RW (L : Ld) (B : Bk) (ch : Cs) (m : Mem) : Prop := RS L B ch m ∧ m.1 96 20 = 1
def RZ (L : Ld) (B : Bk) (ch : Cs) (m : Mem) : Prop := RS L B ch m ∧ m.1 96 20 = 1 ∧ RK L B m
def tyP (B : Bk) (ch : Cs) (c : Nat) (gr g : Int) (k : Nat) : Bool := inC B ch c k && (decide (gr = -4) || decide (grp B k gr = g))
def tyQ (L : Ld) (B : Bk) (ch : Cs) (c : Nat) (gr g : Int) (k : Nat) : Bool := tyP B ch c gr g k && abl L B k
section
variable {Γ : GX} {m m' : Mem} {B B' : Bk} {L : Ld} {ch ch' : Cs}
theorem RW.rc (h : RW L B ch m) : RC 0 m ch := by
  rcases h.1.2.2.2.2.2.1 with h1 | h1
  · exact h1.2
  · have := h1.1.symm.trans h.2; exact absurd this (by decide)
theorem RZ.w (h : RZ L B ch m) : RW L B ch m := ⟨h.1, h.2.1⟩
theorem RZ.f96 {z : Int} {k : Nat} (h : RZ L B ch m) (hk : 21 ≤ k ∧ k < 30) : RZ L B ch (setI m 96 k z) := ⟨h.1.f96 hk, by simp only [setI]; rw [if_neg (by omega)]; exact h.2.1, fun j hj => by simp only [setI]; rw [if_neg (by omega)]; exact h.2.2 j hj⟩
theorem c_X11_nameKind (z s : Int) (k : Nat) (hR : RS L B ch m) (hz : z = ((k / 2 : Nat) : Int)) (hs : s = ((k % 2 : Nat) : Int)) (hk : k < 2 * B.1) : C Γ mX11_nameKind 4 160 0 0 [vr 96, vi z, vi s] SH m (Qi SH m (nkd L B k)) := by
  refine C_of_R rfl (Nat.le_of_ble_eq_true rfl) ?_
  have h6 := wr_rg (L := L) (B := B) k
  have h1 := hR.2.2.1.1
  refine R_aload_n 1 rfl dX11_nameKind_0 rfl ?_
  refine R_iload_n 2 rfl dX11_nameKind_1 rfl ?_
  refine R_iload_n 3 rfl dX11_nameKind_2 rfl ?_
  refine R_callV_i (M' := mX11_writerOf) 6 rfl dX11_nameKind_3 ml_X11_164 kmX11_writerOf im_X11_writerOf se_X11_writerOf rfl ⟨by decide, rfl⟩ (c_X11_writerOf _ _ k hR (by omega) (by omega) (by omega)) rfl rfl ⟨Nat.le_of_ble_eq_true rfl, Nat.le_of_ble_eq_true rfl⟩ (Nat.le_of_ble_eq_true rfl) ⟨Nat.le_of_ble_eq_true rfl, Nat.le_of_ble_eq_true rfl⟩ ?_
  refine R_bipush 8 rfl dX11_nameKind_6 (by decide) ?_
  refine R_icmp_eq 11 15 rfl rfl dX11_nameKind_8 (by first | assumption | exact ⟨by omega, by omega⟩) (by first | assumption | exact ⟨by omega, by omega⟩) (fun h8 => ?_) (fun h8 => ?_)
  · refine R_aload_n 16 rfl dX11_nameKind_15 rfl ?_
    refine R_iload_n 17 rfl dX11_nameKind_16 rfl ?_
    refine R_iload_n 18 rfl dX11_nameKind_17 rfl ?_
    refine R_callV_i (M' := mX11_isDrawn) 21 rfl dX11_nameKind_18 ml_X11_210 kmX11_isDrawn im_X11_isDrawn se_X11_isDrawn rfl ⟨by decide, rfl⟩ (c_X11_isDrawn _ _ k hR (by omega) (by omega) (by omega)) rfl rfl ⟨Nat.le_of_ble_eq_true rfl, Nat.le_of_ble_eq_true rfl⟩ (Nat.le_of_ble_eq_true rfl) ⟨Nat.le_of_ble_eq_true rfl, Nat.le_of_ble_eq_true rfl⟩ ?_
    refine R_ifp_eq 24 28 rfl rfl dX11_nameKind_21 (fun h21 => ?_) (fun h21 => ?_)
    · refine R_iconst 29 rfl dX11_nameKind_28 ?_
      refine R_ireturn dX11_nameKind_29 rfl ?_
      exact Qi_mk (by unfold nkd; first | rw [if_neg (by omega)] | rw [if_pos (by omega), if_pos h21] | rw [if_pos (by omega), if_neg h21])
    · refine R_iconst 25 rfl dX11_nameKind_24 ?_
      refine R_goto 29 rfl dX11_nameKind_25 ?_
      refine R_ireturn dX11_nameKind_29 rfl ?_
      exact Qi_mk (by unfold nkd; first | rw [if_neg (by omega)] | rw [if_pos (by omega), if_pos h21] | rw [if_pos (by omega), if_neg h21])
  · refine R_iconst 12 rfl dX11_nameKind_11 ?_
    refine R_goto 29 rfl dX11_nameKind_12 ?_
    refine R_ireturn dX11_nameKind_29 rfl ?_
    exact Qi_mk (by unfold nkd; first | rw [if_neg (by omega)] | rw [if_pos (by omega), if_pos h21] | rw [if_pos (by omega), if_neg h21])
theorem c_X11_kindOf (z s : Int) (k : Nat) (hR : RS L B ch m) (hz : z = ((k / 2 : Nat) : Int)) (hs : s = ((k % 2 : Nat) : Int)) (hk : k < 2 * B.1) : C Γ mX11_kindOf 5 200 0 0 [vr 96, vi z, vi s] SH m (Qi SH m (kd L B k)) := by
  refine C_of_R rfl (Nat.le_of_ble_eq_true rfl) ?_
  have hO := hR.2.2.2.2.1
  have h3 := hO.1
  have h5 := hO.2.2 k hk
  have h4 := hO.2.1 (k / 2) (by omega)
  have Lp : B.2.2 0 k ≠ 1 → ∀ j : Nat, j ≤ 2 * B.1 → ∀ p jz x, p = B.2.2 3 k → (p ≠ 0 → ∀ i, i < j → ¬ (B.2.2 3 i = B.2.2 3 k ∧ B.2.2 0 i = 1 ∧ B.2.1 1 (i / 2) < B.2.1 1 (k / 2) ∧ nkd L B i = 3)) → jz = (j : Int) → R Γ mX11_kindOf { frames := 5, cells := 0, slots := 0, locals := 200 } 0 0 (Qi SH m (kd L B k)) 0 0 29 [some (vr 96), some (vi z), some (vi s), some (vi p), some (vi jz), x] [] SH m := by
    intro hm
    refine up_ind (2 * B.1) (fun j hj ih p jz x hp hn hjz => ?_)
    refine R_iload 31 rfl dX11_kindOf_29 rfl ?_
    refine R_iconst 32 rfl dX11_kindOf_31 ?_
    refine R_aload_n 33 rfl dX11_kindOf_32 rfl ?_
    refine R_callV_i (M' := mX11_size) 36 rfl dX11_kindOf_33 ml_X11_150 kmX11_size im_X11_size se_X11_size rfl ⟨by decide, rfl⟩ (c_X11_size hR) rfl rfl ⟨Nat.le_of_ble_eq_true rfl, Nat.le_of_ble_eq_true rfl⟩ (Nat.le_of_ble_eq_true rfl) ⟨Nat.le_of_ble_eq_true rfl, Nat.le_of_ble_eq_true rfl⟩ ?_
    refine R_imul 37 rfl dX11_kindOf_36 ?_
    refine R_icmp_ge 40 132 rfl rfl dX11_kindOf_37 (by first | assumption | exact ⟨by omega, by omega⟩) (by first | assumption | exact ⟨by omega, by omega⟩) (fun h37 => ?_) (fun h37 => ?_)
    · refine R_iconst 133 rfl dX11_kindOf_132 ?_
      refine R_ireturn dX11_kindOf_133 rfl ?_
      refine Qi_mk ?_
      unfold kd
      rw [if_neg hm, if_neg]
      intro q
      obtain ⟨q1, i, q2, q3⟩ := before_iff.mp q
      exact hn (by omega) i (by omega) q3
    · refine R_iload_n 41 rfl dX11_kindOf_40 rfl ?_
      refine R_if_le 44 132 rfl rfl dX11_kindOf_41 (by first | assumption | exact ⟨by omega, by omega⟩) (fun h41 => ?_) (fun h41 => ?_)
      · refine R_iconst 133 rfl dX11_kindOf_132 ?_
        refine R_ireturn dX11_kindOf_133 rfl ?_
        refine Qi_mk ?_
        unfold kd
        rw [if_neg hm, if_neg]
        intro q
        obtain ⟨q1, i, q2, q3⟩ := before_iff.mp q
        exact hn (by omega) i (by omega) q3
      · have g5 := hO.2.2 j (by omega)
        have g4 := hO.2.1 (j / 2) (by omega)
        have g6 := nkd_rg L B j
        refine R_aload_n 45 rfl dX11_kindOf_44 rfl ?_
        refine R_iload 47 rfl dX11_kindOf_45 rfl ?_
        refine R_iconst 48 rfl dX11_kindOf_47 ?_
        refine R_idiv_p 49 rfl dX11_kindOf_48 (by first | assumption | exact ⟨by omega, by omega⟩) (by first | assumption | exact ⟨by omega, by omega⟩) (by omega) (by omega) ?_
        refine R_iload 51 rfl dX11_kindOf_49 rfl ?_
        refine R_iconst 52 rfl dX11_kindOf_51 ?_
        refine R_irem_p 53 rfl dX11_kindOf_52 (by first | assumption | exact ⟨by omega, by omega⟩) (by first | assumption | exact ⟨by omega, by omega⟩) (by omega) (by omega) ?_
        refine R_iconst 54 rfl dX11_kindOf_53 ?_
        refine R_callV_i (M' := mX11_of5) 57 rfl dX11_kindOf_54 ml_X11_198 kmX11_of5 im_X11_of5 se_X11_of5 rfl ⟨by decide, rfl⟩ (c_X11_of5 _ _ _ j 3 hR (by omega) (by omega) (by omega) (by omega) (by omega)) rfl rfl ⟨Nat.le_of_ble_eq_true rfl, Nat.le_of_ble_eq_true rfl⟩ (Nat.le_of_ble_eq_true rfl) ⟨Nat.le_of_ble_eq_true rfl, Nat.le_of_ble_eq_true rfl⟩ ?_
        refine R_iload_n 58 rfl dX11_kindOf_57 rfl ?_
        refine R_icmp_ne 61 100 rfl rfl dX11_kindOf_58 (by first | assumption | exact ⟨by omega, by omega⟩) (by first | assumption | exact ⟨by omega, by omega⟩) (fun h58 => ?_) (fun h58 => ?_)
        · refine R_iconst 101 rfl dX11_kindOf_100 ?_
          refine R_istore [_, _, _, _, _, _] 103 rfl dX11_kindOf_101 rfl (by decide) ?_
          refine R_iload 105 rfl dX11_kindOf_103 rfl ?_
          refine R_if_eq 108 126 rfl rfl dX11_kindOf_105 (by first | assumption | exact ⟨by omega, by omega⟩) (fun h105 => ?_) (fun h105 => ?_)
          rotate_left
          · exact absurd h105 (by omega)
          refine R_iinc [_, _, _, _, _, _] 129 rfl dX11_kindOf_126 rfl rfl (by decide) ?_
          refine R_goto 29 rfl dX11_kindOf_129 ?_
          refine ih (by omega) _ _ _ hp (fun q i hi => ?_) (by omega)
          by_cases e : i = j
          · subst e; omega
          · exact hn q i (by omega)
        · refine R_aload_n 62 rfl dX11_kindOf_61 rfl ?_
          refine R_iload 64 rfl dX11_kindOf_62 rfl ?_
          refine R_iconst 65 rfl dX11_kindOf_64 ?_
          refine R_idiv_p 66 rfl dX11_kindOf_65 (by first | assumption | exact ⟨by omega, by omega⟩) (by first | assumption | exact ⟨by omega, by omega⟩) (by omega) (by omega) ?_
          refine R_iload 68 rfl dX11_kindOf_66 rfl ?_
          refine R_iconst 69 rfl dX11_kindOf_68 ?_
          refine R_irem_p 70 rfl dX11_kindOf_69 (by first | assumption | exact ⟨by omega, by omega⟩) (by first | assumption | exact ⟨by omega, by omega⟩) (by omega) (by omega) ?_
          refine R_iconst 71 rfl dX11_kindOf_70 ?_
          refine R_callV_i (M' := mX11_of5) 74 rfl dX11_kindOf_71 ml_X11_198 kmX11_of5 im_X11_of5 se_X11_of5 rfl ⟨by decide, rfl⟩ (c_X11_of5 _ _ _ j 0 hR (by omega) (by omega) (by omega) (by omega) (by omega)) rfl rfl ⟨Nat.le_of_ble_eq_true rfl, Nat.le_of_ble_eq_true rfl⟩ (Nat.le_of_ble_eq_true rfl) ⟨Nat.le_of_ble_eq_true rfl, Nat.le_of_ble_eq_true rfl⟩ ?_
          refine R_iconst 75 rfl dX11_kindOf_74 ?_
          refine R_icmp_ne 78 100 rfl rfl dX11_kindOf_75 (by first | assumption | exact ⟨by omega, by omega⟩) (by first | assumption | exact ⟨by omega, by omega⟩) (fun h75 => ?_) (fun h75 => ?_)
          · refine R_iconst 101 rfl dX11_kindOf_100 ?_
            refine R_istore [_, _, _, _, _, _] 103 rfl dX11_kindOf_101 rfl (by decide) ?_
            refine R_iload 105 rfl dX11_kindOf_103 rfl ?_
            refine R_if_eq 108 126 rfl rfl dX11_kindOf_105 (by first | assumption | exact ⟨by omega, by omega⟩) (fun h105 => ?_) (fun h105 => ?_)
            rotate_left
            · exact absurd h105 (by omega)
            refine R_iinc [_, _, _, _, _, _] 129 rfl dX11_kindOf_126 rfl rfl (by decide) ?_
            refine R_goto 29 rfl dX11_kindOf_129 ?_
            refine ih (by omega) _ _ _ hp (fun q i hi => ?_) (by omega)
            by_cases e : i = j
            · subst e; omega
            · exact hn q i (by omega)
          · refine R_aload_n 79 rfl dX11_kindOf_78 rfl ?_
            refine R_iload 81 rfl dX11_kindOf_79 rfl ?_
            refine R_iconst 82 rfl dX11_kindOf_81 ?_
            refine R_idiv_p 83 rfl dX11_kindOf_82 (by first | assumption | exact ⟨by omega, by omega⟩) (by first | assumption | exact ⟨by omega, by omega⟩) (by omega) (by omega) ?_
            refine R_iconst 84 rfl dX11_kindOf_83 ?_
            refine R_callV_i (M' := mX11_its) 87 rfl dX11_kindOf_84 ml_X11_153 kmX11_its im_X11_its se_X11_its rfl ⟨by decide, rfl⟩ (c_X11_its _ _ (j / 2) 1 hR (by omega) (by omega) (by omega) (by omega)) rfl rfl ⟨Nat.le_of_ble_eq_true rfl, Nat.le_of_ble_eq_true rfl⟩ (Nat.le_of_ble_eq_true rfl) ⟨Nat.le_of_ble_eq_true rfl, Nat.le_of_ble_eq_true rfl⟩ ?_
            refine R_aload_n 88 rfl dX11_kindOf_87 rfl ?_
            refine R_iload_n 89 rfl dX11_kindOf_88 rfl ?_
            refine R_iconst 90 rfl dX11_kindOf_89 ?_
            refine R_callV_i (M' := mX11_its) 93 rfl dX11_kindOf_90 ml_X11_153 kmX11_its im_X11_its se_X11_its rfl ⟨by decide, rfl⟩ (c_X11_its _ _ (k / 2) 1 hR (by omega) (by omega) (by omega) (by omega)) rfl rfl ⟨Nat.le_of_ble_eq_true rfl, Nat.le_of_ble_eq_true rfl⟩ (Nat.le_of_ble_eq_true rfl) ⟨Nat.le_of_ble_eq_true rfl, Nat.le_of_ble_eq_true rfl⟩ ?_
            refine R_icmp_ge 96 100 rfl rfl dX11_kindOf_93 (by first | assumption | exact ⟨by omega, by omega⟩) (by first | assumption | exact ⟨by omega, by omega⟩) (fun h93 => ?_) (fun h93 => ?_)
            · refine R_iconst 101 rfl dX11_kindOf_100 ?_
              refine R_istore [_, _, _, _, _, _] 103 rfl dX11_kindOf_101 rfl (by decide) ?_
              refine R_iload 105 rfl dX11_kindOf_103 rfl ?_
              refine R_if_eq 108 126 rfl rfl dX11_kindOf_105 (by first | assumption | exact ⟨by omega, by omega⟩) (fun h105 => ?_) (fun h105 => ?_)
              rotate_left
              · exact absurd h105 (by omega)
              refine R_iinc [_, _, _, _, _, _] 129 rfl dX11_kindOf_126 rfl rfl (by decide) ?_
              refine R_goto 29 rfl dX11_kindOf_129 ?_
              refine ih (by omega) _ _ _ hp (fun q i hi => ?_) (by omega)
              by_cases e : i = j
              · subst e; omega
              · exact hn q i (by omega)
            · refine R_iconst 97 rfl dX11_kindOf_96 ?_
              refine R_goto 101 rfl dX11_kindOf_97 ?_
              refine R_istore [_, _, _, _, _, _] 103 rfl dX11_kindOf_101 rfl (by decide) ?_
              refine R_iload 105 rfl dX11_kindOf_103 rfl ?_
              refine R_if_eq 108 126 rfl rfl dX11_kindOf_105 (by first | assumption | exact ⟨by omega, by omega⟩) (fun h105 => ?_) (fun h105 => ?_)
              · exact absurd h105 (by omega)
              refine R_aload_n 109 rfl dX11_kindOf_108 rfl ?_
              refine R_iload 111 rfl dX11_kindOf_109 rfl ?_
              refine R_iconst 112 rfl dX11_kindOf_111 ?_
              refine R_idiv_p 113 rfl dX11_kindOf_112 (by first | assumption | exact ⟨by omega, by omega⟩) (by first | assumption | exact ⟨by omega, by omega⟩) (by omega) (by omega) ?_
              refine R_iload 115 rfl dX11_kindOf_113 rfl ?_
              refine R_iconst 116 rfl dX11_kindOf_115 ?_
              refine R_irem_p 117 rfl dX11_kindOf_116 (by first | assumption | exact ⟨by omega, by omega⟩) (by first | assumption | exact ⟨by omega, by omega⟩) (by omega) (by omega) ?_
              refine R_callV_i (M' := mX11_nameKind) 120 rfl dX11_kindOf_117 ml_X11_213 kmX11_nameKind im_X11_nameKind se_X11_nameKind rfl ⟨by decide, rfl⟩ (c_X11_nameKind _ _ j hR (by omega) (by omega) (by omega)) rfl rfl ⟨Nat.le_of_ble_eq_true rfl, Nat.le_of_ble_eq_true rfl⟩ (Nat.le_of_ble_eq_true rfl) ⟨Nat.le_of_ble_eq_true rfl, Nat.le_of_ble_eq_true rfl⟩ ?_
              refine R_iconst 121 rfl dX11_kindOf_120 ?_
              refine R_icmp_ne 124 126 rfl rfl dX11_kindOf_121 (by first | assumption | exact ⟨by omega, by omega⟩) (by first | assumption | exact ⟨by omega, by omega⟩) (fun h121 => ?_) (fun h121 => ?_)
              · refine R_iinc [_, _, _, _, _, _] 129 rfl dX11_kindOf_126 rfl rfl (by decide) ?_
                refine R_goto 29 rfl dX11_kindOf_129 ?_
                refine ih (by omega) _ _ _ hp (fun q i hi => ?_) (by omega)
                by_cases e : i = j
                · subst e; omega
                · exact hn q i (by omega)
              · refine R_iconst 125 rfl dX11_kindOf_124 ?_
                refine R_ireturn dX11_kindOf_125 rfl ?_
                exact Qi_mk (by unfold kd; rw [if_neg hm, if_pos (before_iff.mpr ⟨by omega, j, by omega, by omega⟩)])
  refine R_aload_n 1 rfl dX11_kindOf_0 rfl ?_
  refine R_iload_n 2 rfl dX11_kindOf_1 rfl ?_
  refine R_iload_n 3 rfl dX11_kindOf_2 rfl ?_
  refine R_iconst 4 rfl dX11_kindOf_3 ?_
  refine R_callV_i (M' := mX11_of5) 7 rfl dX11_kindOf_4 ml_X11_198 kmX11_of5 im_X11_of5 se_X11_of5 rfl ⟨by decide, rfl⟩ (c_X11_of5 _ _ _ k 0 hR (by omega) (by omega) (by omega) (by omega) (by omega)) rfl rfl ⟨Nat.le_of_ble_eq_true rfl, Nat.le_of_ble_eq_true rfl⟩ (Nat.le_of_ble_eq_true rfl) ⟨Nat.le_of_ble_eq_true rfl, Nat.le_of_ble_eq_true rfl⟩ ?_
  refine R_iconst 8 rfl dX11_kindOf_7 ?_
  refine R_icmp_ne 11 18 rfl rfl dX11_kindOf_8 (by first | assumption | exact ⟨by omega, by omega⟩) (by first | assumption | exact ⟨by omega, by omega⟩) (fun h8 => ?_) (fun h8 => ?_)
  · refine R_aload_n 19 rfl dX11_kindOf_18 rfl ?_
    refine R_iload_n 20 rfl dX11_kindOf_19 rfl ?_
    refine R_iload_n 21 rfl dX11_kindOf_20 rfl ?_
    refine R_iconst 22 rfl dX11_kindOf_21 ?_
    refine R_callV_i (M' := mX11_of5) 25 rfl dX11_kindOf_22 ml_X11_198 kmX11_of5 im_X11_of5 se_X11_of5 rfl ⟨by decide, rfl⟩ (c_X11_of5 _ _ _ k 3 hR (by omega) (by omega) (by omega) (by omega) (by omega)) rfl rfl ⟨Nat.le_of_ble_eq_true rfl, Nat.le_of_ble_eq_true rfl⟩ (Nat.le_of_ble_eq_true rfl) ⟨Nat.le_of_ble_eq_true rfl, Nat.le_of_ble_eq_true rfl⟩ ?_
    refine R_istore_n [_, _, _, _, _, _] 26 rfl dX11_kindOf_25 rfl (by decide) ?_
    refine R_iconst 27 rfl dX11_kindOf_26 ?_
    refine R_istore [_, _, _, _, _, _] 29 rfl dX11_kindOf_27 rfl (by decide) ?_
    exact Lp (by omega) 0 (by omega) _ _ _ rfl (fun _ i hi => by omega) rfl
  · refine R_aload_n 12 rfl dX11_kindOf_11 rfl ?_
    refine R_iload_n 13 rfl dX11_kindOf_12 rfl ?_
    refine R_iload_n 14 rfl dX11_kindOf_13 rfl ?_
    refine R_callV_i (M' := mX11_nameKind) 17 rfl dX11_kindOf_14 ml_X11_213 kmX11_nameKind im_X11_nameKind se_X11_nameKind rfl ⟨by decide, rfl⟩ (c_X11_nameKind _ _ k hR (by omega) (by omega) (by omega)) rfl rfl ⟨Nat.le_of_ble_eq_true rfl, Nat.le_of_ble_eq_true rfl⟩ (Nat.le_of_ble_eq_true rfl) ⟨Nat.le_of_ble_eq_true rfl, Nat.le_of_ble_eq_true rfl⟩ ?_
    refine R_ireturn dX11_kindOf_17 rfl ?_
    exact Qi_mk (by unfold kd; rw [if_pos (by omega)])
theorem c_X11_setChoice (cz p f t s r : Int) (c : Nat) (hP : RP m) (hc : cz = (c : Int)) (hc2 : c < 2) : C Γ mX11_setChoice 0 0 0 0 [vr 96, vi cz, vi p, vi f, vi t, vi s, vi r] SH m (Qv SH (scM m c p f t s r)) := by
  refine C_of_R rfl (Nat.le_of_ble_eq_true rfl) ?_
  refine R_sipush 3 rfl dX11_setChoice_0 (by decide) ?_
  refine R_iconst 4 rfl dX11_setChoice_3 ?_
  refine R_iload_n 5 rfl dX11_setChoice_4 rfl ?_
  refine R_imul 6 rfl dX11_setChoice_5 ?_
  refine R_iadd 7 rfl dX11_setChoice_6 ?_
  refine R_istore [_, _, _, _, _, _, _, _] 9 rfl dX11_setChoice_7 rfl (by decide) ?_
  refine R_aload_n 10 rfl dX11_setChoice_9 rfl ?_
  refine R_getP 19 13 rfl dX11_setChoice_10 rfl rfl fl_X11_40 (hP _ _ _ rfl) ?_
  refine R_iload 15 rfl dX11_setChoice_13 rfl ?_
  refine R_iload_n 16 rfl dX11_setChoice_15 rfl ?_
  refine R_iast (640 + 5 * c) 17 rfl dX11_setChoice_16 rfl (by first | rfl | omega) (by omega) (by decide) ?_
  refine R_aload_n 18 rfl dX11_setChoice_17 rfl ?_
  refine R_getP 19 21 rfl dX11_setChoice_18 rfl rfl fl_X11_40 (hP _ _ _ rfl) ?_
  refine R_iload 23 rfl dX11_setChoice_21 rfl ?_
  refine R_iconst 24 rfl dX11_setChoice_23 ?_
  refine R_iadd 25 rfl dX11_setChoice_24 ?_
  refine R_iload_n 26 rfl dX11_setChoice_25 rfl ?_
  refine R_iast (640 + 5 * c + 1) 27 rfl dX11_setChoice_26 rfl (by first | rfl | omega) (by omega) (by decide) ?_
  refine R_aload_n 28 rfl dX11_setChoice_27 rfl ?_
  refine R_getP 19 31 rfl dX11_setChoice_28 rfl rfl fl_X11_40 (hP _ _ _ rfl) ?_
  refine R_iload 33 rfl dX11_setChoice_31 rfl ?_
  refine R_iconst 34 rfl dX11_setChoice_33 ?_
  refine R_iadd 35 rfl dX11_setChoice_34 ?_
  refine R_iload 37 rfl dX11_setChoice_35 rfl ?_
  refine R_iast (640 + 5 * c + 2) 38 rfl dX11_setChoice_37 rfl (by first | rfl | omega) (by omega) (by decide) ?_
  refine R_aload_n 39 rfl dX11_setChoice_38 rfl ?_
  refine R_getP 19 42 rfl dX11_setChoice_39 rfl rfl fl_X11_40 (hP _ _ _ rfl) ?_
  refine R_iload 44 rfl dX11_setChoice_42 rfl ?_
  refine R_iconst 45 rfl dX11_setChoice_44 ?_
  refine R_iadd 46 rfl dX11_setChoice_45 ?_
  refine R_iload 48 rfl dX11_setChoice_46 rfl ?_
  refine R_iast (640 + 5 * c + 3) 49 rfl dX11_setChoice_48 rfl (by first | rfl | omega) (by omega) (by decide) ?_
  refine R_aload_n 50 rfl dX11_setChoice_49 rfl ?_
  refine R_getP 19 53 rfl dX11_setChoice_50 rfl rfl fl_X11_40 (hP _ _ _ rfl) ?_
  refine R_iload 55 rfl dX11_setChoice_53 rfl ?_
  refine R_iconst 56 rfl dX11_setChoice_55 ?_
  refine R_iadd 57 rfl dX11_setChoice_56 ?_
  refine R_iload 59 rfl dX11_setChoice_57 rfl ?_
  refine R_iast (640 + 5 * c + 4) 60 rfl dX11_setChoice_59 rfl (by first | rfl | omega) (by omega) (by decide) ?_
  refine R_aload_n 61 rfl dX11_setChoice_60 rfl ?_
  refine R_iconst 62 rfl dX11_setChoice_61 ?_
  refine R_putZ 20 65 rfl dX11_setChoice_62 rfl rfl fl_X11_167 (by decide) ?_
  refine R_return dX11_setChoice_65 rfl ?_
  exact Qv_mk rfl
theorem scM_n {c a k : Nat} {p f t s r : Int} (h : (a ≠ 107 ∨ k < 640 + 5 * c ∨ 640 + 5 * c + 4 < k) ∧ (a ≠ 96 ∨ k ≠ 20)) : (scM m c p f t s r).1 a k = m.1 a k := by
  simp only [scM, setI]
  rw [if_neg (by omega), if_neg (by omega), if_neg (by omega), if_neg (by omega), if_neg (by omega), if_neg (by omega)]
theorem scM_y {c : Nat} {p f t s r : Int} : (scM m c p f t s r).1 96 20 = 1 ∧ (scM m c p f t s r).1 107 (640 + 5 * c) = p ∧ (scM m c p f t s r).1 107 (640 + 5 * c + 1) = f ∧ (scM m c p f t s r).1 107 (640 + 5 * c + 2) = t ∧ (scM m c p f t s r).1 107 (640 + 5 * c + 3) = s ∧ (scM m c p f t s r).1 107 (640 + 5 * c + 4) = r := by
  refine ⟨?_, ?_, ?_, ?_, ?_, ?_⟩ <;> simp [scM, setI]
theorem Fm.sc {c : Nat} {p f t s r : Int} (h : Fm m m') (hc : c < 2) : Fm m (scM m' c p f t s r) := ⟨fun a j q1 q2 q3 => by rw [scM_n ⟨by omega, by omega⟩]; exact h.1 a j q1 q2 q3, fun j q => by rw [scM_n ⟨by omega, by omega⟩]; exact h.2.1 j q, fun j q => by rw [scM_n ⟨by omega, by omega⟩]; exact h.2.2.1 j q, h.2.2.2⟩
theorem c_X11_awake (hR : RS L B ch m) : C Γ mX11_awake 1 40 0 0 [vr 96] SH m (QV SH (fun m' => Fm m m' ∧ RW L B ch m' ∧ (∀ k, m'.1 108 k = m.1 108 k))) := by
  refine C_of_R rfl (Nat.le_of_ble_eq_true rfl) ?_
  have hP := hR.1
  have h20 : m.1 96 20 = 0 ∨ m.1 96 20 = 1 := by rcases hR.2.2.2.2.2.1 with h | h <;> omega
  have key : m.1 96 20 = 0 → Fm m (scM (scM m 0 0 0 89 3 255) 1 0 0 89 3 255) ∧ RW L B ch (scM (scM m 0 0 0 89 3 255) 1 0 0 89 3 255) ∧ (∀ k, (scM (scM m 0 0 0 89 3 255) 1 0 0 89 3 255).1 108 k = m.1 108 k) := by
    intro h0
    have f := (Fm.rf (m := m)).sc (c := 0) (p := 0) (f := 0) (t := 89) (s := 3) (r := 255) (by omega)
    have f2 := f.sc (c := 1) (p := 0) (f := 0) (t := 89) (s := 3) (r := 255) (by omega)
    have y := scM_y (m := scM m 0 0 0 89 3 255) (c := 1) (p := 0) (f := 0) (t := 89) (s := 3) (r := 255)
    have y0 := scM_y (m := m) (c := 0) (p := 0) (f := 0) (t := 89) (s := 3) (r := 255)
    have hb : ∀ c, c < 2 → ∀ j, j < 5 → ch c j = ch0 c j := by
      rcases hR.2.2.2.2.2.1 with h | h
      · omega
      · exact h.2
    refine ⟨f2, ⟨hR.mono f2 (Or.inl ⟨y.1, fun c hc j hj => ?_⟩), y.1⟩, fun k => by rw [scM_n ⟨by omega, by omega⟩, scM_n ⟨by omega, by omega⟩]⟩
    rw [hb c hc j hj]
    rcases (show c = 0 ∨ c = 1 by omega) with rfl | rfl
    · rw [scM_n ⟨by omega, by omega⟩]
      rcases (show j = 0 ∨ j = 1 ∨ j = 2 ∨ j = 3 ∨ j = 4 by omega) with rfl | rfl | rfl | rfl | rfl
      · exact y0.2.1
      · exact y0.2.2.1
      · exact y0.2.2.2.1
      · exact y0.2.2.2.2.1
      · exact y0.2.2.2.2.2
    · rcases (show j = 0 ∨ j = 1 ∨ j = 2 ∨ j = 3 ∨ j = 4 by omega) with rfl | rfl | rfl | rfl | rfl
      · exact y.2.1
      · exact y.2.2.1
      · exact y.2.2.2.1
      · exact y.2.2.2.2.1
      · exact y.2.2.2.2.2
  refine R_aload_n 1 rfl dX11_awake_0 rfl ?_
  refine R_getI 20 4 rfl dX11_awake_1 rfl rfl fl_X11_167 ?_
  refine R_if_ne 7 33 rfl rfl dX11_awake_4 (by first | assumption | exact ⟨by omega, by omega⟩) (fun h4 => ?_) (fun h4 => ?_)
  · refine R_return dX11_awake_33 rfl ?_
    first | exact QV_mk (key (by omega)) | exact QV_mk ⟨Fm.rf, ⟨hR, by omega⟩, fun _ => rfl⟩
  · refine R_aload_n 8 rfl dX11_awake_7 rfl ?_
    refine R_iconst 9 rfl dX11_awake_8 ?_
    refine R_iconst 10 rfl dX11_awake_9 ?_
    refine R_iconst 11 rfl dX11_awake_10 ?_
    refine R_bipush 13 rfl dX11_awake_11 (by decide) ?_
    refine R_iconst 14 rfl dX11_awake_13 ?_
    refine R_sipush 17 rfl dX11_awake_14 (by decide) ?_
    refine R_callV_v (M' := mX11_setChoice) 20 rfl dX11_awake_17 ml_X11_138 kmX11_setChoice im_X11_setChoice se_X11_setChoice rfl ⟨by decide, rfl⟩ (c_X11_setChoice _ _ _ _ _ _ 0 hP rfl (by decide)) rfl rfl ⟨Nat.le_of_ble_eq_true rfl, Nat.le_of_ble_eq_true rfl⟩ (Nat.le_of_ble_eq_true rfl) ⟨Nat.le_of_ble_eq_true rfl, Nat.le_of_ble_eq_true rfl⟩ ?_
    refine R_aload_n 21 rfl dX11_awake_20 rfl ?_
    refine R_iconst 22 rfl dX11_awake_21 ?_
    refine R_iconst 23 rfl dX11_awake_22 ?_
    refine R_iconst 24 rfl dX11_awake_23 ?_
    refine R_bipush 26 rfl dX11_awake_24 (by decide) ?_
    refine R_iconst 27 rfl dX11_awake_26 ?_
    refine R_sipush 30 rfl dX11_awake_27 (by decide) ?_
    refine R_callV_v (M' := mX11_setChoice) 33 rfl dX11_awake_30 ml_X11_138 kmX11_setChoice im_X11_setChoice se_X11_setChoice rfl ⟨by decide, rfl⟩ (c_X11_setChoice _ _ _ _ _ _ 1 hP rfl (by decide)) rfl rfl ⟨Nat.le_of_ble_eq_true rfl, Nat.le_of_ble_eq_true rfl⟩ (Nat.le_of_ble_eq_true rfl) ⟨Nat.le_of_ble_eq_true rfl, Nat.le_of_ble_eq_true rfl⟩ ?_
    refine R_return dX11_awake_33 rfl ?_
    first | exact QV_mk (key (by omega)) | exact QV_mk ⟨Fm.rf, ⟨hR, by omega⟩, fun _ => rfl⟩
theorem c_X11_layKinds (hR : RS L B ch m) : C Γ mX11_layKinds 6 240 0 0 [vr 96] SH m (QV SH (fun m' => Fm m m' ∧ RZ L B ch m')) := by
  refine C_of_R rfl (Nat.le_of_ble_eq_true rfl) ?_
  have h3 := hR.2.2.2.2.1.1
  have Lp : ∀ j : Nat, j ≤ 2 * B.1 → ∀ jz m1, jz = (j : Int) → Fm m m1 → RS L B ch m1 → m1.1 96 20 = 1 → (∀ i, i < j → m1.1 108 i = kd L B i) → R Γ mX11_layKinds { frames := 6, cells := 0, slots := 0, locals := 240 } 0 0 (QV SH (fun m' => Fm m m' ∧ RZ L B ch m')) 0 0 6 [some (vr 96), some (vi jz)] [] SH m1 := by
    refine up_ind (2 * B.1) (fun j hj ih jz m1 hjz hf hR1 h20 hk => ?_)
    have hP := hR1.1
    refine R_iload_n 7 rfl dX11_layKinds_6 rfl ?_
    refine R_iconst 8 rfl dX11_layKinds_7 ?_
    refine R_aload_n 9 rfl dX11_layKinds_8 rfl ?_
    refine R_callV_i (M' := mX11_size) 12 rfl dX11_layKinds_9 ml_X11_150 kmX11_size im_X11_size se_X11_size rfl ⟨by decide, rfl⟩ (c_X11_size hR1) rfl rfl ⟨Nat.le_of_ble_eq_true rfl, Nat.le_of_ble_eq_true rfl⟩ (Nat.le_of_ble_eq_true rfl) ⟨Nat.le_of_ble_eq_true rfl, Nat.le_of_ble_eq_true rfl⟩ ?_
    refine R_imul 13 rfl dX11_layKinds_12 ?_
    refine R_icmp_ge 16 38 rfl rfl dX11_layKinds_13 (by first | assumption | exact ⟨by omega, by omega⟩) (by first | assumption | exact ⟨by omega, by omega⟩) (fun h13 => ?_) (fun h13 => ?_)
    · refine R_return dX11_layKinds_38 rfl ?_
      exact QV_mk ⟨hf, hR1, h20, fun i hi => hk i (by omega)⟩
    · refine R_aload_n 17 rfl dX11_layKinds_16 rfl ?_
      refine R_getP 21 20 rfl dX11_layKinds_17 rfl rfl fl_X11_43 (hP _ _ _ rfl) ?_
      refine R_iload_n 21 rfl dX11_layKinds_20 rfl ?_
      refine R_aload_n 22 rfl dX11_layKinds_21 rfl ?_
      refine R_iload_n 23 rfl dX11_layKinds_22 rfl ?_
      refine R_iconst 24 rfl dX11_layKinds_23 ?_
      refine R_idiv_p 25 rfl dX11_layKinds_24 (by first | assumption | exact ⟨by omega, by omega⟩) (by first | assumption | exact ⟨by omega, by omega⟩) (by omega) (by omega) ?_
      refine R_iload_n 26 rfl dX11_layKinds_25 rfl ?_
      refine R_iconst 27 rfl dX11_layKinds_26 ?_
      refine R_irem_p 28 rfl dX11_layKinds_27 (by first | assumption | exact ⟨by omega, by omega⟩) (by first | assumption | exact ⟨by omega, by omega⟩) (by omega) (by omega) ?_
      refine R_callV_i (M' := mX11_kindOf) 31 rfl dX11_layKinds_28 ml_X11_216 kmX11_kindOf im_X11_kindOf se_X11_kindOf rfl ⟨by decide, rfl⟩ (c_X11_kindOf _ _ j hR1 (by omega) (by omega) (by omega)) rfl rfl ⟨Nat.le_of_ble_eq_true rfl, Nat.le_of_ble_eq_true rfl⟩ (Nat.le_of_ble_eq_true rfl) ⟨Nat.le_of_ble_eq_true rfl, Nat.le_of_ble_eq_true rfl⟩ ?_
      refine R_iast j 32 rfl dX11_layKinds_31 rfl (by first | rfl | omega) (by omega) (by decide) ?_
      refine R_iinc [_, _] 35 rfl dX11_layKinds_32 rfl rfl (by decide) ?_
      refine R_goto 6 rfl dX11_layKinds_35 ?_
      refine ih (by omega) _ _ (by omega) hf.f108 hR1.f108 (by simp only [setI]; rw [if_neg (by omega)]; exact h20) (fun i hi => ?_)
      simp only [setI]
      by_cases e : i = j
      · subst e; rw [if_pos ⟨trivial, rfl⟩]
      · rw [if_neg (by omega)]; exact hk i (by omega)
  refine R_aload_n 1 rfl dX11_layKinds_0 rfl ?_
  refine R_callV_V (M' := mX11_awake) 4 rfl dX11_layKinds_1 ml_X11_219 kmX11_awake im_X11_awake se_X11_awake rfl ⟨by decide, rfl⟩ (c_X11_awake hR) rfl rfl ⟨Nat.le_of_ble_eq_true rfl, Nat.le_of_ble_eq_true rfl⟩ (Nat.le_of_ble_eq_true rfl) ⟨Nat.le_of_ble_eq_true rfl, Nat.le_of_ble_eq_true rfl⟩ ?_
  rintro m1 h1
  obtain ⟨f1, r1, -⟩ := h1
  refine R_iconst 5 rfl dX11_layKinds_4 ?_
  refine R_istore_n [_, _] 6 rfl dX11_layKinds_5 rfl (by decide) ?_
  exact Lp 0 (by omega) _ _ rfl f1 r1.1 r1.2 (fun i hi => by omega)
end
