theorem iz_cg {a b : Int} (h : a % 4294967296 = b % 4294967296) : iz a = iz b := by
  apply iz_ext
  rw [iz_bv]
  omega
section
variable {Γ : GX} {M : MD} {rm : Room} {mc ms : Nat} {Q : Option AV → Shp → Mem → Prop} {k n pc : Nat} {loc : List (Option AV)} {st : List AV} {S : Shp} {m : Mem}
theorem R_topW {a b : Int} (h : iz a = iz b) (kk : R Γ M rm mc ms Q k n pc loc (vi b :: st) S m) : R Γ M rm mc ms Q k n pc loc (vi a :: st) S m := by
  intro p e s mi args below meth c H locs ls hc hZ hS hH hl
  have := kk p e s mi args below meth c H locs ls hc hZ hS hH hl
  show W p Γ.1 e rm s mi args below meth c H locs k n _ (F0 mi pc ls (Value.int (iz a) :: st.map (tr Γ)))
  rw [h]
  exact this
end
theorem bm_24 (v : Int) : (v * 2 ^ 24) % 4294967296 = (v.bmod 256 * 2 ^ 24) % 4294967296 := by
  have h : ∃ q, v = v.bmod 256 + 256 * q := ⟨(v - v.bmod 256) / 256, by
    have h1 : (v - v.bmod 256) % 256 = 0 := by
      have := Int.bmod_emod (x := v) (m := 256)
      omega
    omega⟩
  obtain ⟨q, hq⟩ := h
  generalize v.bmod 256 = b at hq
  subst hq
  omega
theorem bm_16 (v : Int) : (v * 2 ^ 16) % 4294967296 = (v.bmod 65536 * 2 ^ 16) % 4294967296 := by
  have h : ∃ q, v = v.bmod 65536 + 65536 * q := ⟨(v - v.bmod 65536) / 65536, by
    have h1 : (v - v.bmod 65536) % 65536 = 0 := by
      have := Int.bmod_emod (x := v) (m := 65536)
      omega
    omega⟩
  obtain ⟨q, hq⟩ := h
  generalize v.bmod 65536 = b at hq
  subst hq
  omega
section
variable {Γ : GX} {m m' m'' : Mem} {B B' : Bk} {L : Ld} {ch ch' : Cs} {T : Tp} {F N : Int} {I : Nat → Im} {S : Nat → Sht}
theorem RS.h3 (h : RS L B ch m) (e : ∀ a k, a < 110 → (a ≠ 96 ∨ k ≠ 34) → m'.1 a k = m.1 a k) (e2 : m'.2 = m.2) : RS L B ch m' := by
  obtain ⟨h1, h2, h3, ⟨b1, b2, b3⟩, h5, h6, h7⟩ := h
  refine ⟨fun a k r q => by rw [e2]; exact h1 a k r q, h2.eq (fun a k q1 q2 => e a k (by omega) (by omega)), h3, ⟨by rw [e 107 _ (by omega) (by omega)]; exact b1, fun k hk w hw => by rw [e 107 _ (by omega) (by omega)]; exact b2 k hk w hw, fun k hk w hw => by rw [e 107 _ (by omega) (by omega)]; exact b3 k hk w hw⟩, h5, ?_, h7⟩
  rcases h6 with ⟨a, b⟩ | ⟨a, b⟩
  · exact Or.inl ⟨by rw [e 96 20 (by omega) (by omega)]; exact a, fun c hc j hj => by rw [e 107 _ (by omega) (by omega)]; exact b c hc j hj⟩
  · exact Or.inr ⟨by rw [e 96 20 (by omega) (by omega)]; exact a, b⟩
theorem RX.sh {kn : Nat} {s : Sht} (h : RX T F I S N m) (e : ∀ a k, (a < 110 ∨ ((a = 110 ∨ a = 111) ∧ k ≠ kn) ∨ (a = 112 ∧ (k < 60 * kn ∨ 60 * kn + 60 ≤ k))) → m'.1 a k = m.1 a k) (hs : RH kn m' s) (hO : ShOk s) : RX T F I (shSet S kn s) N m' := by
  obtain ⟨⟨o1, o2, o3, o4, o5⟩, ⟨h1, h1'⟩, h2, h3, h4, h5, k1, k2, k3⟩ := h
  refine ⟨⟨o1, o2, o3, fun k hk => ?_, o5⟩, ⟨by rw [e 96 1 (by omega)]; exact h1, fun k hk => by rw [e 97 k (by omega)]; exact h1' k hk⟩, by rw [e 96 2 (by omega)]; exact h2, fun k hk => ?_, fun k hk => ?_, by rw [e 96 34 (by omega)]; exact h5, fun j hj => by rw [e 100 j (by omega)]; exact k1 j hj, fun j hj => by rw [e 98 j (by omega)]; exact k2 j hj, fun j hj => by rw [e 99 j (by omega)]; exact k3 j hj⟩
  · simp only [shSet]
    by_cases q : k = kn
    · rw [if_pos q]; exact hO
    · rw [if_neg q]; exact o4 k hk
  · obtain ⟨a1, a2, a3⟩ := h3 k hk
    refine ⟨by rw [e 109 k (by omega)]; exact a1, fun w => ?_, by rw [e 107 _ (by omega)]; exact a3⟩
    obtain ⟨⟨b1, b2, b3⟩, b4⟩ := a2 w
    exact ⟨⟨by rw [e 107 _ (by omega)]; exact b1, fun j hj w hw => by rw [e 107 _ (by omega)]; exact b2 j hj w hw, fun j hj w hw => by rw [e 107 _ (by omega)]; exact b3 j hj w hw⟩, fun c hc j hj => by rw [e 107 _ (by omega)]; exact b4 c hc j hj⟩
  · simp only [shSet]
    by_cases q : k = kn
    · rw [if_pos q, q]; exact hs
    · rw [if_neg q]
      obtain ⟨a1, a2, a3⟩ := h4 k hk
      exact ⟨by rw [e 110 k (by omega)]; exact a1, fun w => by rw [e 111 k (by omega)]; exact a2 w, fun i hi => by rw [e 112 _ (by omega)]; exact a3 i hi⟩
theorem RX.tn {N' : Int} (h : RX T F I S N m) (hn : 0 ≤ N' ∧ N' ≤ 3) : RX T F I S N' (setI m 96 34 N') := by
  obtain ⟨⟨o1, o2, o3, o4, o5⟩, h1, h2, h3, h4, h5, h6⟩ := h
  have e : ∀ a k, (a ≠ 96 ∨ k ≠ 34) → (setI m 96 34 N').1 a k = m.1 a k := fun a k q => by simp only [setI]; rw [if_neg (by omega)]
  have h' : RX T F I S N m := ⟨⟨o1, o2, o3, o4, o5⟩, h1, h2, h3, h4, h5, h6⟩
  have h9 : RX T F I S N' (setI m 96 34 N') → True := fun _ => trivial
  refine ⟨⟨o1, o2, o3, o4, hn⟩, ⟨by rw [e 96 1 (by omega)]; exact h1.1, fun k hk => by rw [e 97 k (by omega)]; exact h1.2 k hk⟩, by rw [e 96 2 (by omega)]; exact h2, fun k hk => ?_, fun k hk => ?_, by simp [setI], fun j hj => by rw [e 100 j (by omega)]; exact h6.1 j hj, fun j hj => by rw [e 98 j (by omega)]; exact h6.2.1 j hj, fun j hj => by rw [e 99 j (by omega)]; exact h6.2.2 j hj⟩
  · obtain ⟨a1, a2, a3⟩ := h3 k hk
    refine ⟨by rw [e 109 k (by omega)]; exact a1, fun w => ?_, by rw [e 107 _ (by omega)]; exact a3⟩
    obtain ⟨⟨b1, b2, b3⟩, b4⟩ := a2 w
    exact ⟨⟨by rw [e 107 _ (by omega)]; exact b1, fun j hj w hw => by rw [e 107 _ (by omega)]; exact b2 j hj w hw, fun j hj w hw => by rw [e 107 _ (by omega)]; exact b3 j hj w hw⟩, fun c hc j hj => by rw [e 107 _ (by omega)]; exact b4 c hc j hj⟩
  · obtain ⟨a1, a2, a3⟩ := h4 k hk
    exact ⟨by rw [e 110 k (by omega)]; exact a1, fun w => by rw [e 111 k (by omega)]; exact a2 w, fun i hi => by rw [e 112 _ (by omega)]; exact a3 i hi⟩
theorem c_X11_sheet (k l n : Int) (hR : RS L B ch m) (hX : RX T F I S N m) (hk : rg k) (hl : rg l) (hn : rg n) : C Γ mX11_sheet 1 40 0 0 [vr 96, vi k, vi l, vi n] SH m (QR L B ch T F I (if shC4 k l n = true then shSet S k.toNat (n, l, fun _ => 0) else S) N m (a_sheet k l n)) := by
  refine C_of_R rfl (Nat.le_of_ble_eq_true rfl) ?_
  have hP := hR.1
  have no : ¬ ((0 ≤ k ∧ k ≤ 3) ∧ (0 ≤ l ∧ l ≤ 2) ∧ 0 ≤ n ∧ n ≤ 60) → ¬ shC4 k l n = true := fun h q => h (shC4_iff.mp q)
  have Lp : (0 ≤ k ∧ k ≤ 3) ∧ (0 ≤ l ∧ l ≤ 2) ∧ 0 ≤ n ∧ n ≤ 60 → ∀ i : Nat, i ≤ 60 → ∀ z m1, z = (i : Int) → m1.2 = m.2 → (∀ a j, (a < 110 ∨ ((a = 110 ∨ a = 111) ∧ j ≠ k.toNat) ∨ (a = 112 ∧ (j < 60 * k.toNat ∨ 60 * k.toNat + 60 ≤ j))) → m1.1 a j = m.1 a j) → m1.1 110 k.toNat = l → m1.1 111 k.toNat = n → (∀ j, j < i → m1.1 112 (60 * k.toNat + j) = 0) → R Γ mX11_sheet { frames := 1, cells := 0, slots := 0, locals := 40 } 0 0 (QR L B ch T F I (if shC4 k l n = true then shSet S k.toNat (n, l, fun _ => 0) else S) N m (a_sheet k l n)) 0 0 56 [some (vr 96), some (vi k), some (vi l), some (vi n), some (vi z)] [] SH m1 := by
    intro ho
    refine up_ind 60 (fun i hi ih z m1 hz e2 h0 h1 h2 h3 => ?_)
    have hP : RP m1 := fun a k r q => by rw [e2]; exact hR.1 a k r q
    refine R_iload 58 rfl dX11_sheet_56 rfl ?_
    refine R_bipush 60 rfl dX11_sheet_58 (by decide) ?_
    refine R_icmp_ge 63 82 rfl rfl dX11_sheet_60 (by first | assumption | exact ⟨by omega, by omega⟩) (by first | assumption | exact ⟨by omega, by omega⟩) (fun h60 => ?_) (fun h60 => ?_)
    · refine R_iconst 83 rfl dX11_sheet_82 ?_
      refine R_ireturn dX11_sheet_83 rfl ?_
      rw [if_pos (shC4_iff.mpr ho)]
      refine QI_mk ⟨by unfold a_sheet; rw [if_pos (by omega), if_neg (by omega)], ⟨fun a j q => h0 a j (by omega), e2⟩, hR.h3 (fun a j q _ => h0 a j (by omega)) e2, hX.sh h0 ⟨?_, fun _ => h2, fun j hj => h3 j (by omega)⟩ ⟨Or.inr (show 0 ≤ n ∧ n ≤ 60 ∧ 0 ≤ l ∧ l ≤ 2 by omega), fun i hi => rg_0⟩⟩
      rw [if_neg (show ¬ n < 0 by omega)]
      exact h1
    · refine R_aload_n 64 rfl dX11_sheet_63 rfl ?_
      refine R_getP 33 67 rfl dX11_sheet_64 rfl rfl fl_X11_56 (hP _ _ _ rfl) ?_
      refine R_bipush 69 rfl dX11_sheet_67 (by decide) ?_
      refine R_iload_n 70 rfl dX11_sheet_69 rfl ?_
      refine R_imul 71 rfl dX11_sheet_70 ?_
      refine R_iload 73 rfl dX11_sheet_71 rfl ?_
      refine R_iadd 74 rfl dX11_sheet_73 ?_
      refine R_iconst 75 rfl dX11_sheet_74 ?_
      refine R_iast (60 * k.toNat + i) 76 rfl dX11_sheet_75 rfl (by first | rfl | omega) (by omega) (by decide) ?_
      refine R_iinc [_, _, _, _, _] 79 rfl dX11_sheet_76 rfl rfl (by decide) ?_
      refine R_goto 56 rfl dX11_sheet_79 ?_
      refine ih (by omega) _ _ (by omega) e2 (fun a j q => ?_) (by simp only [setI]; rw [if_neg (by omega)]; exact h1) (by simp only [setI]; rw [if_neg (by omega)]; exact h2) (fun j hj => ?_)
      · simp only [setI]; rw [if_neg (by omega)]; exact h0 a j q
      · simp only [setI]
        by_cases e : j = i
        · subst e; rw [if_pos ⟨trivial, rfl⟩]
        · rw [if_neg (by omega)]; exact h3 j (by omega)
  refine R_iload_n 1 rfl dX11_sheet_0 rfl ?_
  refine R_i2l 2 rfl dX11_sheet_1 (by first | assumption | exact ⟨by omega, by omega⟩) ?_
  refine R_lconst 3 rfl dX11_sheet_2 ?_
  refine R_topL (b := 0) rfl ?_
  refine R_ldc2 (3) 6 rfl dX11_sheet_3 kl_X11_225 (by decide) ?_
  refine R_callS_i (M' := mX11_in) 9 rfl dX11_sheet_6 ml_X11_63 kmX11_in st_X11_in (c_X11_in _ _ _ (by first | assumption | exact ⟨by omega, by omega⟩ | exact rg_L (by assumption)) (by first | assumption | exact ⟨by omega, by omega⟩ | exact rg_L (by assumption)) (by first | assumption | exact ⟨by omega, by omega⟩ | exact rg_L (by assumption))) rfl rfl ⟨Nat.le_of_ble_eq_true rfl, Nat.le_of_ble_eq_true rfl⟩ (Nat.le_of_ble_eq_true rfl) ⟨Nat.le_of_ble_eq_true rfl, Nat.le_of_ble_eq_true rfl⟩ ?_
  refine R_ifp_eq 12 30 rfl rfl dX11_sheet_9 (fun h9 => ?_) (fun h9 => ?_)
  · refine R_iconst 31 rfl dX11_sheet_30 ?_
    refine R_ireturn dX11_sheet_31 rfl ?_
    rw [if_neg (no (by omega))]
    exact QI_mk ⟨by unfold a_sheet; rw [if_neg (by omega)], Fl.rf, hR, hX⟩
  · refine R_iload_n 13 rfl dX11_sheet_12 rfl ?_
    refine R_i2l 14 rfl dX11_sheet_13 (by first | assumption | exact ⟨by omega, by omega⟩) ?_
    refine R_lconst 15 rfl dX11_sheet_14 ?_
    refine R_topL (b := 0) rfl ?_
    refine R_ldc2 (2) 18 rfl dX11_sheet_15 kl_X11_202 (by decide) ?_
    refine R_callS_i (M' := mX11_in) 21 rfl dX11_sheet_18 ml_X11_63 kmX11_in st_X11_in (c_X11_in _ _ _ (by first | assumption | exact ⟨by omega, by omega⟩ | exact rg_L (by assumption)) (by first | assumption | exact ⟨by omega, by omega⟩ | exact rg_L (by assumption)) (by first | assumption | exact ⟨by omega, by omega⟩ | exact rg_L (by assumption))) rfl rfl ⟨Nat.le_of_ble_eq_true rfl, Nat.le_of_ble_eq_true rfl⟩ (Nat.le_of_ble_eq_true rfl) ⟨Nat.le_of_ble_eq_true rfl, Nat.le_of_ble_eq_true rfl⟩ ?_
    refine R_ifp_eq 24 30 rfl rfl dX11_sheet_21 (fun h21 => ?_) (fun h21 => ?_)
    · refine R_iconst 31 rfl dX11_sheet_30 ?_
      refine R_ireturn dX11_sheet_31 rfl ?_
      rw [if_neg (no (by omega))]
      exact QI_mk ⟨by unfold a_sheet; rw [if_neg (by omega)], Fl.rf, hR, hX⟩
    · refine R_iload_n 25 rfl dX11_sheet_24 rfl ?_
      refine R_bipush 27 rfl dX11_sheet_25 (by decide) ?_
      refine R_icmp_le 30 32 rfl rfl dX11_sheet_27 (by first | assumption | exact ⟨by omega, by omega⟩) (by first | assumption | exact ⟨by omega, by omega⟩) (fun h27 => ?_) (fun h27 => ?_)
      · refine R_iload_n 33 rfl dX11_sheet_32 rfl ?_
        refine R_if_ge 36 39 rfl rfl dX11_sheet_33 (by first | assumption | exact ⟨by omega, by omega⟩) (fun h33 => ?_) (fun h33 => ?_)
        · refine R_aload_n 40 rfl dX11_sheet_39 rfl ?_
          refine R_getP 31 43 rfl dX11_sheet_40 rfl rfl fl_X11_50 (hP _ _ _ rfl) ?_
          refine R_iload_n 44 rfl dX11_sheet_43 rfl ?_
          refine R_iload_n 45 rfl dX11_sheet_44 rfl ?_
          refine R_iast k.toNat 46 rfl dX11_sheet_45 rfl (by first | rfl | omega) (by omega) (by decide) ?_
          refine R_aload_n 47 rfl dX11_sheet_46 rfl ?_
          refine R_getP 32 50 rfl dX11_sheet_47 rfl rfl fl_X11_53 (hP _ _ _ rfl) ?_
          refine R_iload_n 51 rfl dX11_sheet_50 rfl ?_
          refine R_iload_n 52 rfl dX11_sheet_51 rfl ?_
          refine R_iast k.toNat 53 rfl dX11_sheet_52 rfl (by first | rfl | omega) (by omega) (by decide) ?_
          refine R_iconst 54 rfl dX11_sheet_53 ?_
          refine R_istore [_, _, _, _, _] 56 rfl dX11_sheet_54 rfl (by decide) ?_
          exact Lp (by omega) 0 (by omega) _ _ rfl rfl (fun a j q => by simp only [setI]; rw [if_neg (by omega), if_neg (by omega)]) (by simp [setI]) (by simp [setI]) (fun j hj => by omega)
        · refine R_bipush 38 rfl dX11_sheet_36 (by decide) ?_
          refine R_ireturn dX11_sheet_38 rfl ?_
          rw [if_neg (no (by omega))]
          exact QI_mk ⟨by unfold a_sheet; rw [if_pos (by omega), if_pos (by omega)], Fl.rf, hR, hX⟩
      · refine R_iconst 31 rfl dX11_sheet_30 ?_
        refine R_ireturn dX11_sheet_31 rfl ?_
        rw [if_neg (no (by omega))]
        exact QI_mk ⟨by unfold a_sheet; rw [if_neg (by omega)], Fl.rf, hR, hX⟩
theorem c_X11_lay (k i v : Int) (hR : RS L B ch m) (hX : RX T F I S N m) (hk : rg k) (hi : rg i) (hv : rg v) : C Γ mX11_lay 1 40 0 0 [vr 96, vi k, vi i, vi v] SH m (QR L B ch T F I (if layOk S k i = true then shSet S k.toNat (shLay (S k.toNat) i v) else S) N m (a_lay S k i)) := by
  refine C_of_R rfl (Nat.le_of_ble_eq_true rfl) ?_
  have hP := hR.1
  have no : ¬ ((0 ≤ k ∧ k ≤ 3) ∧ 0 ≤ (S k.toNat).1 ∧ 0 ≤ i ∧ i < (S k.toNat).1) → ¬ layOk S k i = true := fun h q => h (layOk_iff.mp q)
  have b1 := Int.le_bmod (x := v) (m := 256) (by omega)
  have b2 := Int.bmod_lt (x := v) (m := 256) (by omega)
  have b3 := Int.le_bmod (x := v) (m := 65536) (by omega)
  have b4 := Int.bmod_lt (x := v) (m := 65536) (by omega)
  refine R_iload_n 1 rfl dX11_lay_0 rfl ?_
  refine R_i2l 2 rfl dX11_lay_1 (by first | assumption | exact ⟨by omega, by omega⟩) ?_
  refine R_lconst 3 rfl dX11_lay_2 ?_
  refine R_topL (b := 0) rfl ?_
  refine R_ldc2 (3) 6 rfl dX11_lay_3 kl_X11_225 (by decide) ?_
  refine R_callS_i (M' := mX11_in) 9 rfl dX11_lay_6 ml_X11_63 kmX11_in st_X11_in (c_X11_in _ _ _ (by first | assumption | exact ⟨by omega, by omega⟩ | exact rg_L (by assumption)) (by first | assumption | exact ⟨by omega, by omega⟩ | exact rg_L (by assumption)) (by first | assumption | exact ⟨by omega, by omega⟩ | exact rg_L (by assumption))) rfl rfl ⟨Nat.le_of_ble_eq_true rfl, Nat.le_of_ble_eq_true rfl⟩ (Nat.le_of_ble_eq_true rfl) ⟨Nat.le_of_ble_eq_true rfl, Nat.le_of_ble_eq_true rfl⟩ ?_
  refine R_ifp_ne 12 14 rfl rfl dX11_lay_9 (fun h9 => ?_) (fun h9 => ?_)
  · obtain ⟨g0, g1, g2⟩ := hX.2.2.2.2.1 k.toNat (by omega)
    have so := hX.1.2.2.2.1 k.toNat (by omega)
    have s1 := so.1
    have gl : ((S k.toNat).1 < 0 → m.1 110 k.toNat = -4) ∧ (¬ (S k.toNat).1 < 0 → m.1 110 k.toNat = (S k.toNat).2.1) := ⟨fun q => by rw [g0, if_pos q], fun q => by rw [g0, if_neg q]⟩
    refine R_aload_n 15 rfl dX11_lay_14 rfl ?_
    refine R_getP 31 18 rfl dX11_lay_15 rfl rfl fl_X11_50 (hP _ _ _ rfl) ?_
    refine R_iload_n 19 rfl dX11_lay_18 rfl ?_
    refine R_iald k.toNat 20 rfl dX11_lay_19 rfl (by first | rfl | omega) (by omega) (by decide) ?_
    refine R_bipush 22 rfl dX11_lay_20 (by decide) ?_
    refine R_icmp_ne 25 28 rfl rfl dX11_lay_22 (by first | assumption | exact ⟨by omega, by omega⟩) (by first | assumption | exact ⟨by omega, by omega⟩) (fun h22 => ?_) (fun h22 => ?_)
    · have g3 := g1 (by omega)
      refine R_iload_n 29 rfl dX11_lay_28 rfl ?_
      refine R_i2l 30 rfl dX11_lay_29 (by first | assumption | exact ⟨by omega, by omega⟩) ?_
      refine R_lconst 31 rfl dX11_lay_30 ?_
      refine R_topL (b := 0) rfl ?_
      refine R_aload_n 32 rfl dX11_lay_31 rfl ?_
      refine R_getP 32 35 rfl dX11_lay_32 rfl rfl fl_X11_53 (hP _ _ _ rfl) ?_
      refine R_iload_n 36 rfl dX11_lay_35 rfl ?_
      refine R_iald k.toNat 37 rfl dX11_lay_36 rfl (by first | rfl | omega) (by omega) (by decide) ?_
      refine R_iconst 38 rfl dX11_lay_37 ?_
      refine R_isub 39 rfl dX11_lay_38 ?_
      refine R_i2l 40 rfl dX11_lay_39 (by first | assumption | exact ⟨by omega, by omega⟩) ?_
      refine R_callS_i (M' := mX11_in) 43 rfl dX11_lay_40 ml_X11_63 kmX11_in st_X11_in (c_X11_in _ _ _ (by first | assumption | exact ⟨by omega, by omega⟩ | exact rg_L (by assumption)) (by first | assumption | exact ⟨by omega, by omega⟩ | exact rg_L (by assumption)) (by first | assumption | exact ⟨by omega, by omega⟩ | exact rg_L (by assumption))) rfl rfl ⟨Nat.le_of_ble_eq_true rfl, Nat.le_of_ble_eq_true rfl⟩ (Nat.le_of_ble_eq_true rfl) ⟨Nat.le_of_ble_eq_true rfl, Nat.le_of_ble_eq_true rfl⟩ ?_
      refine R_ifp_ne 46 49 rfl rfl dX11_lay_43 (fun h43 => ?_) (fun h43 => ?_)
      · refine R_aload_n 50 rfl dX11_lay_49 rfl ?_
        refine R_getP 33 53 rfl dX11_lay_50 rfl rfl fl_X11_56 (hP _ _ _ rfl) ?_
        refine R_bipush 55 rfl dX11_lay_53 (by decide) ?_
        refine R_iload_n 56 rfl dX11_lay_55 rfl ?_
        refine R_imul 57 rfl dX11_lay_56 ?_
        refine R_iload_n 58 rfl dX11_lay_57 rfl ?_
        refine R_iadd 59 rfl dX11_lay_58 ?_
        refine R_aload_n 60 rfl dX11_lay_59 rfl ?_
        refine R_getP 31 63 rfl dX11_lay_60 rfl rfl fl_X11_50 (hP _ _ _ rfl) ?_
        refine R_iload_n 64 rfl dX11_lay_63 rfl ?_
        refine R_iald k.toNat 65 rfl dX11_lay_64 rfl (by first | rfl | omega) (by omega) (by decide) ?_
        refine R_if_ne 68 78 rfl rfl dX11_lay_65 (by first | assumption | exact ⟨by omega, by omega⟩) (fun h65 => ?_) (fun h65 => ?_)
        · refine R_aload_n 79 rfl dX11_lay_78 rfl ?_
          refine R_getP 31 82 rfl dX11_lay_79 rfl rfl fl_X11_50 (hP _ _ _ rfl) ?_
          refine R_iload_n 83 rfl dX11_lay_82 rfl ?_
          refine R_iald k.toNat 84 rfl dX11_lay_83 rfl (by first | rfl | omega) (by omega) (by decide) ?_
          refine R_iconst 85 rfl dX11_lay_84 ?_
          refine R_icmp_ne 88 98 rfl rfl dX11_lay_85 (by first | assumption | exact ⟨by omega, by omega⟩) (by first | assumption | exact ⟨by omega, by omega⟩) (fun h85 => ?_) (fun h85 => ?_)
          · refine R_iload_n 99 rfl dX11_lay_98 rfl ?_
            refine R_iast (60 * k.toNat + i.toNat) 100 rfl dX11_lay_99 rfl (by first | rfl | omega) (by omega) (by decide) ?_
            refine R_iconst 101 rfl dX11_lay_100 ?_
            refine R_ireturn dX11_lay_101 rfl ?_
            rw [if_pos (layOk_iff.mpr (by omega))]
            have key : ∀ x, x = nrw (S k.toNat).2.1 v → Fl m (setI m 112 (60 * k.toNat + i.toNat) x) ∧ RS L B ch (setI m 112 (60 * k.toNat + i.toNat) x) ∧ RX T F I (shSet S k.toNat (shLay (S k.toNat) i v)) N (setI m 112 (60 * k.toNat + i.toNat) x) := by
              intro x hx
              refine ⟨⟨fun a j q => by simp only [setI]; rw [if_neg (by omega)], rfl⟩, hR.h3 (fun a j q _ => by simp only [setI]; rw [if_neg (by omega)]) rfl, hX.sh (fun a j q => by simp only [setI]; rw [if_neg (by omega)]) ⟨?_, fun q => ?_, fun j hj => ?_⟩ ⟨so.1, fun j hj => ?_⟩⟩
              · simp only [setI, shLay]; rw [if_neg (by omega)]; exact g0
              · simp only [setI, shLay]; rw [if_neg (by omega)]; exact g1 q
              · simp only [setI, shLay]
                by_cases e : j = i.toNat
                · rw [if_pos e, e, if_pos ⟨trivial, rfl⟩]; exact hx
                · rw [if_neg e, if_neg (by omega)]; exact g2 j hj
              · simp only [shLay]
                split
                · exact nrw_rg hv
                · exact so.2 j hj
            exact QI_mk ⟨by unfold a_lay; rw [if_pos (by omega), if_neg (by omega), if_pos (by omega)], key _ (by unfold nrw; first | rw [if_pos (by omega)] | rw [if_neg (by omega), if_pos (by omega)] | rw [if_neg (by omega), if_neg (by omega)])⟩
          · refine R_iload_n 89 rfl dX11_lay_88 rfl ?_
            refine R_bipush 91 rfl dX11_lay_89 (by decide) ?_
            refine R_ishl 92 rfl dX11_lay_91 (by omega) (by omega) ?_
            refine R_topW (b := v.bmod 65536 * 2 ^ 16) (iz_cg (bm_16 v)) ?_
            refine R_bipush 94 rfl dX11_lay_92 (by decide) ?_
            refine R_ishr 95 rfl dX11_lay_94 ⟨by omega, by omega⟩ (by omega) (by omega) ?_
            refine R_top (b := v.bmod 65536) (Int.mul_ediv_cancel _ (by decide)) ?_
            refine R_goto 99 rfl dX11_lay_95 ?_
            refine R_iast (60 * k.toNat + i.toNat) 100 rfl dX11_lay_99 rfl (by first | rfl | omega) (by omega) (by decide) ?_
            refine R_iconst 101 rfl dX11_lay_100 ?_
            refine R_ireturn dX11_lay_101 rfl ?_
            rw [if_pos (layOk_iff.mpr (by omega))]
            have key : ∀ x, x = nrw (S k.toNat).2.1 v → Fl m (setI m 112 (60 * k.toNat + i.toNat) x) ∧ RS L B ch (setI m 112 (60 * k.toNat + i.toNat) x) ∧ RX T F I (shSet S k.toNat (shLay (S k.toNat) i v)) N (setI m 112 (60 * k.toNat + i.toNat) x) := by
              intro x hx
              refine ⟨⟨fun a j q => by simp only [setI]; rw [if_neg (by omega)], rfl⟩, hR.h3 (fun a j q _ => by simp only [setI]; rw [if_neg (by omega)]) rfl, hX.sh (fun a j q => by simp only [setI]; rw [if_neg (by omega)]) ⟨?_, fun q => ?_, fun j hj => ?_⟩ ⟨so.1, fun j hj => ?_⟩⟩
              · simp only [setI, shLay]; rw [if_neg (by omega)]; exact g0
              · simp only [setI, shLay]; rw [if_neg (by omega)]; exact g1 q
              · simp only [setI, shLay]
                by_cases e : j = i.toNat
                · rw [if_pos e, e, if_pos ⟨trivial, rfl⟩]; exact hx
                · rw [if_neg e, if_neg (by omega)]; exact g2 j hj
              · simp only [shLay]
                split
                · exact nrw_rg hv
                · exact so.2 j hj
            exact QI_mk ⟨by unfold a_lay; rw [if_pos (by omega), if_neg (by omega), if_pos (by omega)], key _ (by unfold nrw; first | rw [if_pos (by omega)] | rw [if_neg (by omega), if_pos (by omega)] | rw [if_neg (by omega), if_neg (by omega)])⟩
        · refine R_iload_n 69 rfl dX11_lay_68 rfl ?_
          refine R_bipush 71 rfl dX11_lay_69 (by decide) ?_
          refine R_ishl 72 rfl dX11_lay_71 (by omega) (by omega) ?_
          refine R_topW (b := v.bmod 256 * 2 ^ 24) (iz_cg (bm_24 v)) ?_
          refine R_bipush 74 rfl dX11_lay_72 (by decide) ?_
          refine R_ishr 75 rfl dX11_lay_74 ⟨by omega, by omega⟩ (by omega) (by omega) ?_
          refine R_top (b := v.bmod 256) (Int.mul_ediv_cancel _ (by decide)) ?_
          refine R_goto 99 rfl dX11_lay_75 ?_
          refine R_iast (60 * k.toNat + i.toNat) 100 rfl dX11_lay_99 rfl (by first | rfl | omega) (by omega) (by decide) ?_
          refine R_iconst 101 rfl dX11_lay_100 ?_
          refine R_ireturn dX11_lay_101 rfl ?_
          rw [if_pos (layOk_iff.mpr (by omega))]
          have key : ∀ x, x = nrw (S k.toNat).2.1 v → Fl m (setI m 112 (60 * k.toNat + i.toNat) x) ∧ RS L B ch (setI m 112 (60 * k.toNat + i.toNat) x) ∧ RX T F I (shSet S k.toNat (shLay (S k.toNat) i v)) N (setI m 112 (60 * k.toNat + i.toNat) x) := by
            intro x hx
            refine ⟨⟨fun a j q => by simp only [setI]; rw [if_neg (by omega)], rfl⟩, hR.h3 (fun a j q _ => by simp only [setI]; rw [if_neg (by omega)]) rfl, hX.sh (fun a j q => by simp only [setI]; rw [if_neg (by omega)]) ⟨?_, fun q => ?_, fun j hj => ?_⟩ ⟨so.1, fun j hj => ?_⟩⟩
            · simp only [setI, shLay]; rw [if_neg (by omega)]; exact g0
            · simp only [setI, shLay]; rw [if_neg (by omega)]; exact g1 q
            · simp only [setI, shLay]
              by_cases e : j = i.toNat
              · rw [if_pos e, e, if_pos ⟨trivial, rfl⟩]; exact hx
              · rw [if_neg e, if_neg (by omega)]; exact g2 j hj
            · simp only [shLay]
              split
              · exact nrw_rg hv
              · exact so.2 j hj
          exact QI_mk ⟨by unfold a_lay; rw [if_pos (by omega), if_neg (by omega), if_pos (by omega)], key _ (by unfold nrw; first | rw [if_pos (by omega)] | rw [if_neg (by omega), if_pos (by omega)] | rw [if_neg (by omega), if_neg (by omega)])⟩
      · refine R_bipush 48 rfl dX11_lay_46 (by decide) ?_
        refine R_ireturn dX11_lay_48 rfl ?_
        rw [if_neg (no (by omega))]
        exact QI_mk ⟨by unfold a_lay; rw [if_pos (by omega), if_neg (by omega), if_neg (by omega)], Fl.rf, hR, hX⟩
    · refine R_bipush 27 rfl dX11_lay_25 (by decide) ?_
      refine R_ireturn dX11_lay_27 rfl ?_
      rw [if_neg (no (by omega))]
      exact QI_mk ⟨by unfold a_lay; rw [if_pos (by omega), if_pos (by omega)], Fl.rf, hR, hX⟩
  · refine R_iconst 13 rfl dX11_lay_12 ?_
    refine R_ireturn dX11_lay_13 rfl ?_
    rw [if_neg (no (by omega))]
    exact QI_mk ⟨by unfold a_lay; rw [if_neg (by omega)], Fl.rf, hR, hX⟩
theorem c_X11_count (w : Int) (hR : RS L B ch m) (hX : RX T F I S N m) (hw : rg w) : C Γ mX11_count 1 40 0 0 [vr 96, vi w] SH m (QR L B ch T F I S N m (a_count L B T I S w)) := by
  refine C_of_R rfl (Nat.le_of_ble_eq_true rfl) ?_
  have hP := hR.1
  have hw1 := hw.1
  have hw2 := hw.2
  have h2 := hR.2.1.1 0 (by omega)
  have h9 := npN_le hR.2.2.1
  have g0 := (hX.2.2.2.1 0 (by omega)).1
  have g1 := (hX.2.2.2.1 1 (by omega)).1
  have k0 : m.1 109 0 = 0 ∨ m.1 109 0 = 1 := by rw [g0]; exact pI_01 _
  have k1 : m.1 109 1 = 0 ∨ m.1 109 1 = 1 := by rw [g1]; exact pI_01 _
  obtain ⟨s0, s1, -⟩ := hX.2.2.2.2.1 0 (by omega)
  have so := (hX.1.2.2.2.1 0 (by omega)).1
  have sl : ((S 0).1 < 0 → m.1 110 0 = -4) ∧ (¬ (S 0).1 < 0 → m.1 110 0 = (S 0).2.1) := ⟨fun q => by rw [s0, if_pos q], fun q => by rw [s0, if_neg q]⟩
  have Lp : ∀ k, k ≤ npN L → ∀ a z, a = sumN (L.2.1 1) k → z = (k : Int) → R Γ mX11_count { frames := 1, cells := 0, slots := 0, locals := 40 } 0 0 (QR L B ch T F I S N m (a_count L B T I S w)) 0 0 4 [some (vr 96), some (vi w), some (vi a), some (vi z)] [] SH m := by
    refine up_ind (npN L) (fun k hk ih a z ha hz => ?_)
    refine R_iload_n 5 rfl dX11_count_4 rfl ?_
    refine R_aload_n 6 rfl dX11_count_5 rfl ?_
    refine R_getP 12 9 rfl dX11_count_6 rfl rfl fl_X11_22 (hP _ _ _ rfl) ?_
    refine R_iconst 10 rfl dX11_count_9 ?_
    refine R_iald 0 11 rfl dX11_count_10 rfl (by first | rfl | omega) (by decide) (by decide) ?_
    rw [h2]
    refine R_icmp_ge 14 29 rfl rfl dX11_count_11 (by first | assumption | exact ⟨by omega, by omega⟩) (by first | assumption | exact ⟨by omega, by omega⟩) (fun h11 => ?_) (fun h11 => ?_)
    · refine R_iload_n 30 rfl dX11_count_29 rfl ?_
      rcases (show w < 0 ∨ 4 < w ∨ w = 0 ∨ w = 1 ∨ w = 2 ∨ w = 3 ∨ w = 4 by omega) with h30 | h30 | rfl | rfl | rfl | rfl | rfl
      · refine R_tsOut 129 dX11_count_30 (by first | assumption | exact ⟨by omega, by omega⟩) (by omega) rfl ?_
        refine R_iconst 130 rfl dX11_count_129 ?_
        refine R_ireturn dX11_count_130 rfl ?_
        exact QI_mk ⟨by unfold a_count; rw [if_neg (by omega), if_neg (by omega), if_neg (by omega), if_neg (by omega), if_neg (by omega)], Fl.rf, hR, hX⟩
      · refine R_tsOut 129 dX11_count_30 (by first | assumption | exact ⟨by omega, by omega⟩) (by omega) rfl ?_
        refine R_iconst 130 rfl dX11_count_129 ?_
        refine R_ireturn dX11_count_130 rfl ?_
        exact QI_mk ⟨by unfold a_count; rw [if_neg (by omega), if_neg (by omega), if_neg (by omega), if_neg (by omega), if_neg (by omega)], Fl.rf, hR, hX⟩
      · refine R_tsIn 64 dX11_count_30 ⟨by omega, by omega⟩ (by omega) (by omega) rfl rfl ?_
        refine R_aload_n 65 rfl dX11_count_64 rfl ?_
        refine R_callV_i (M' := mX11_size) 68 rfl dX11_count_65 ml_X11_150 kmX11_size im_X11_size se_X11_size rfl ⟨by decide, rfl⟩ (c_X11_size hR) rfl rfl ⟨Nat.le_of_ble_eq_true rfl, Nat.le_of_ble_eq_true rfl⟩ (Nat.le_of_ble_eq_true rfl) ⟨Nat.le_of_ble_eq_true rfl, Nat.le_of_ble_eq_true rfl⟩ ?_
        refine R_ireturn dX11_count_68 rfl ?_
        exact QI_mk ⟨by unfold a_count; simp, Fl.rf, hR, hX⟩
      · refine R_tsIn 69 dX11_count_30 ⟨by omega, by omega⟩ (by omega) (by omega) rfl rfl ?_
        refine R_aload_n 70 rfl dX11_count_69 rfl ?_
        refine R_getI 1 73 rfl dX11_count_70 rfl rfl fl_X11_59 ?_
        refine R_ireturn dX11_count_73 rfl ?_
        exact QI_mk ⟨by unfold a_count; simp; exact hX.2.1.1, Fl.rf, hR, hX⟩
      · refine R_tsIn 74 dX11_count_30 ⟨by omega, by omega⟩ (by omega) (by omega) rfl rfl ?_
        refine R_aload_n 75 rfl dX11_count_74 rfl ?_
        refine R_getP 31 78 rfl dX11_count_75 rfl rfl fl_X11_50 (hP _ _ _ rfl) ?_
        refine R_iconst 79 rfl dX11_count_78 ?_
        refine R_iald 0 80 rfl dX11_count_79 rfl (by first | rfl | omega) (by decide) (by decide) ?_
        refine R_bipush 82 rfl dX11_count_80 (by decide) ?_
        refine R_icmp_ne 85 90 rfl rfl dX11_count_82 (by first | assumption | exact ⟨by omega, by omega⟩) (by first | assumption | exact ⟨by omega, by omega⟩) (fun h82 => ?_) (fun h82 => ?_)
        · refine R_aload_n 91 rfl dX11_count_90 rfl ?_
          refine R_getP 32 94 rfl dX11_count_91 rfl rfl fl_X11_53 (hP _ _ _ rfl) ?_
          refine R_iconst 95 rfl dX11_count_94 ?_
          refine R_iald 0 96 rfl dX11_count_95 rfl (by first | rfl | omega) (by decide) (by decide) ?_
          refine R_ireturn dX11_count_96 rfl ?_
          first | exact QI_mk ⟨by unfold a_count; simp; omega, Fl.rf, hR, hX⟩ | exact QI_mk ⟨by unfold a_count; simp; split <;> omega, Fl.rf, hR, hX⟩
        · refine R_bipush 87 rfl dX11_count_85 (by decide) ?_
          refine R_goto 96 rfl dX11_count_87 ?_
          refine R_ireturn dX11_count_96 rfl ?_
          first | exact QI_mk ⟨by unfold a_count; simp; omega, Fl.rf, hR, hX⟩ | exact QI_mk ⟨by unfold a_count; simp; split <;> omega, Fl.rf, hR, hX⟩
      · refine R_tsIn 97 dX11_count_30 ⟨by omega, by omega⟩ (by omega) (by omega) rfl rfl ?_
        refine R_aload_n 98 rfl dX11_count_97 rfl ?_
        refine R_getP 30 101 rfl dX11_count_98 rfl rfl fl_X11_46 (hP _ _ _ rfl) ?_
        refine R_iconst 102 rfl dX11_count_101 ?_
        refine R_zald 0 103 rfl dX11_count_102 rfl (by first | rfl | omega) (by decide) (by decide) ?_
        refine R_if_eq 106 110 rfl rfl dX11_count_103 (by first | assumption | exact ⟨by omega, by omega⟩) (fun h103 => ?_) (fun h103 => ?_)
        · refine R_iconst 111 rfl dX11_count_110 ?_
          refine R_aload_n 112 rfl dX11_count_111 rfl ?_
          refine R_getP 30 115 rfl dX11_count_112 rfl rfl fl_X11_46 (hP _ _ _ rfl) ?_
          refine R_iconst 116 rfl dX11_count_115 ?_
          refine R_zald 1 117 rfl dX11_count_116 rfl (by first | rfl | omega) (by decide) (by decide) ?_
          refine R_if_eq 120 124 rfl rfl dX11_count_117 (by first | assumption | exact ⟨by omega, by omega⟩) (fun h117 => ?_) (fun h117 => ?_)
          · refine R_iconst 125 rfl dX11_count_124 ?_
            refine R_iadd 126 rfl dX11_count_125 ?_
            refine R_ireturn dX11_count_126 rfl ?_
            exact QI_mk ⟨by unfold a_count; simp; omega, Fl.rf, hR, hX⟩
          · refine R_iconst 121 rfl dX11_count_120 ?_
            refine R_goto 125 rfl dX11_count_121 ?_
            refine R_iadd 126 rfl dX11_count_125 ?_
            refine R_ireturn dX11_count_126 rfl ?_
            exact QI_mk ⟨by unfold a_count; simp; omega, Fl.rf, hR, hX⟩
        · refine R_iconst 107 rfl dX11_count_106 ?_
          refine R_goto 111 rfl dX11_count_107 ?_
          refine R_aload_n 112 rfl dX11_count_111 rfl ?_
          refine R_getP 30 115 rfl dX11_count_112 rfl rfl fl_X11_46 (hP _ _ _ rfl) ?_
          refine R_iconst 116 rfl dX11_count_115 ?_
          refine R_zald 1 117 rfl dX11_count_116 rfl (by first | rfl | omega) (by decide) (by decide) ?_
          refine R_if_eq 120 124 rfl rfl dX11_count_117 (by first | assumption | exact ⟨by omega, by omega⟩) (fun h117 => ?_) (fun h117 => ?_)
          · refine R_iconst 125 rfl dX11_count_124 ?_
            refine R_iadd 126 rfl dX11_count_125 ?_
            refine R_ireturn dX11_count_126 rfl ?_
            exact QI_mk ⟨by unfold a_count; simp; omega, Fl.rf, hR, hX⟩
          · refine R_iconst 121 rfl dX11_count_120 ?_
            refine R_goto 125 rfl dX11_count_121 ?_
            refine R_iadd 126 rfl dX11_count_125 ?_
            refine R_ireturn dX11_count_126 rfl ?_
            exact QI_mk ⟨by unfold a_count; simp; omega, Fl.rf, hR, hX⟩
      · refine R_tsIn 127 dX11_count_30 ⟨by omega, by omega⟩ (by omega) (by omega) rfl rfl ?_
        refine R_iload_n 128 rfl dX11_count_127 rfl ?_
        refine R_ireturn dX11_count_128 rfl ?_
        exact QI_mk ⟨by unfold a_count; simp; rw [ha, show k = npN L by omega], Fl.rf, hR, hX⟩
    · refine R_iload_n 15 rfl dX11_count_14 rfl ?_
      refine R_aload_n 16 rfl dX11_count_15 rfl ?_
      refine R_iload_n 17 rfl dX11_count_16 rfl ?_
      refine R_iconst 18 rfl dX11_count_17 ?_
      refine R_callV_i (M' := mX11_parishOf) 21 rfl dX11_count_18 ml_X11_156 kmX11_parishOf im_X11_parishOf se_X11_parishOf rfl ⟨by decide, rfl⟩ (c_X11_parishOf _ _ k 1 hR (by omega) (by omega) (by omega) (by omega)) rfl rfl ⟨Nat.le_of_ble_eq_true rfl, Nat.le_of_ble_eq_true rfl⟩ (Nat.le_of_ble_eq_true rfl) ⟨Nat.le_of_ble_eq_true rfl, Nat.le_of_ble_eq_true rfl⟩ ?_
      refine R_iadd 22 rfl dX11_count_21 ?_
      refine R_istore_n [_, _, _, _] 23 rfl dX11_count_22 rfl (by decide) ?_
      refine R_iinc [_, _, _, _] 26 rfl dX11_count_23 rfl rfl (by decide) ?_
      refine R_goto 4 rfl dX11_count_26 ?_
      exact ih (by omega) _ _ (by rw [ha]; rfl) (by omega)
  refine R_iconst 1 rfl dX11_count_0 ?_
  refine R_istore_n [_, _, _, _] 2 rfl dX11_count_1 rfl (by decide) ?_
  refine R_iconst 3 rfl dX11_count_2 ?_
  refine R_istore_n [_, _, _, _] 4 rfl dX11_count_3 rfl (by decide) ?_
  exact Lp 0 (by omega) _ _ rfl rfl
end
