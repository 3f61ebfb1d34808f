/-! the rest of the reference's state -/
def XOk (T : Tp) (F : Int) (I : Nat → Im) (S : Nat → Sht) (N : Int) : Prop := TpOk T ∧ (0 ≤ F ∧ F ≤ 5) ∧ (∀ k, k < 2 → ImOk (I k)) ∧ (∀ k, k < 4 → ShOk (S k)) ∧ 0 ≤ N ∧ N ≤ 3
def RI (k : Nat) (m : Mem) (J : Im) : Prop := m.1 109 k = pI (J.1 = true) ∧ (J.1 = true → RB (660 * (k + 1)) m J.2.1 ∧ RC (660 * (k + 1)) m J.2.2) ∧ (0 ≤ m.1 107 (660 * (k + 1) + 650) ∧ m.1 107 (660 * (k + 1) + 650) ≤ 40)
def RH (k : Nat) (m : Mem) (s : Sht) : Prop := m.1 110 k = (if s.1 < 0 then -4 else s.2.1) ∧ (0 ≤ s.1 → m.1 111 k = s.1) ∧ ∀ i, i < 60 → m.1 112 (60 * k + i) = s.2.2 i
def plL : List Int := [0, 0, 11, 20, 35, 0, 1, 0, 1, 1, 1]
def cuL : List Int := [0, 6, 11, 16, 21, 25, 30, 37, 41, 45, 51, 56, 60]
def leL : List Int := [112, 97, 114, 105, 115, 104, 99, 108, 101, 114, 107, 116, 114, 105, 101, 100, 108, 101, 97, 114, 110, 97, 103, 101, 115, 110, 101, 118, 101, 114, 112, 105, 99, 116, 117, 114, 101, 116, 111, 119, 110, 109, 105, 108, 108, 115, 99, 104, 111, 111, 108, 99, 114, 111, 115, 115, 110, 97, 109, 101]
def RKc (m : Mem) : Prop := (∀ j, j < 11 → m.1 100 j = plL.getD j 0) ∧ (∀ j, j < 13 → m.1 98 j = cuL.getD j 0) ∧ (∀ j, j < 60 → m.1 99 j = leL.getD j 0)
def RX (T : Tp) (F : Int) (I : Nat → Im) (S : Nat → Sht) (N : Int) (m : Mem) : Prop := XOk T F I S N ∧ (m.1 96 1 = (T.1 : Int) ∧ ∀ k, k < T.1 → m.1 97 k = T.2 k) ∧ m.1 96 2 = F ∧ (∀ k, k < 2 → RI k m (I k)) ∧ (∀ k, k < 4 → RH k m (S k)) ∧ m.1 96 34 = N ∧ RKc m
def Fl (m m' : Mem) : Prop := (∀ a k, a < 96 → m'.1 a k = m.1 a k) ∧ m'.2 = m.2
def QR (L : Ld) (B : Bk) (ch : Cs) (T : Tp) (F : Int) (I : Nat → Im) (S : Nat → Sht) (N : Int) (m : Mem) (z : Int) : Option AV → Shp → Mem → Prop := QI SH (fun z' m' => z' = z ∧ Fl m m' ∧ RS L B ch m' ∧ RX T F I S N m')
/-- books alone -/
def Fb (m m' : Mem) : Prop := (∀ a k, a ≠ 107 ∨ (640 ≤ k ∧ k ≠ 650) → m'.1 a k = m.1 a k) ∧ m'.2 = m.2
section
variable {Γ : GX} {m m' m'' : Mem} {B B' : Bk} {L : Ld} {ch ch' : Cs} {T : Tp} {F N : Int} {I : Nat → Im} {S : Nat → Sht}
theorem Fl.rf : Fl m m := ⟨fun _ _ _ => rfl, rfl⟩
theorem Fm.l (h : Fm m m') : Fl m m' := ⟨fun a k q => h.1 a k (by omega) (by omega) (by omega), h.2.2.2⟩
theorem Fb.l (h : Fb m m') : Fl m m' := ⟨fun a k q => h.1 a k (Or.inl (by omega)), h.2⟩
theorem Fl.tr (h : Fl m m') (h' : Fl m' m'') : Fl m m'' := ⟨fun a k q => (h'.1 a k q).trans (h.1 a k q), h'.2.trans h.2⟩
theorem Fb.rf : Fb m m := ⟨fun _ _ _ => rfl, rfl⟩
theorem Fb.tr (h : Fb m m') (h' : Fb m' m'') : Fb m m'' := ⟨fun a k q => (h'.1 a k q).trans (h.1 a k q), h'.2.trans h.2⟩
theorem Fb.set {k : Nat} {z : Int} (h : Fb m m') (hk : k < 640 ∨ k = 650) : Fb m (setI m' 107 k z) := ⟨fun a j q => by simp only [setI]; rw [if_neg (by omega)]; exact h.1 a j q, h.2⟩
theorem RX.eq (h : RX T F I S N m) (h96 : m'.1 96 1 = m.1 96 1 ∧ m'.1 96 2 = m.1 96 2 ∧ m'.1 96 34 = m.1 96 34) (h9 : ∀ a k, 97 ≤ a → a ≤ 100 ∨ 109 ≤ a → m'.1 a k = m.1 a k) (h107 : ∀ k, 660 ≤ k → m'.1 107 k = m.1 107 k) : RX T F I S N m' := by
  obtain ⟨h0, ⟨h1, h1'⟩, h2, h3, h4, h5, k1, k2, k3⟩ := h
  refine ⟨h0, ⟨by rw [h96.1]; exact h1, fun k hk => by rw [h9 97 k (by omega) (by omega)]; exact h1' k hk⟩, by rw [h96.2.1]; exact h2, fun k hk => ?_, fun k hk => ?_, by rw [h96.2.2]; exact h5, fun j hj => by rw [h9 100 j (by omega) (by omega)]; exact k1 j hj, fun j hj => by rw [h9 98 j (by omega) (by omega)]; exact k2 j hj, fun j hj => by rw [h9 99 j (by omega) (by omega)]; exact k3 j hj⟩
  · obtain ⟨a1, a2, a3⟩ := h3 k hk
    refine ⟨by rw [h9 109 k (by omega) (by omega)]; exact a1, fun q => ?_, by rw [h107 _ (by omega)]; exact a3⟩
    obtain ⟨⟨b1, b2, b3⟩, b4⟩ := a2 q
    exact ⟨⟨by rw [h107 _ (by omega)]; exact b1, fun j hj w hw => by rw [h107 _ (by omega)]; exact b2 j hj w hw, fun j hj w hw => by rw [h107 _ (by omega)]; exact b3 j hj w hw⟩, fun c hc j hj => by rw [h107 _ (by omega)]; exact b4 c hc j hj⟩
  · obtain ⟨a1, a2, a3⟩ := h4 k hk
    exact ⟨by rw [h9 110 k (by omega) (by omega)]; exact a1, fun q => by rw [h9 111 k (by omega) (by omega)]; exact a2 q, fun i hi => by rw [h9 112 _ (by omega) (by omega)]; exact a3 i hi⟩
theorem RX.fm (h : RX T F I S N m) (hf : Fm m m') : RX T F I S N m' := h.eq ⟨hf.2.1 1 (by omega), hf.2.1 2 (by omega), hf.2.1 34 (by omega)⟩ (fun a k q1 q2 => hf.1 a k (by omega) (by omega) (by omega)) (fun k q => hf.2.2.1 k (by omega))
theorem RX.fb (h : RX T F I S N m) (hf : Fb m m') : RX T F I S N m' := h.eq ⟨hf.1 96 1 (by omega), hf.1 96 2 (by omega), hf.1 96 34 (by omega)⟩ (fun a k q1 q2 => hf.1 a k (by omega)) (fun k q => hf.1 107 k (by omega))
theorem QM.r {z : Int} (hX : RX T F I S N m) {r : Option AV} {S' : Shp} (h : QM L B ch m z r S' m') : QR L B ch T F I S N m z r S' m' := by
  obtain ⟨z', h1, h2, h3, h4, h5⟩ := h
  exact ⟨z', h1, h2, h3, h4.l, h5, hX.fm h4⟩
theorem RLd.eq (h : RLd m L) (e : ∀ a k, 101 ≤ a → a ≤ 103 → m'.1 a k = m.1 a k) : RLd m' L := ⟨fun j hj => by rw [e 101 j (by omega) (by omega)]; exact h.1 j hj, fun p hp w hw => by rw [e 102 _ (by omega) (by omega)]; exact h.2.1 p hp w hw, fun p hp w hw => by rw [e 103 _ (by omega) (by omega)]; exact h.2.2 p hp w hw⟩
theorem RS.bk (h : RS L B ch m) (hf : Fb m m') (hB : RB 0 m' B') (hO : BkOk (L.1 0) B') : RS L B' ch m' := by
  obtain ⟨h1, h2, h3, -, -, h6, h7⟩ := h
  refine ⟨fun a k r q => by rw [hf.2]; exact h1 a k r q, h2.eq (fun a k q1 q2 => hf.1 a k (by omega)), h3, hB, hO, ?_, h7⟩
  rcases h6 with ⟨a, b⟩ | ⟨a, b⟩
  · exact Or.inl ⟨by rw [hf.1 96 20 (by omega)]; exact a, fun c hc j hj => by rw [hf.1 107 _ (by omega)]; exact b c hc j hj⟩
  · exact Or.inr ⟨by rw [hf.1 96 20 (by omega)]; exact a, b⟩
theorem c_X11_fault (hR : RS L B ch m) (hX : RX T F I S N m) : C Γ mX11_fault 0 0 0 0 [vr 96] SH m (QR L B ch T F I S N m F) := by
  refine C_of_R rfl (Nat.le_of_ble_eq_true rfl) ?_
  refine R_aload_n 1 rfl dX11_fault_0 rfl ?_
  refine R_getI 2 4 rfl dX11_fault_1 rfl rfl fl_X11_135 ?_
  refine R_ireturn dX11_fault_4 rfl ?_
  exact QI_mk ⟨hX.2.2.1, Fl.rf, hR, hX⟩
theorem c_X11_torn (hR : RS L B ch m) (hX : RX T F I S N m) : C Γ mX11_torn 0 0 0 0 [vr 96] SH m (QR L B ch T F I S N m N) := by
  refine C_of_R rfl (Nat.le_of_ble_eq_true rfl) ?_
  refine R_aload_n 1 rfl dX11_torn_0 rfl ?_
  refine R_getI 34 4 rfl dX11_torn_1 rfl rfl fl_X11_330 ?_
  refine R_ireturn dX11_torn_4 rfl ?_
  exact QI_mk ⟨hX.2.2.2.2.2.1, Fl.rf, hR, hX⟩
/-- the tape alone -/
def Ftp (m m' : Mem) : Prop := (∀ a k, a ≠ 97 ∧ (a ≠ 96 ∨ k ≠ 1) → m'.1 a k = m.1 a k) ∧ m'.2 = m.2
theorem RX.tp {T' : Tp} (h : RX T F I S N m) (hf : Ftp m m') (h1 : m'.1 96 1 = (T'.1 : Int)) (h2 : ∀ k, k < T'.1 → m'.1 97 k = T'.2 k) (hT : TpOk T') : RX T' F I S N m' := by
  obtain ⟨⟨-, o2⟩, -, g2, g3, g4, g5, k1, k2, k3⟩ := h
  have e : ∀ a k, a ≠ 97 ∧ (a ≠ 96 ∨ k ≠ 1) → m'.1 a k = m.1 a k := hf.1
  refine ⟨⟨hT, o2⟩, ⟨h1, h2⟩, by rw [e 96 2 (by omega)]; exact g2, fun k hk => ?_, fun k hk => ?_, by rw [e 96 34 (by omega)]; exact g5, fun j hj => by rw [e 100 j (by omega)]; exact k1 j hj, fun j hj => by rw [e 98 j (by omega)]; exact k2 j hj, fun j hj => by rw [e 99 j (by omega)]; exact k3 j hj⟩
  · obtain ⟨a1, a2, a3⟩ := g3 k hk
    refine ⟨by rw [e 109 k (by omega)]; exact a1, fun q => ?_, by rw [e 107 _ (by omega)]; exact a3⟩
    obtain ⟨⟨b1, b2, b3⟩, b4⟩ := a2 q
    exact ⟨⟨by rw [e 107 _ (by omega)]; exact b1, fun j hj w hw => by rw [e 107 _ (by omega)]; exact b2 j hj w hw, fun j hj w hw => by rw [e 107 _ (by omega)]; exact b3 j hj w hw⟩, fun c hc j hj => by rw [e 107 _ (by omega)]; exact b4 c hc j hj⟩
  · obtain ⟨a1, a2, a3⟩ := g4 k hk
    exact ⟨by rw [e 110 k (by omega)]; exact a1, fun q => by rw [e 111 k (by omega)]; exact a2 q, fun i hi => by rw [e 112 _ (by omega)]; exact a3 i hi⟩
theorem RS.tp (h : RS L B ch m) (hf : Ftp m m') : RS L B ch m' := by
  obtain ⟨h1, h2, h3, ⟨b1, b2, b3⟩, h5, h6, h7⟩ := h
  have e : ∀ a k, a ≠ 97 ∧ (a ≠ 96 ∨ k ≠ 1) → m'.1 a k = m.1 a k := hf.1
  refine ⟨fun a k r q => by rw [hf.2]; exact h1 a k r q, h2.eq (fun a k q1 q2 => e a k (by omega)), h3, ⟨by rw [e 107 _ (by omega)]; exact b1, fun k hk w hw => by rw [e 107 _ (by omega)]; exact b2 k hk w hw, fun k hk w hw => by rw [e 107 _ (by omega)]; exact b3 k hk w hw⟩, h5, ?_, h7⟩
  rcases h6 with ⟨a, b⟩ | ⟨a, b⟩
  · exact Or.inl ⟨by rw [e 96 20 (by omega)]; exact a, fun c hc j hj => by rw [e 107 _ (by omega)]; exact b c hc j hj⟩
  · exact Or.inr ⟨by rw [e 96 20 (by omega)]; exact a, b⟩
theorem Ftp.l (h : Ftp m m') : Fl m m' := ⟨fun a k q => h.1 a k (by omega), h.2⟩
theorem Ftp.rf : Ftp m m := ⟨fun _ _ _ => rfl, rfl⟩
theorem Ftp.s97 {k : Nat} {z : Int} (h : Ftp m m') : Ftp m (setI m' 97 k z) := ⟨fun a j q => by simp only [setI]; rw [if_neg (by omega)]; exact h.1 a j q, h.2⟩
theorem Ftp.s96 {z : Int} (h : Ftp m m') : Ftp m (setI m' 96 1 z) := ⟨fun a j q => by simp only [setI]; rw [if_neg (by omega)]; exact h.1 a j q, h.2⟩
theorem c_X11_end (n : Int) (hR : RS L B ch m) (hX : RX T F I S N m) (hn : rg n) : C Γ mX11_end 1 40 0 0 [vr 96, vi n] SH m (QR L B ch (if 0 ≤ n ∧ n ≤ T.1 then (n.toNat, T.2) else T) F I S N m (if 0 ≤ n ∧ n ≤ T.1 then (T.1 : Int) else -1)) := by
  refine C_of_R rfl (Nat.le_of_ble_eq_true rfl) ?_
  have h1 := hX.2.1.1
  have h2 := hX.1.1.1
  refine R_iload_n 1 rfl dX11_end_0 rfl ?_
  refine R_i2l 2 rfl dX11_end_1 (by first | assumption | exact ⟨by omega, by omega⟩) ?_
  refine R_lconst 3 rfl dX11_end_2 ?_
  refine R_topL (b := 0) rfl ?_
  refine R_aload_n 4 rfl dX11_end_3 rfl ?_
  refine R_getI 1 7 rfl dX11_end_4 rfl rfl fl_X11_59 ?_
  rw [h1]
  refine R_i2l 8 rfl dX11_end_7 (by first | assumption | exact ⟨by omega, by omega⟩) ?_
  refine R_callS_i (M' := mX11_in) 11 rfl dX11_end_8 ml_X11_63 kmX11_in st_X11_in (c_X11_in _ _ _ (by first | assumption | exact ⟨by omega, by omega⟩ | exact rg_L (by assumption)) (by first | assumption | exact ⟨by omega, by omega⟩ | exact rg_L (by assumption)) (by first | assumption | exact ⟨by omega, by omega⟩ | exact rg_L (by assumption))) rfl rfl ⟨Nat.le_of_ble_eq_true rfl, Nat.le_of_ble_eq_true rfl⟩ (Nat.le_of_ble_eq_true rfl) ⟨Nat.le_of_ble_eq_true rfl, Nat.le_of_ble_eq_true rfl⟩ ?_
  refine R_ifp_ne 14 16 rfl rfl dX11_end_11 (fun h11 => ?_) (fun h11 => ?_)
  · refine R_aload_n 17 rfl dX11_end_16 rfl ?_
    refine R_getI 1 20 rfl dX11_end_17 rfl rfl fl_X11_59 ?_
    refine R_istore_n [_, _, _] 21 rfl dX11_end_20 rfl (by decide) ?_
    refine R_aload_n 22 rfl dX11_end_21 rfl ?_
    refine R_iload_n 23 rfl dX11_end_22 rfl ?_
    refine R_putI 1 26 rfl dX11_end_23 rfl rfl fl_X11_59 ?_
    refine R_iload_n 27 rfl dX11_end_26 rfl ?_
    refine R_ireturn dX11_end_27 rfl ?_
    rw [if_pos (by omega), if_pos (by omega)]
    have f : Ftp m (setI m 96 1 n) := Ftp.rf.s96
    refine QI_mk ⟨h1, f.l, hR.tp f, hX.tp f (by simp [setI]; omega) (fun k hk => ?_) ⟨by show n.toNat ≤ 320; omega, fun k hk => hX.1.1.2 k (by have : k < n.toNat := hk; omega)⟩⟩
    have hk2 : k < n.toNat := hk
    simp only [setI]
    rw [if_neg (by omega)]
    exact hX.2.1.2 k (by omega)
  · refine R_iconst 15 rfl dX11_end_14 ?_
    refine R_ireturn dX11_end_15 rfl ?_
    rw [if_neg (by omega), if_neg (by omega)]
    exact QI_mk ⟨rfl, Fl.rf, hR, hX⟩
theorem c_X11_feed (v : Int) (hR : RS L B ch m) (hX : RX T F I S N m) (hv : rgL v) : C Γ mX11_feed 0 0 0 0 [vr 96, vl v] SH m (QR L B ch (if T.1 + 8 ≤ 320 then fdT T v else T) F I S N m (if T.1 + 8 ≤ 320 then (T.1 : Int) + 8 else -3)) := by
  refine C_of_R rfl (Nat.le_of_ble_eq_true rfl) ?_
  have hP := hR.1
  have h1 := hX.2.1.1
  have h2 := hX.1.1.1
  have Lp : T.1 + 8 ≤ 320 → ∀ j : Nat, j ≤ 8 → ∀ mm z, Ftp m mm → mm.1 96 1 = (T.1 : Int) + j → (∀ k, k < T.1 + j → mm.1 97 k = (fdT T v).2 k) → z = 56 - 8 * (j : Int) → R Γ mX11_feed { frames := 0, cells := 0, slots := 0, locals := 0 } 0 0 (QR L B ch (if T.1 + 8 ≤ 320 then fdT T v else T) F I S N m (if T.1 + 8 ≤ 320 then (T.1 : Int) + 8 else -3)) 0 0 19 [some (vr 96), some (vl v), none, some (vi z)] [] SH mm := by
    intro hle
    refine up_ind 8 (fun j hj ih mm z hf h3 h4 hz => ?_)
    have hP := (hR.tp hf).1
    refine R_iload_n 20 rfl dX11_feed_19 rfl ?_
    refine R_if_lt 23 56 rfl rfl dX11_feed_20 (by first | assumption | exact ⟨by omega, by omega⟩) (fun h20 => ?_) (fun h20 => ?_)
    · refine R_aload_n 57 rfl dX11_feed_56 rfl ?_
      refine R_getI 1 60 rfl dX11_feed_57 rfl rfl fl_X11_59 ?_
      refine R_ireturn dX11_feed_60 rfl ?_
      have ej : j = 8 := by omega
      subst ej
      rw [if_pos hle, if_pos hle]
      exact QI_mk ⟨h3, hf.l, hR.tp hf, hX.tp hf (by rw [h3]; simp [fdT]) h4 (fdT_ok hX.1.1 v hle)⟩
    · refine R_aload_n 24 rfl dX11_feed_23 rfl ?_
      refine R_getP 0 27 rfl dX11_feed_24 rfl rfl fl_X11_7 (hP _ _ _ rfl) ?_
      refine R_aload_n 28 rfl dX11_feed_27 rfl ?_
      refine R_getI 1 31 rfl dX11_feed_28 rfl rfl fl_X11_59 ?_
      refine R_lload_n 32 rfl dX11_feed_31 rfl ?_
      refine R_iload_n 33 rfl dX11_feed_32 rfl ?_
      refine R_lshr 34 rfl dX11_feed_33 hv (by omega) (by omega) ?_
      refine R_l2i 35 rfl dX11_feed_34 ?_
      refine R_sipush 38 rfl dX11_feed_35 (by decide) ?_
      refine R_top (b := 2 ^ 8 - 1) (by decide) ?_
      refine R_iandm 8 39 rfl dX11_feed_38 (by decide) ?_
      refine R_iast (T.1 + j) 40 rfl dX11_feed_39 rfl (by first | rfl | omega) (by omega) (by decide) ?_
      refine R_aload_n 41 rfl dX11_feed_40 rfl ?_
      refine R_dup 42 rfl dX11_feed_41 rfl ?_
      refine R_getI 1 45 rfl dX11_feed_42 rfl rfl fl_X11_59 ?_
      refine R_iconst 46 rfl dX11_feed_45 ?_
      refine R_iadd 47 rfl dX11_feed_46 ?_
      refine R_putI 1 50 rfl dX11_feed_47 rfl rfl fl_X11_59 ?_
      refine R_iinc [_, _, _, _] 53 rfl dX11_feed_50 rfl rfl (by decide) ?_
      refine R_goto 19 rfl dX11_feed_53 ?_
      refine ih (by omega) _ _ hf.s97.s96 (by simp [setI]; omega) (fun k hk => ?_) (by omega)
      by_cases e : k = T.1 + j
      · subst e
        simp only [setI]
        simp only [fdT]
        rw [if_neg (by omega), if_pos (by simp), if_neg (by omega), show z.toNat = 56 - 8 * (T.1 + j - T.1) by omega]
        rfl
      · simp only [setI]
        rw [if_neg (by omega), if_neg (by omega)]
        exact h4 k (by omega)
  refine R_aload_n 1 rfl dX11_feed_0 rfl ?_
  refine R_getI 1 4 rfl dX11_feed_1 rfl rfl fl_X11_59 ?_
  refine R_bipush 6 rfl dX11_feed_4 (by decide) ?_
  refine R_iadd 7 rfl dX11_feed_6 ?_
  refine R_sipush 10 rfl dX11_feed_7 (by decide) ?_
  refine R_icmp_le 13 16 rfl rfl dX11_feed_10 (by first | assumption | exact ⟨by omega, by omega⟩) (by first | assumption | exact ⟨by omega, by omega⟩) (fun h10 => ?_) (fun h10 => ?_)
  · refine R_bipush 18 rfl dX11_feed_16 (by decide) ?_
    refine R_istore_n [_, _, _, _] 19 rfl dX11_feed_18 rfl (by decide) ?_
    exact Lp (by omega) 0 (by omega) _ _ Ftp.rf (by rw [h1]; simp) (fun k hk => by rw [hX.2.1.2 k (by omega)]; simp only [fdT]; rw [if_pos (by omega)]) rfl
  · refine R_bipush 15 rfl dX11_feed_13 (by decide) ?_
    refine R_ireturn dX11_feed_15 rfl ?_
    rw [if_neg (by omega), if_neg (by omega)]
    exact QI_mk ⟨rfl, Fl.rf, hR, hX⟩
end
