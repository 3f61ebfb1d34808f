/-! the reference's reader -/
def MB (T : Tp) (m : Mem) : Prop := RP m ∧ m.1 96 1 = (T.1 : Int) ∧ (∀ k, k < T.1 → m.1 97 k = T.2 k) ∧ TpOk T ∧ RKc m
def spd (s : Nat) : Nat := s % 16 * 8 + s / 16 * 1024
def MLd (m : Mem) (L : Ld) : Prop := (∀ j, j < 11 → m.1 104 j = L.1 j) ∧ (∀ p : Nat, (p : Int) < L.1 0 → ∀ w, w < 4 → m.1 105 (4 * p + w) = L.2.1 w p) ∧ (∀ k : Nat, (k : Int) < L.1 1 → ∀ w, w < 5 → m.1 106 (5 * k + w) = L.2.2 w k)
def MCa (T : Tp) (m : Mem) (st : St) : Prop := m.1 96 3 = 0 ∧ m.1 96 5 = (st.1 : Int) ∧ m.1 96 6 = (st.2.1 : Int) ∧ m.1 96 7 = (st.2.2.1 : Int) ∧ (st.2.2.1 = 2 → m.1 96 8 = nv T st.2.1 (st.1 - st.2.1)) ∧ m.1 96 18 = (spd st.2.2.2.1 : Int) ∧ Vs T st ∧ MLd m (sL st) ∧ LdB (sL st)
def MCd (m : Mem) (e : Int × Nat) : Prop := m.1 96 3 = e.1 ∧ m.1 96 4 = (e.2 : Int) ∧ 1 ≤ e.1 ∧ e.1 ≤ 5
def MCx (T : Tp) (m : Mem) (x : PX St) : Prop := match x with
  | .inl e => MCd m e
  | .inr st => MCa T m st
/-- what the next token changes -/
def Fn (m m' : Mem) : Prop := (∀ a k, ¬ (a = 96 ∧ 3 ≤ k ∧ k ≤ 8) → m'.1 a k = m.1 a k) ∧ m'.2 = m.2
section
variable {Γ : GX} {m m' m'' : Mem} {T : Tp} {L : Ld} {x : PX St}
theorem Fn.rf : Fn m m := ⟨fun _ _ _ => rfl, rfl⟩
theorem Fn.tr (h : Fn m m') (h' : Fn m' m'') : Fn m m'' := ⟨fun a k q => (h'.1 a k q).trans (h.1 a k q), h'.2.trans h.2⟩
theorem Fn.set {k : Nat} {z : Int} (h : Fn m m') (hk : 3 ≤ k ∧ k ≤ 8) : Fn m (setI m' 96 k z) := ⟨fun a j q => by
  simp only [setI]
  rw [if_neg (by omega)]
  exact h.1 a j q, h.2⟩
theorem MB.eq (h : MB T m) (hf : ∀ a k, (a = 96 ∧ k = 1) ∨ (97 ≤ a ∧ a ≤ 100) → m'.1 a k = m.1 a k) (h2 : m'.2 = m.2) : MB T m' := by
  obtain ⟨h1, h3, h4, h5, h6, h7, h8⟩ := h
  exact ⟨fun a k r q => by rw [h2]; exact h1 a k r q, by rw [hf 96 1 (by omega)]; exact h3, fun k hk => by rw [hf 97 k (by omega)]; exact h4 k hk, h5, fun j hj => by rw [hf 100 j (by omega)]; exact h6 j hj, fun j hj => by rw [hf 98 j (by omega)]; exact h7 j hj, fun j hj => by rw [hf 99 j (by omega)]; exact h8 j hj⟩
theorem MB.fn (h : MB T m) (hf : Fn m m') : MB T m' := h.eq (fun a k q => hf.1 a k (by omega)) hf.2
theorem MLd.eq (h : MLd m L) (e : ∀ a k, 104 ≤ a → a ≤ 106 → m'.1 a k = m.1 a k) : MLd m' L := ⟨fun j hj => by rw [e _ _ (by omega) (by omega)]; exact h.1 j hj, fun p hp w hw => by rw [e _ _ (by omega) (by omega)]; exact h.2.1 p hp w hw, fun p hp w hw => by rw [e _ _ (by omega) (by omega)]; exact h.2.2 p hp w hw⟩
theorem MLd.fn (h : MLd m L) (hf : Fn m m') : MLd m' L := h.eq (fun a k q1 q2 => hf.1 a k (by omega))
def btA (T : Tp) (i : Nat) : Int := if i < T.1 then T.2 i else -4
theorem btA_in {i : Nat} (h : i < T.1) : btA T i = T.2 i := if_pos h
theorem btA_out {i : Nat} (h : T.1 ≤ i) : btA T i = -4 := if_neg (by omega)
theorem btA_rg {i : Nat} (h : TpOk T) : -4 ≤ btA T i ∧ btA T i ≤ 255 := by
  by_cases q : i < T.1
  · have := h.2 i q
    rw [btA_in q]
    omega
  · rw [btA_out (by omega)]
    omega
theorem c_X11_byteAt (z : Int) (i : Nat) (hb : MB T m) (hz : z = (i : Int)) (hi : i ≤ 999) : C Γ mX11_byteAt 0 0 0 0 [vr 96, vi z] SH m (Qi SH m (btA T i)) := by
  refine C_of_R rfl (Nat.le_of_ble_eq_true rfl) ?_
  have hP := hb.1
  have h1 := hb.2.1
  have h2 := hb.2.2.2.1.1
  refine R_iload_n 1 rfl dX11_byteAt_0 rfl ?_
  refine R_aload_n 2 rfl dX11_byteAt_1 rfl ?_
  refine R_getI 1 5 rfl dX11_byteAt_2 rfl rfl fl_X11_59 ?_
  refine R_icmp_ge 8 17 rfl rfl dX11_byteAt_5 (by first | assumption | exact ⟨by omega, by omega⟩) (by first | assumption | exact ⟨by omega, by omega⟩) (fun h5 => ?_) (fun h5 => ?_)
  · refine R_bipush 19 rfl dX11_byteAt_17 (by decide) ?_
    refine R_ireturn dX11_byteAt_19 rfl ?_
    first
    | exact Qi_mk (by rw [btA_in (by omega)]; exact hb.2.2.1 i (by omega))
    | exact Qi_mk (btA_out (by omega)).symm
  · refine R_aload_n 9 rfl dX11_byteAt_8 rfl ?_
    refine R_getP 0 12 rfl dX11_byteAt_9 rfl rfl fl_X11_7 (hP _ _ _ rfl) ?_
    refine R_iload_n 13 rfl dX11_byteAt_12 rfl ?_
    refine R_iald i 14 rfl dX11_byteAt_13 rfl (by first | rfl | omega) (by omega) (by decide) ?_
    refine R_goto 19 rfl dX11_byteAt_14 ?_
    refine R_ireturn dX11_byteAt_19 rfl ?_
    first
    | exact Qi_mk (by rw [btA_in (by omega)]; exact hb.2.2.1 i (by omega))
    | exact Qi_mk (btA_out (by omega)).symm
theorem c_X11_fails0 (w : Int) (h3 : m.1 96 3 = 0) : C Γ mX11_fails 0 0 0 0 [vr 96, vi w] SH m (Qv SH (setI (setI m 96 3 w) 96 4 (m.1 96 6))) := by
  refine C_of_R rfl (Nat.le_of_ble_eq_true rfl) ?_
  refine R_aload_n 1 rfl dX11_fails_0 rfl ?_
  refine R_getI 3 4 rfl dX11_fails_1 rfl rfl fl_X11_67 ?_
  refine R_if_ne 7 20 rfl rfl dX11_fails_4 (by first | assumption | exact ⟨by omega, by omega⟩) (fun h4 => ?_) (fun h4 => ?_)
  · refine R_return dX11_fails_20 rfl ?_
    first | exact Qv_mk rfl | (exfalso; omega)
  · refine R_aload_n 8 rfl dX11_fails_7 rfl ?_
    refine R_iload_n 9 rfl dX11_fails_8 rfl ?_
    refine R_putI 3 12 rfl dX11_fails_9 rfl rfl fl_X11_67 ?_
    refine R_aload_n 13 rfl dX11_fails_12 rfl ?_
    refine R_aload_n 14 rfl dX11_fails_13 rfl ?_
    refine R_getI 6 17 rfl dX11_fails_14 rfl rfl fl_X11_70 ?_
    refine R_putI 4 20 rfl dX11_fails_17 rfl rfl fl_X11_73 ?_
    refine R_return dX11_fails_20 rfl ?_
    first | exact Qv_mk rfl | (exfalso; omega)
theorem c_X11_fails1 (w : Int) (h3 : 1 ≤ m.1 96 3 ∧ m.1 96 3 ≤ 5) : C Γ mX11_fails 0 0 0 0 [vr 96, vi w] SH m (Qv SH m) := by
  refine C_of_R rfl (Nat.le_of_ble_eq_true rfl) ?_
  refine R_aload_n 1 rfl dX11_fails_0 rfl ?_
  refine R_getI 3 4 rfl dX11_fails_1 rfl rfl fl_X11_67 ?_
  refine R_if_ne 7 20 rfl rfl dX11_fails_4 (by first | assumption | exact ⟨by omega, by omega⟩) (fun h4 => ?_) (fun h4 => ?_)
  · refine R_return dX11_fails_20 rfl ?_
    exact Qv_mk rfl
  · exfalso; omega
theorem c_X11_fails (w : Int) (x : PX St) (hx : MCx T m x) (hw : 1 ≤ w ∧ w ≤ 5) : C Γ mX11_fails 0 0 0 0 [vr 96, vi w] SH m (QV SH (fun m' => Fn m m' ∧ MCx T m' (rfz x w))) := by
  cases x with
  | inl e =>
    obtain ⟨h1, h2, h3, h4⟩ := id hx
    refine C_wk (c_X11_fails1 w (by rw [h1]; omega)) (fun r S' m' q => ?_)
    obtain ⟨q1, q2, q3⟩ := q
    subst q3
    exact ⟨q1, q2, Fn.rf, hx⟩
  | inr st =>
    obtain ⟨g3, g5, g6, g7, g8, g18, v, -⟩ := hx
    refine C_wk (c_X11_fails0 w g3) (fun r S' m' q => ?_)
    obtain ⟨q1, q2, q3⟩ := q
    subst q3
    exact ⟨q1, q2, (Fn.rf.set (by omega)).set (by omega), by simp [setI], by simp [setI]; exact g6, hw.1, hw.2⟩
end
