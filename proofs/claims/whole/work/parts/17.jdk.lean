def bc1 (x : Int32) : Int32 := x - (((x).toUInt32 >>> ((1 : Int32).toUInt32 &&& Int32.toUInt32 31)).toInt32 &&& 1431655765)
def bc2 (x : Int32) : Int32 := (x &&& 858993459) + (((x).toUInt32 >>> ((2 : Int32).toUInt32 &&& Int32.toUInt32 31)).toInt32 &&& 858993459)
def bc3 (x : Int32) : Int32 := (x + ((x).toUInt32 >>> ((4 : Int32).toUInt32 &&& Int32.toUInt32 31)).toInt32) &&& 252645135
def bc4 (x : Int32) : Int32 := x + ((x).toUInt32 >>> ((8 : Int32).toUInt32 &&& Int32.toUInt32 31)).toInt32
def bc5 (x : Int32) : Int32 := x + ((x).toUInt32 >>> ((16 : Int32).toUInt32 &&& Int32.toUInt32 31)).toInt32
def bcF (x : Int32) : Int32 := bc5 (bc4 (bc3 (bc2 (bc1 x)))) &&& 63
theorem bcF_256 : ∀ k : Nat, k < 256 → bcF (iz (k : Int)) = iz ((pop k : Nat) : Int) := by decide +kernel
set_option maxHeartbeats 4000000 in
theorem c_J6_bitCount {Γ : GX} {S : Shp} {m : Mem} (z : Int) (h0 : 0 ≤ z) (h1 : z < 256) : C Γ mJ6_bitCount_0f7a4 0 0 0 0 [vi z] S m (Qi S m (pop z.toNat : Int)) := by
  refine Met.ofW (cc := cJ6_bitCount_0f7a4) (maxL := 1) (ret := some .int) (by decide) rfl ?_
  intro p e s mi args below meth c s₁ B hml hv
  obtain ⟨rfl, hR, hZ, hE⟩ := hv
  have hx := B.exec
  have hb : c.code = cJ6_bitCount_0f7a4 := B.bytes
  have hr := B.returns
  have hts0 := atoms_spec (ws := .code yJ6_bitCount_0f7a4 cJ6_bitCount_0f7a4 1 (some .int) :: TW) B.pre
  have hts : ∀ w ∈ TW, w.before _ s = true := fun w hw => hts0 w (List.mem_cons_of_mem _ hw)
  have hown : s.vm.findClass RJ6 = some mi.cls := findClass_of_methodNamed B.named
  have hlocks := B.notSynchronized
  have hl := lv_entry ([.int (iz z)]) (n := 1) (Nat.le_of_ble_eq_true rfl)
  show W p Γ.1 e _ s mi _ below meth c s.heap [] 0 0 _ (entryFrame mi ([Value.int (iz z)] : List Value).toArray 1)
  rw [lg_entry_eq]
  generalize (lg_sl ([.int (iz z)]) ++ List.replicate (1 - (lg_sl ([.int (iz z)])).length) Slot.unset).toArray = ls at hl ⊢
  have hl : lv_has ls 1 [(0, .int (iz z))] := hl
  refine lv_iload_n hx hb dJ6_bitCount_0f7a4_0 rfl (lv_at hl 0 rfl) ?_
  refine lv_iload_n hx hb dJ6_bitCount_0f7a4_1 rfl (lv_at hl 0 rfl) ?_
  refine lv_iconst (v := 1) hx hb dJ6_bitCount_0f7a4_2 (by decide) ?_
  refine lv_iushr hx hb dJ6_bitCount_0f7a4_3 rfl ?_
  refine lv_ldcw hx hb hown (hts _ kc_J6_265) dJ6_bitCount_0f7a4_4 ?_
  refine lv_iand hx hb dJ6_bitCount_0f7a4_7 ?_
  refine lv_isub hx hb dJ6_bitCount_0f7a4_8 ?_
  refine lv_topi (fun y1 ey1 => ?_)
  refine lv_istore_n (lv' := [(0, .int y1)]) hx hb dJ6_bitCount_0f7a4_9 rfl hl (by decide) rfl (fun ls hl => ?_)
  refine lv_iload_n hx hb dJ6_bitCount_0f7a4_10 rfl (lv_at hl 0 rfl) ?_
  refine lv_ldcw hx hb hown (hts _ kc_J6_266) dJ6_bitCount_0f7a4_11 ?_
  refine lv_iand hx hb dJ6_bitCount_0f7a4_14 ?_
  refine lv_iload_n hx hb dJ6_bitCount_0f7a4_15 rfl (lv_at hl 0 rfl) ?_
  refine lv_iconst (v := 2) hx hb dJ6_bitCount_0f7a4_16 (by decide) ?_
  refine lv_iushr hx hb dJ6_bitCount_0f7a4_17 rfl ?_
  refine lv_ldcw hx hb hown (hts _ kc_J6_266) dJ6_bitCount_0f7a4_18 ?_
  refine lv_iand hx hb dJ6_bitCount_0f7a4_21 ?_
  refine lv_iadd hx hb dJ6_bitCount_0f7a4_22 ?_
  refine lv_topi (fun y2 ey2 => ?_)
  refine lv_istore_n (lv' := [(0, .int y2)]) hx hb dJ6_bitCount_0f7a4_23 rfl hl (by decide) rfl (fun ls hl => ?_)
  refine lv_iload_n hx hb dJ6_bitCount_0f7a4_24 rfl (lv_at hl 0 rfl) ?_
  refine lv_iload_n hx hb dJ6_bitCount_0f7a4_25 rfl (lv_at hl 0 rfl) ?_
  refine lv_iconst (v := 4) hx hb dJ6_bitCount_0f7a4_26 (by decide) ?_
  refine lv_iushr hx hb dJ6_bitCount_0f7a4_27 rfl ?_
  refine lv_iadd hx hb dJ6_bitCount_0f7a4_28 ?_
  refine lv_ldcw hx hb hown (hts _ kc_J6_267) dJ6_bitCount_0f7a4_29 ?_
  refine lv_iand hx hb dJ6_bitCount_0f7a4_32 ?_
  refine lv_topi (fun y3 ey3 => ?_)
  refine lv_istore_n (lv' := [(0, .int y3)]) hx hb dJ6_bitCount_0f7a4_33 rfl hl (by decide) rfl (fun ls hl => ?_)
  refine lv_iload_n hx hb dJ6_bitCount_0f7a4_34 rfl (lv_at hl 0 rfl) ?_
  refine lv_iload_n hx hb dJ6_bitCount_0f7a4_35 rfl (lv_at hl 0 rfl) ?_
  refine lv_bipush (v := 8) hx hb dJ6_bitCount_0f7a4_36 (by decide) ?_
  refine lv_iushr hx hb dJ6_bitCount_0f7a4_38 rfl ?_
  refine lv_iadd hx hb dJ6_bitCount_0f7a4_39 ?_
  refine lv_topi (fun y4 ey4 => ?_)
  refine lv_istore_n (lv' := [(0, .int y4)]) hx hb dJ6_bitCount_0f7a4_40 rfl hl (by decide) rfl (fun ls hl => ?_)
  refine lv_iload_n hx hb dJ6_bitCount_0f7a4_41 rfl (lv_at hl 0 rfl) ?_
  refine lv_iload_n hx hb dJ6_bitCount_0f7a4_42 rfl (lv_at hl 0 rfl) ?_
  refine lv_bipush (v := 16) hx hb dJ6_bitCount_0f7a4_43 (by decide) ?_
  refine lv_iushr hx hb dJ6_bitCount_0f7a4_45 rfl ?_
  refine lv_iadd hx hb dJ6_bitCount_0f7a4_46 ?_
  refine lv_topi (fun y5 ey5 => ?_)
  refine lv_istore_n (lv' := [(0, .int y5)]) hx hb dJ6_bitCount_0f7a4_47 rfl hl (by decide) rfl (fun ls hl => ?_)
  refine lv_iload_n hx hb dJ6_bitCount_0f7a4_48 rfl (lv_at hl 0 rfl) ?_
  refine lv_bipush (v := 63) hx hb dJ6_bitCount_0f7a4_49 (by decide) ?_
  refine lv_iand hx hb dJ6_bitCount_0f7a4_51 ?_
  have e5 : y5 &&& 63 = bcF (iz z) := by rw [ey5, ey4, ey3, ey2, ey1]; rfl
  rw [e5]
  obtain ⟨k, rfl⟩ : ∃ k : Nat, z = (k : Int) := ⟨z.toNat, by omega⟩
  rw [bcF_256 k (by omega)]
  exact W.iret (v := iz ((pop k : Nat) : Int)) hx hb hr (fun t ht hW => ⟨⟨some (vi ((pop k : Nat) : Int)), S, m, rfl, Qi_mk (by rw [Int.toNat_natCast]), ht ▸ hR, hZ⟩, va_S.rf.F ht⟩) (fun q hq => by cases hq) dJ6_bitCount_0f7a4_52 hlocks
theorem c_J9_max {Γ : GX} {S : Shp} {m : Mem} (a b : Int) (ha : rg a) (hb : rg b) : C Γ mJ9_max_7cf53 0 0 0 0 [vi a, vi b] S m (Qi S m (max a b)) := by
  refine C_of_R (by decide) (Nat.le_of_ble_eq_true rfl) ?_
  refine R_iload_n 1 rfl dJ9_max_7cf53_0 rfl ?_
  refine R_iload_n 2 rfl dJ9_max_7cf53_1 rfl ?_
  refine R_icmp_lt 5 9 rfl rfl dJ9_max_7cf53_2 (by first | assumption | exact ⟨by omega, by omega⟩) (by first | assumption | exact ⟨by omega, by omega⟩) (fun h2 => ?_) (fun h2 => ?_)
  · refine R_iload_n 10 rfl dJ9_max_7cf53_9 rfl ?_
    refine R_ireturn dJ9_max_7cf53_10 rfl ?_
    exact Qi_mk (by first | rfl | exact pI_1 (by omega) | exact pI_0 (by omega) | omega)
  · refine R_iload_n 6 rfl dJ9_max_7cf53_5 rfl ?_
    refine R_goto 10 rfl dJ9_max_7cf53_6 ?_
    refine R_ireturn dJ9_max_7cf53_10 rfl ?_
    exact Qi_mk (by first | rfl | exact pI_1 (by omega) | exact pI_0 (by omega) | omega)
theorem c_J9_min {Γ : GX} {S : Shp} {m : Mem} (a b : Int) (ha : rg a) (hb : rg b) : C Γ mJ9_min_7cf53 0 0 0 0 [vi a, vi b] S m (Qi S m (min a b)) := by
  refine C_of_R (by decide) (Nat.le_of_ble_eq_true rfl) ?_
  refine R_iload_n 1 rfl dJ9_min_7cf53_0 rfl ?_
  refine R_iload_n 2 rfl dJ9_min_7cf53_1 rfl ?_
  refine R_icmp_gt 5 9 rfl rfl dJ9_min_7cf53_2 (by first | assumption | exact ⟨by omega, by omega⟩) (by first | assumption | exact ⟨by omega, by omega⟩) (fun h2 => ?_) (fun h2 => ?_)
  · refine R_iload_n 10 rfl dJ9_min_7cf53_9 rfl ?_
    refine R_ireturn dJ9_min_7cf53_10 rfl ?_
    exact Qi_mk (by first | rfl | exact pI_1 (by omega) | exact pI_0 (by omega) | omega)
  · refine R_iload_n 6 rfl dJ9_min_7cf53_5 rfl ?_
    refine R_goto 10 rfl dJ9_min_7cf53_6 ?_
    refine R_ireturn dJ9_min_7cf53_10 rfl ?_
    exact Qi_mk (by first | rfl | exact pI_1 (by omega) | exact pI_0 (by omega) | omega)
theorem c_J9_abs {Γ : GX} {S : Shp} {m : Mem} (a : Int) (ha : rgL a) : C Γ mJ9_abs_067f4 0 0 0 0 [vl a] S m (Ql S m (if 0 ≤ a then a else -a)) := by
  refine C_of_R (by decide) (Nat.le_of_ble_eq_true rfl) ?_
  refine R_lload_n 1 rfl dJ9_abs_067f4_0 rfl ?_
  refine R_lconst 2 rfl dJ9_abs_067f4_1 ?_
  refine R_lif_ge 3 6 11 rfl rfl rfl dJ9_abs_067f4_2 dJ9_abs_067f4_3 (by first | assumption | exact ⟨by omega, by omega⟩ | exact rg_L (by assumption)) (by first | assumption | exact ⟨by omega, by omega⟩ | exact rg_L (by assumption)) (fun h3 => ?_) (fun h3 => ?_)
  · refine R_lload_n 12 rfl dJ9_abs_067f4_11 rfl ?_
    refine R_lreturn dJ9_abs_067f4_12 rfl ?_
    exact Ql_mk (by split <;> omega)
  · refine R_lload_n 7 rfl dJ9_abs_067f4_6 rfl ?_
    refine R_lneg 8 rfl dJ9_abs_067f4_7 ?_
    refine R_goto 12 rfl dJ9_abs_067f4_8 ?_
    refine R_lreturn dJ9_abs_067f4_12 rfl ?_
    exact Ql_mk (by split <;> omega)
theorem c_X10_bitsApart {Γ : GX} {S : Shp} {m : Mem} (a b : Int) (ha : 0 ≤ a ∧ a ≤ 255) (hb : 0 ≤ b ∧ b ≤ 255) : C Γ mX10_bitsApart 1 40 0 0 [vi a, vi b] S m (Qi S m (ap a b)) := by
  refine C_of_R rfl (Nat.le_of_ble_eq_true rfl) ?_
  obtain ⟨x, rfl⟩ : ∃ x : Nat, a = (x : Int) := ⟨a.toNat, by omega⟩
  obtain ⟨y, rfl⟩ : ∃ y : Nat, b = (y : Int) := ⟨b.toNat, by omega⟩
  have hxy : x ^^^ y < 2 ^ 8 := Nat.xor_lt_two_pow (by omega) (by omega)
  refine R_iload_n 1 rfl dX10_bitsApart_0 rfl ?_
  refine R_iload_n 2 rfl dX10_bitsApart_1 rfl ?_
  refine R_ixor 3 rfl dX10_bitsApart_2 ?_
  refine R_callS_i (M' := mJ6_bitCount_0f7a4) 6 rfl dX10_bitsApart_3 ml_X10_398 kmJ6_bitCount_0f7a4 st_J6_bitCount_0f7a4 (c_J6_bitCount _ (by omega) (by omega)) rfl rfl ⟨Nat.le_of_ble_eq_true rfl, Nat.le_of_ble_eq_true rfl⟩ (Nat.le_of_ble_eq_true rfl) ⟨Nat.le_of_ble_eq_true rfl, Nat.le_of_ble_eq_true rfl⟩ ?_
  refine R_ireturn dX10_bitsApart_6 rfl ?_
  exact Qi_mk (by unfold ap; simp)
