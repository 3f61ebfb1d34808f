def bc1 (x : Int32) : Int32 := x - (((x).toUInt32 >>> ((1 : Int32).toUInt32 &&& Int32.toUInt32 31)).toInt32 &&& 1431655765)
def bc2 (x : Int32) : Int32 := (x &&& 858993459) + (((x).toUInt32 >>> ((2 : Int32).toUInt32 &&& Int32.toUInt32 31)).toInt32 &&& 858993459)
def bc3 (x : Int32) : Int32 := (x + ((x).toUInt32 >>> ((4 : Int32).toUInt32 &&& Int32.toUInt32 31)).toInt32) &&& 252645135
def bc4 (x : Int32) : Int32 := x + ((x).toUInt32 >>> ((8 : Int32).toUInt32 &&& Int32.toUInt32 31)).toInt32
def bc5 (x : Int32) : Int32 := x + ((x).toUInt32 >>> ((16 : Int32).toUInt32 &&& Int32.toUInt32 31)).toInt32
def bcF (x : Int32) : Int32 := bc5 (bc4 (bc3 (bc2 (bc1 x)))) &&& 63
theorem bcF_256 : ∀ k : Nat, k < 256 → bcF (iz (k : Int)) = iz ((pop k : Nat) : Int) := by decide +kernel
set_option maxHeartbeats 4000000 in
theorem c_J6_bitCount {Γ : GX} {S : Shp} {m : Mem} (z : Int) (h0 : 0 ≤ z) (h1 : z < 256) : C Γ mJ6_bitCount_0f7a4 0 0 0 0 [vi z] S m (Qi S m (pop z.toNat : Int)) := by
  refine Met.ofW (cc := cJ6_bitCount_0f7a4) (maxL := 1) (ret := some .int) (by decide) rfl ?_
  intro p e s mi args below meth c s₁ B hml hv
  obtain ⟨rfl, hR, hZ, hE⟩ := hv
  have hx := B.exec
  have hb : c.code = cJ6_bitCount_0f7a4 := B.bytes
  have hr := B.returns
  have hts0 := atoms_spec (ws := .code yJ6_bitCount_0f7a4 cJ6_bitCount_0f7a4 1 (some .int) :: TW) B.pre
  have hts : ∀ w ∈ TW, w.before _ s = true := fun w hw => hts0 w (List.mem_cons_of_mem _ hw)
  have hown : s.vm.findClass RJ6 = some mi.cls := findClass_of_methodNamed B.named
  have hlocks := B.notSynchronized
  have hl := lv_entry ([.int (iz z)]) (n := 1) (Nat.le_of_ble_eq_true rfl)
  show W p Γ.1 e _ s mi _ below meth c s.heap [] 0 0 _ (entryFrame mi ([Value.int (iz z)] : List Value).toArray 1)
  rw [lg_entry_eq]
  generalize (lg_sl ([.int (iz z)]) ++ List.replicate (1 - (lg_sl ([.int (iz z)])).length) Slot.unset).toArray = ls at hl ⊢
  have hl : lv_has ls 1 [(0, .int (iz z))] := hl
  refine lv_iload_n hx hb dJ6_bitCount_0f7a4_0 rfl (lv_at hl 0 rfl) ?_
  refine lv_iload_n hx hb dJ6_bitCount_0f7a4_1 rfl (lv_at hl 0 rfl) ?_
  refine lv_iconst (v := 1) hx hb dJ6_bitCount_0f7a4_2 (by decide) ?_
  refine lv_iushr hx hb dJ6_bitCount_0f7a4_3 rfl ?_
  refine lv_ldcw hx hb hown (hts _ kc_J6_265) dJ6_bitCount_0f7a4_4 ?_
  refine lv_iand hx hb dJ6_bitCount_0f7a4_7 ?_
  refine lv_isub hx hb dJ6_bitCount_0f7a4_8 ?_
  refine lv_topi (fun y1 ey1 => ?_)
  refine lv_istore_n (lv' := [(0, .int y1)]) hx hb dJ6_bitCount_0f7a4_9 rfl hl (by decide) rfl (fun ls hl => ?_)
  refine lv_iload_n hx hb dJ6_bitCount_0f7a4_10 rfl (lv_at hl 0 rfl) ?_
  refine lv_ldcw hx hb hown (hts _ kc_J6_266) dJ6_bitCount_0f7a4_11 ?_
  refine lv_iand hx hb dJ6_bitCount_0f7a4_14 ?_
  refine lv_iload_n hx hb dJ6_bitCount_0f7a4_15 rfl (lv_at hl 0 rfl) ?_
  refine lv_iconst (v := 2) hx hb dJ6_bitCount_0f7a4_16 (by decide) ?_
  refine lv_iushr hx hb dJ6_bitCount_0f7a4_17 rfl ?_
  refine lv_ldcw hx hb hown (hts _ kc_J6_266) dJ6_bitCount_0f7a4_18 ?_
  refine lv_iand hx hb dJ6_bitCount_0f7a4_21 ?_
  refine lv_iadd hx hb dJ6_bitCount_0f7a4_22 ?_
  refine lv_topi (fun y2 ey2 => ?_)
  refine lv_istore_n (lv' := [(0, .int y2)]) hx hb dJ6_bitCount_0f7a4_23 rfl hl (by decide) rfl (fun ls hl => ?_)
  refine lv_iload_n hx hb dJ6_bitCount_0f7a4_24 rfl (lv_at hl 0 rfl) ?_
  refine lv_iload_n hx hb dJ6_bitCount_0f7a4_25 rfl (lv_at hl 0 rfl) ?_
  refine lv_iconst (v := 4) hx hb dJ6_bitCount_0f7a4_26 (by decide) ?_
  refine lv_iushr hx hb dJ6_bitCount_0f7a4_27 rfl ?_
  refine lv_iadd hx hb dJ6_bitCount_0f7a4_28 ?_
  refine lv_ldcw hx hb hown (hts _ kc_J6_267) dJ6_bitCount_0f7a4_29 ?_
  refine lv_iand hx hb dJ6_bitCount_0f7a4_32 ?_
  refine lv_topi (fun y3 ey3 => ?_)
  refine lv_istore_n (lv' := [(0, .int y3)]) hx hb dJ6_bitCount_0f7a4_33 rfl hl (by decide) rfl (fun ls hl => ?_)
  refine lv_iload_n hx hb dJ6_bitCount_0f7a4_34 rfl (lv_at hl 0 rfl) ?_
  refine lv_iload_n hx hb dJ6_bitCount_0f7a4_35 rfl (lv_at hl 0 rfl) ?_
  refine lv_bipush (v := 8) hx hb dJ6_bitCount_0f7a4_36 (by decide) ?_
  refine lv_iushr hx hb dJ6_bitCount_0f7a4_38 rfl ?_
  refine lv_iadd hx hb dJ6_bitCount_0f7a4_39 ?_
  refine lv_topi (fun y4 ey4 => ?_)
  refine lv_istore_n (lv' := [(0, .int y4)]) hx hb dJ6_bitCount_0f7a4_40 rfl hl (by decide) rfl (fun ls hl => ?_)
  refine lv_iload_n hx hb dJ6_bitCount_0f7a4_41 rfl (lv_at hl 0 rfl) ?_
  refine lv_iload_n hx hb dJ6_bitCount_0f7a4_42 rfl (lv_at hl 0 rfl) ?_
  refine lv_bipush (v := 16) hx hb dJ6_bitCount_0f7a4_43 (by decide) ?_
  refine lv_iushr hx hb dJ6_bitCount_0f7a4_45 rfl ?_
  refine lv_iadd hx hb dJ6_bitCount_0f7a4_46 ?_
  refine lv_topi (fun y5 ey5 => ?_)
  refine lv_istore_n (lv' := [(0, .int y5)]) hx hb dJ6_bitCount_0f7a4_47 rfl hl (by decide) rfl (fun ls hl => ?_)
  refine lv_iload_n hx hb dJ6_bitCount_0f7a4_48 rfl (lv_at hl 0 rfl) ?_
  refine lv_bipush (v := 63) hx hb dJ6_bitCount_0f7a4_49 (by decide) ?_
  refine lv_iand hx hb dJ6_bitCount_0f7a4_51 ?_
  have e5 : y5 &&& 63 = bcF (iz z) := by rw [ey5, ey4, ey3, ey2, ey1]; rfl
  rw [e5]
  obtain ⟨k, rfl⟩ : ∃ k : Nat, z = (k : Int) := ⟨z.toNat, by omega⟩
  rw [bcF_256 k (by omega)]
  exact W.iret (v := iz ((pop k : Nat) : Int)) hx hb hr (fun t ht hW => ⟨⟨some (vi ((pop k : Nat) : Int)), S, m, rfl, Qi_mk (by rw [Int.toNat_natCast]), ht ▸ hR, hZ⟩, va_S.rf.F ht⟩) (fun q hq => by cases hq) dJ6_bitCount_0f7a4_52 hlocks
section MATH
variable {Γ : GX} {M : MD} {rm : Room} {mc ms : Nat} {Q : Option AV → Shp → Mem → Prop} {k n pc : Nat} {loc : List (Option AV)} {st : List AV} {S : Shp} {m : Mem} {ix : Nat}
theorem R_max {a b : Int} (q : Nat) (hq : pc + 3 = q) (hd : decode M.2.1 pc = .ok (.invokestatic ix, 3)) (hw : Cond.methodLink M.1.cls ix yJ9_max_7cf53 ∈ TW) (ha : rg a) (hb : rg b) (hrm : 1 ≤ rm.frames ∧ (st.map catN).sum + 13 ≤ rm.locals) (hal : k ≤ rm.cells ∧ n ≤ rm.slots) (kk : R Γ M rm mc ms Q k n q loc (vi (max a b) :: st) S m) : R Γ M rm mc ms Q k n pc loc (vi b :: vi a :: st) S m := by
  subst hq
  intro p e s mi args below meth c H locs ls hc hZ hS hH hl
  have hts := hc.2.2.2.2.2.2.1
  refine va_mmax (x := iz a) (y := iz b) hc.1 hc.2.1 (hc.2.2.1.trans hl.1.symm) hc.2.2.2.2.2.1 (hts _ hw) (hts _ st_J9_max_7cf53) (hts _ ini_J9) (hts _ cd_J9_max_7cf53) hrm.1 (by rw [cat_sum]; exact hrm.2) hal.1 hal.2 hd ?_
  have e9 : (if iz a < iz b then iz b else iz a) = iz (max a b) := by
    by_cases h : a < b
    · rw [if_pos ((iz_lt ha hb).mpr h), show max a b = b by omega]
    · rw [if_neg (fun z => h ((iz_lt ha hb).mp z)), show max a b = a by omega]
  rw [e9]
  exact kk p e s mi args below meth c H locs ls hc hZ hS hH hl
theorem R_min {a b : Int} (q : Nat) (hq : pc + 3 = q) (hd : decode M.2.1 pc = .ok (.invokestatic ix, 3)) (hw : Cond.methodLink M.1.cls ix yJ9_min_7cf53 ∈ TW) (ha : rg a) (hb : rg b) (hrm : 1 ≤ rm.frames ∧ (st.map catN).sum + 13 ≤ rm.locals) (hal : k ≤ rm.cells ∧ n ≤ rm.slots) (kk : R Γ M rm mc ms Q k n q loc (vi (min a b) :: st) S m) : R Γ M rm mc ms Q k n pc loc (vi b :: vi a :: st) S m := by
  subst hq
  intro p e s mi args below meth c H locs ls hc hZ hS hH hl
  have hts := hc.2.2.2.2.2.2.1
  refine va_mmin (x := iz a) (y := iz b) hc.1 hc.2.1 (hc.2.2.1.trans hl.1.symm) hc.2.2.2.2.2.1 (hts _ hw) (hts _ st_J9_min_7cf53) (hts _ ini_J9) (hts _ cd_J9_min_7cf53) hrm.1 (by rw [cat_sum]; exact hrm.2) hal.1 hal.2 hd ?_
  have e9 : (if iz b < iz a then iz b else iz a) = iz (min a b) := by
    by_cases h : b < a
    · rw [if_pos ((iz_lt hb ha).mpr h), show min a b = b by omega]
    · rw [if_neg (fun z => h ((iz_lt hb ha).mp z)), show min a b = a by omega]
  rw [e9]
  exact kk p e s mi args below meth c H locs ls hc hZ hS hH hl
theorem R_labs {a : Int} (q : Nat) (hq : pc + 3 = q) (hd : decode M.2.1 pc = .ok (.invokestatic ix, 3)) (hw : Cond.methodLink M.1.cls ix yJ9_abs_067f4 ∈ TW) (ha : rgL a) (hrm : 1 ≤ rm.frames ∧ (st.map catN).sum + 13 ≤ rm.locals) (hal : k ≤ rm.cells ∧ n ≤ rm.slots) (kk : R Γ M rm mc ms Q k n q loc (vl (if 0 ≤ a then a else -a) :: st) S m) : R Γ M rm mc ms Q k n pc loc (vl a :: st) S m := by
  subst hq
  intro p e s mi args below meth c H locs ls hc hZ hS hH hl
  have hts := hc.2.2.2.2.2.2.1
  refine va_mabs_long (x := lz a) hc.1 hc.2.1 (hc.2.2.1.trans hl.1.symm) hc.2.2.2.2.2.1 (hts _ hw) (hts _ st_J9_abs_067f4) (hts _ ini_J9) (hts _ cd_J9_abs_067f4) hrm.1 (by rw [cat_sum]; exact hrm.2) hal.1 hal.2 hd ?_
  have e9 : (if 0 < lz a then lz a else -(lz a)) = lz (if 0 ≤ a then a else -a) := by
    have h1 : 0 < lz a ↔ 0 < a := lz_lt (a := 0) ⟨by omega, by omega⟩ ha
    by_cases h : 0 < a
    · rw [if_pos (h1.mpr h), if_pos (by omega)]
    · rw [if_neg (fun z => h (h1.mp z))]
      by_cases h0 : a = 0
      · subst h0; rfl
      · rw [if_neg (by omega), lz_neg]
  rw [e9]
  exact kk p e s mi args below meth c H locs ls hc hZ hS hH hl
end MATH
theorem c_X10_bitsApart {Γ : GX} {S : Shp} {m : Mem} (a b : Int) (ha : 0 ≤ a ∧ a ≤ 255) (hb : 0 ≤ b ∧ b ≤ 255) : C Γ mX10_bitsApart 1 40 0 0 [vi a, vi b] S m (Qi S m (ap a b)) := by
  refine C_of_R rfl (Nat.le_of_ble_eq_true rfl) ?_
  obtain ⟨x, rfl⟩ : ∃ x : Nat, a = (x : Int) := ⟨a.toNat, by omega⟩
  obtain ⟨y, rfl⟩ : ∃ y : Nat, b = (y : Int) := ⟨b.toNat, by omega⟩
  have hxy : x ^^^ y < 2 ^ 8 := Nat.xor_lt_two_pow (by omega) (by omega)
  refine R_iload_n 1 rfl dX10_bitsApart_0 rfl ?_
  refine R_iload_n 2 rfl dX10_bitsApart_1 rfl ?_
  refine R_ixor 3 rfl dX10_bitsApart_2 ?_
  refine R_callS_i (M' := mJ6_bitCount_0f7a4) 6 rfl dX10_bitsApart_3 ml_X10_398 kmJ6_bitCount_0f7a4 st_J6_bitCount_0f7a4 (c_J6_bitCount _ (by omega) (by omega)) rfl rfl ⟨Nat.le_of_ble_eq_true rfl, Nat.le_of_ble_eq_true rfl⟩ (Nat.le_of_ble_eq_true rfl) ⟨Nat.le_of_ble_eq_true rfl, Nat.le_of_ble_eq_true rfl⟩ ?_
  refine R_ireturn dX10_bitsApart_6 rfl ?_
  exact Qi_mk (by unfold ap; simp)
