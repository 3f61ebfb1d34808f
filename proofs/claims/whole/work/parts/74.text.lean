/-! texts: the literals and their bytes (place 1000100 + i) -/
def GOk (Γ : GX) : Prop := ∀ i, i < 12 → gS Γ (100 + i) = gV Γ i
def ltr (i j : Nat) : Int := ((bytJS.getD i []).getD j 0).toInt
theorem ltr_rg : ∀ i, i < 12 → ∀ j, j < lenJS.getD i 0 → 97 ≤ ltr i j ∧ ltr i j ≤ 122 := by decide +kernel
theorem len_rg : ∀ i, i < 12 → 4 ≤ lenJS.getD i 0 ∧ lenJS.getD i 0 ≤ 7 := by decide +kernel
theorem tr_lit {Γ : GX} {i : Nat} (h : i < 1000000) : tr Γ (vr (1000000 + i)) = .ref (gS Γ i) := by
  show va_rf (some (adr Γ (1000000 + i))) = _
  unfold adr
  rw [if_neg (by omega), if_pos (by omega), show 1000000 + i - 1000000 = i by omega]
  rfl
theorem tr_byt {Γ : GX} {i : Nat} (hΓ : GOk Γ) (h : i < 12) : tr Γ (vr (1000100 + i)) = .ref (gV Γ i) := by
  rw [show 1000100 + i = 1000000 + (100 + i) by omega, tr_lit (by omega), hΓ i h]
theorem i2c_256 : ∀ k : Nat, k < 256 → ((iz (k : Int)).toUInt32 % 65536).toInt32 = iz (k : Int) := by decide +kernel
theorem nar_256 : ∀ k : Nat, k < 256 → narrow .char (.int (iz (k : Int))) = .int (iz (k : Int)) := by decide +kernel
section
variable {Γ : GX} {M M' : MD} {rm : Room} {mc ms : Nat} {Q Qc : Option AV → Shp → Mem → Prop} {k n pc : Nat} {loc : List (Option AV)} {st rest as : List AV} {S : Shp} {m : Mem} {fr lo mc' ms' nA ix : Nat}
theorem R_ldcS {ix : Nat} (i q : Nat) (hq : pc + 2 = q) (hd : decode M.2.1 pc = .ok (.ldc ix, 2)) (hM : M.1.cls = RX5) (hi : (decide (i < 12) && decide (idxJS.getD i 0 = ix)) = true) (kk : R Γ M rm mc ms Q k n q loc (vr (1000000 + i) :: st) S m) : R Γ M rm mc ms Q k n pc loc st S m := by
  subst hq
  simp only [Bool.and_eq_true, decide_eq_true_eq] at hi
  intro p e s mi args below meth c H locs ls hc hZ hS hH hl
  have h8 := hc.2.2.2.2.2.2.2.2.2.2.2.2.1 i hi.1
  rw [hi.2] at h8
  refine va_ldcS (own := RX5) hc.1 hc.2.1 (hM ▸ hc.2.2.2.2.2.1) h8 hd ?_
  have := kk p e s mi args below meth c H locs ls hc hZ hS hH hl
  rw [List.map_cons, tr_lit (by omega)] at this
  exact this
theorem R_getSV {i : Nat} (q : Nat) (hΓ : GOk Γ) (hq : pc + 3 = q) (hM : M.1.cls = RJ0) (hi : i < 12) (hd : decode M.2.1 pc = .ok (.getfield 9, 3)) (kk : R Γ M rm mc ms Q k n q loc (vr (1000100 + i) :: st) S m) : R Γ M rm mc ms Q k n pc loc (vr (1000000 + i) :: st) S m := by
  subst hq
  intro p e s mi args below meth c H locs ls hc hZ hS hH hl
  have h7 := hc.2.2.2.2.2.2.2.2.2.2.2.1
  have := kk p e s mi args below meth c H locs ls hc hZ hS hH hl
  rw [List.map_cons, tr_byt hΓ hi] at this
  rw [List.map_cons, tr_lit (by omega)]
  exact vk_getf (own := RJ0) hc.1 hc.2.1 (h7.1 i hi).2.2.1 hS (hM ▸ hc.2.2.2.2.2.1) (hc.2.2.2.2.2.2.1 _ fl_J0_9) (fun _ h => h) hd this
theorem R_getSC {i : Nat} (q : Nat) (hq : pc + 3 = q) (hM : M.1.cls = RJ0) (hi : i < 12) (hd : decode M.2.1 pc = .ok (.getfield 15, 3)) (kk : R Γ M rm mc ms Q k n q loc (vi 0 :: st) S m) : R Γ M rm mc ms Q k n pc loc (vr (1000000 + i) :: st) S m := by
  subst hq
  intro p e s mi args below meth c H locs ls hc hZ hS hH hl
  have h7 := hc.2.2.2.2.2.2.2.2.2.2.2.1
  have := kk p e s mi args below meth c H locs ls hc hZ hS hH hl
  rw [List.map_cons, tr_lit (by omega)]
  exact vk_getf (own := RJ0) hc.1 hc.2.1 (h7.1 i hi).2.1 hS (hM ▸ hc.2.2.2.2.2.1) (hc.2.2.2.2.2.2.1 _ fl_J0_15) (fun _ h => h) hd this
theorem R_gCS (q : Nat) (hq : pc + 3 = q) (hM : M.1.cls = RJ0) (hd : decode M.2.1 pc = .ok (.getstatic 38, 3)) (kk : R Γ M rm mc ms Q k n q loc (vi 1 :: st) S m) : R Γ M rm mc ms Q k n pc loc st S m := by
  subst hq
  intro p e s mi args below meth c H locs ls hc hZ hS hH hl
  have h9 := hc.2.2.2.2.2.2.2.2.2.2.2.2.2.1
  exact va_gets (own := RJ0) hc.1 hc.2.1 h9 hS (hM ▸ hc.2.2.2.2.2.1) (hc.2.2.2.2.2.2.1 _ fl_J0_38) (fun _ h => h) hd (kk p e s mi args below meth c H locs ls hc hZ hS hH hl)
theorem R_taln {i : Nat} (q : Nat) (hΓ : GOk Γ) (hq : pc + 1 = q) (hi : i < 12) (hd : decode M.2.1 pc = .ok (.arraylength, 1)) (kk : R Γ M rm mc ms Q k n q loc (vi (lenJS.getD i 0 : Nat) :: st) S m) : R Γ M rm mc ms Q k n pc loc (vr (1000100 + i) :: st) S m := by
  subst hq
  intro p e s mi args below meth c H locs ls hc hZ hS hH hl
  have h7 := hc.2.2.2.2.2.2.2.2.2.2.2.1
  have := kk p e s mi args below meth c H locs ls hc hZ hS hH hl
  rw [List.map_cons, tr_byt hΓ hi]
  exact va_tlen hc.1 hc.2.1 (h7.1 i hi).2.2.2 hS (v := iz (lenJS.getD i 0 : Nat)) (iz_nat _).symm hd this
theorem R_tald {i : Nat} {a : Int} (j q : Nat) (hΓ : GOk Γ) (hq : pc + 1 = q) (hi : i < 12) (hj : a = (j : Int)) (hb : j < lenJS.getD i 0) (hd : decode M.2.1 pc = .ok (.baload, 1)) (kk : R Γ M rm mc ms Q k n q loc (vi (ltr i j) :: st) S m) : R Γ M rm mc ms Q k n pc loc (vi a :: vr (1000100 + i) :: st) S m := by
  subst hq
  subst hj
  intro p e s mi args below meth c H locs ls hc hZ hS hH hl
  have h7 := hc.2.2.2.2.2.2.2.2.2.2.2.1
  have := kk p e s mi args below meth c H locs ls hc hZ hS hH hl
  have hl7 := (len_rg i hi).2
  rw [List.map_cons, List.map_cons, tr_byt hΓ hi]
  refine va_tb hc.1 hc.2.1 (h7.1 i hi).2.2.2 hS (i := iz (j : Int)) (iz_in (by omega) (by omega) (by omega)) (v := .int (iz (ltr i j))) ?_ hd this
  rw [iz_clamp ⟨by omega, by omega⟩, Int.toNat_natCast]
  show Value.int _ = Value.int (iz (Int32.toInt _))
  rw [iz_of]
theorem R_i2c256 {z : Int} (q : Nat) (hq : pc + 1 = q) (hd : decode M.2.1 pc = .ok (.i2c, 1)) (h : 0 ≤ z ∧ z < 256) (kk : R Γ M rm mc ms Q k n q loc (vi z :: st) S m) : R Γ M rm mc ms Q k n pc loc (vi z :: st) S m := by
  subst hq
  intro p e s mi args below meth c H locs ls hc hZ hS hH hl
  obtain ⟨x, rfl⟩ : ∃ x : Nat, z = (x : Int) := ⟨z.toNat, by omega⟩
  exact lv_i2c hc.1 hc.2.1 hd (i2c_256 x (by omega)) (kk p e s mi args below meth c H locs ls hc hZ hS hH hl)
theorem R_creturn {z : Int} (hd : decode M.2.1 pc = .ok (.ireturn, 1)) (hr : M.2.2.2 = some .char) (hz : 0 ≤ z ∧ z < 256) (hQ : Q (some (vi z)) S m) : R Γ M rm mc ms Q mc ms pc loc [vi z] S m := by
  intro p e s mi args below meth c H locs ls hc hZ hS hH hl
  obtain ⟨x, rfl⟩ : ∃ x : Nat, z = (x : Int) := ⟨z.toNat, by omega⟩
  exact W.zret (v := iz (x : Int)) (ty := .char) hc.1 hc.2.1 (hc.2.2.2.1.trans hr) (nar_256 x (by omega)) (fun t ht hW => ⟨⟨some (vi (x : Int)), S, m, rfl, hQ, ht ▸ hH, hZ⟩, hS.F ht⟩) hS.2.2 hd hc.2.2.2.2.1
theorem R_breturn0 (hd : decode M.2.1 pc = .ok (.ireturn, 1)) (hr : M.2.2.2 = some .byte) (hQ : Q (some (vi 0)) S m) : R Γ M rm mc ms Q mc ms pc loc [vi 0] S m := by
  intro p e s mi args below meth c H locs ls hc hZ hS hH hl
  exact W.zret (v := iz 0) (ty := .byte) hc.1 hc.2.1 (hc.2.2.2.1.trans hr) rfl (fun t ht hW => ⟨⟨some (vi 0), S, m, rfl, hQ, ht ▸ hH, hZ⟩, hS.F ht⟩) hS.2.2 hd hc.2.2.2.2.1
set_option maxHeartbeats 1000000 in
theorem R_callT {i : Nat} (q : Nat) (hq : pc + 3 = q) (hd : decode M.2.1 pc = .ok (.invokevirtual ix, 3)) (hl : Cond.methodLink M.1.cls ix M'.1 ∈ TW) (hk : KM M' nA) (him : Cond.instanceMethod M'.1 ∈ TW) (hse : Cond.selects M'.1.cls M'.1 M'.1 ∈ TW) (hi : i < 12) (ht : M'.1.cls = "java/lang/String") (hcn : C Γ M' fr lo mc' ms' (vr (1000000 + i) :: as) S m Qc) (hst : st = as.reverse ++ vr (1000000 + i) :: rest) (hn : as.length = nA) (hrm : fr + 1 ≤ rm.frames ∧ 8 + (M'.2.2.1 + 11) + lo ≤ rm.locals) (hal : k + mc' ≤ rm.cells ∧ n + ms' ≤ rm.slots) (hrest : (rest.map catN).sum ≤ 8)
    (kk : ∀ r S' m', Qc r S' m' → R Γ M rm mc ms Q (k + mc') (n + ms') q loc (r.toList ++ rest) S' m') : R Γ M rm mc ms Q k n pc loc st S m := by
  subst hq
  subst hst
  intro p e s mi args below meth c H locs ls hc hZ hS hH hl2
  refine ra_size (M := M) hc hZ hS hH (fun hsz => ?_)
  have hts := hc.2.2.2.2.2.2.1
  have hstk : ((as.reverse ++ vr (1000000 + i) :: rest).map (tr Γ)) = (as.map (tr Γ)).reverse ++ .ref (gS Γ i) :: rest.map (tr Γ) := by rw [List.map_append, List.map_reverse, List.map_cons, tr_lit (by omega)]
  have hrcv : ∃ cellB : Cell, H[gS Γ i]? = some cellB ∧ cellB.vm.isStatics = false ∧ s.vm.findClass M'.1.cls = some cellB.cls := by
    rw [ht]
    exact vk_recv hc.2.2.2.2.2.2.2.2.2.2.2.1 hi hS
  have hpc : ∀ U : State, U.heap = H → s.WarmedH U.vm → PcOf Γ (vr (1000000 + i) :: as) S m (Value.ref (gS Γ i) :: as.map (tr Γ)).toArray U := fun U hU hW => ⟨by rw [List.map_cons, tr_lit (by omega)], hU ▸ hH, by rw [hU]; exact hsz, hc.2.2.2.2.2.2.2.2.to hS hU hW⟩
  refine ra_call (A := gA Γ) (mc := mc') (ms := ms') (rest := rest.map (tr Γ)) (Qa := QcOf Γ mc' Qc (Value.ref (gS Γ i) :: as.map (tr Γ)).toArray) (va_runV (As := as.map (tr Γ)) (C := M'.1.cls) (b := gS Γ i) (bytes := M'.2.1) (maxL := M'.2.2.1) (ret := M'.2.2.2) (n := nA) (Ts := TW) (own := M.1.cls) (nL := M.2.2.1) ⟨hc.1, hc.2.1, hc.2.2.1, hc.2.2.2.2.2.1, hts⟩ hcn ⟨callB_of nA hts hk.good rfl rfl rfl (hts _ hk.2.1) (hts _ hl) hk.2.2 hrm, hts _ him, hts _ hse⟩ ⟨PcOf_blind Γ (vr (1000000 + i) :: as) S m, hrcv, hpc⟩ rfl (by simpa using hn) hl2.1 hstk ?_ hd hal) hS (fun st o t h => h.2) (fun v st₁ t locs1 h0 hq hS1 => ?_)
  · show 2 * 0 + _ ≤ 8
    rw [cat_sum]; omega
  · obtain ⟨⟨r, S', m', hv, hQ, hR, hsz'⟩, -⟩ := hq
    cases hv
    rw [h0, hsz] at hsz'
    have h9 := kk r S' m' hQ p e s mi args below meth c t.heap locs1 ls hc (by omega) hS1 hR hl2
    rw [List.map_append] at h9
    have e9 : List.map (tr Γ) r.toList = (r.map (tr Γ)).toList := by cases r <;> rfl
    rw [e9] at h9
    exact h9
end
section
variable {Γ : GX} {S : Shp} {m : Mem} {i : Nat}
theorem c_coder (hi : i < 12) : C Γ mJ0_coder_7d493 0 0 0 0 [vr (1000000 + i)] S m (Qi S m 0) := by
  refine C_of_R rfl (Nat.le_of_ble_eq_true rfl) ?_
  refine R_gCS 3 rfl rfl dJ0_coder_7d493_0 ?_
  refine R_if_eq 6 13 rfl rfl dJ0_coder_7d493_3 ⟨by omega, by omega⟩ (fun h => ?_) (fun h => ?_)
  · omega
  refine R_aload_n 7 rfl dJ0_coder_7d493_6 rfl ?_
  refine R_getSC 10 rfl rfl hi dJ0_coder_7d493_7 ?_
  refine R_goto 14 rfl dJ0_coder_7d493_10 ?_
  exact R_breturn0 dJ0_coder_7d493_14 rfl (Qi_mk rfl)
theorem c_isLatin1 (hi : i < 12) : C Γ mJ0_isLatin1_aae02 0 0 0 0 [vr (1000000 + i)] S m (Qi S m 1) := by
  refine C_of_R rfl (Nat.le_of_ble_eq_true rfl) ?_
  refine R_gCS 3 rfl rfl dJ0_isLatin1_aae02_0 ?_
  refine R_if_eq 6 17 rfl rfl dJ0_isLatin1_aae02_3 ⟨by omega, by omega⟩ (fun h => ?_) (fun h => ?_)
  · omega
  refine R_aload_n 7 rfl dJ0_isLatin1_aae02_6 rfl ?_
  refine R_getSC 10 rfl rfl hi dJ0_isLatin1_aae02_7 ?_
  refine R_if_ne 13 17 rfl rfl dJ0_isLatin1_aae02_10 ⟨by omega, by omega⟩ (fun h => ?_) (fun h => ?_)
  · omega
  refine R_iconst 14 rfl dJ0_isLatin1_aae02_13 ?_
  refine R_goto 18 rfl dJ0_isLatin1_aae02_14 ?_
  exact R_zreturn dJ0_isLatin1_aae02_18 rfl (Or.inr rfl) (Qi_mk rfl)
theorem c_length (hΓ : GOk Γ) (hi : i < 12) : C Γ mJ0_length_8abf5 1 40 0 0 [vr (1000000 + i)] S m (Qi S m (lenJS.getD i 0 : Nat)) := by
  refine C_of_R rfl (Nat.le_of_ble_eq_true rfl) ?_
  have hl := len_rg i hi
  refine R_aload_n 1 rfl dJ0_length_8abf5_0 rfl ?_
  refine R_getSV 4 hΓ rfl rfl hi dJ0_length_8abf5_1 ?_
  refine R_taln 5 hΓ rfl hi dJ0_length_8abf5_4 ?_
  refine R_aload_n 6 rfl dJ0_length_8abf5_5 rfl ?_
  refine R_callT (M' := mJ0_coder_7d493) 9 rfl dJ0_length_8abf5_6 ml_J0_335 kmJ0_coder_7d493 im_J0_coder_7d493 se_J0_coder_7d493 hi rfl (c_coder hi) (as := []) rfl rfl ⟨Nat.le_of_ble_eq_true rfl, Nat.le_of_ble_eq_true rfl⟩ ⟨Nat.le_of_ble_eq_true rfl, Nat.le_of_ble_eq_true rfl⟩ (Nat.le_of_ble_eq_true rfl) ?_
  rintro r S' m' ⟨rfl, rfl, rfl⟩
  refine R_ishr 10 rfl dJ0_length_8abf5_9 ⟨by omega, by omega⟩ (by omega) (by omega) ?_
  exact R_ireturn dJ0_length_8abf5_10 rfl (Qi_mk (by simp))
end
