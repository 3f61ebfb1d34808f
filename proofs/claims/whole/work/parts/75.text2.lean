def CV (Γ : GX) (M : MD) (fr lo mc ms : Nat) (As : List Value) (S : Shp) (m : Mem) (Q : Option AV → Shp → Mem → Prop) : Prop :=
  Met Γ.1 M.1 (.code M.1 M.2.1 M.2.2.1 M.2.2.2 :: TW) { frames := fr, cells := mc, slots := ms, locals := lo } (va_Pc As (fun U => RepH Γ S m U.heap ∧ U.heap.size = gB Γ + S.1 ∧ EnvS Γ U)) (QcOf Γ mc Q) mc ms (gA Γ)
section
variable {Γ : GX} {S : Shp} {m : Mem} {i : Nat}
set_option maxHeartbeats 1000000 in
theorem cv_J3n (j n : Int) (hj : 0 ≤ j ∧ j < n) (hn : rg n) : CV Γ mJ3_checkIndex_8e157 0 0 0 0 [.int (iz j), .int (iz n), .null] S m (Qi S m j) := by
  refine Met.ofW (cc := cJ3_checkIndex_8e157) (maxL := 3) (ret := some .int) (by decide) rfl ?_
  intro p e s mi args below meth c s₁ B hml hv
  obtain ⟨rfl, hR, hZ, hE⟩ := hv
  have hx := B.exec
  have hb : c.code = cJ3_checkIndex_8e157 := B.bytes
  have hr := B.returns
  have hlocks := B.notSynchronized
  have hrj : rg j := ⟨by have := hn.1; omega, by have := hn.2; omega⟩
  have hl := lv_entry ([.int (iz j), .int (iz n), .null]) (n := 3) (Nat.le_of_ble_eq_true rfl)
  rw [lg_entry_eq]
  generalize (lg_sl ([.int (iz j), .int (iz n), .null]) ++ List.replicate (3 - (lg_sl ([.int (iz j), .int (iz n), .null])).length) Slot.unset).toArray = ls at hl ⊢
  have hl : lv_has ls 3 [(0, .int (iz j)), (1, .int (iz n)), (2, .null)] := hl
  refine lv_iload_n hx hb dJ3_checkIndex_8e157_0 rfl (lv_at hl 0 rfl) ?_
  refine lv_if_lt hx hb dJ3_checkIndex_8e157_1 (show ((1 : Nat) : Int) + 8 = ((9 : Nat) : Int) from rfl) (fun h => ?_) (fun h => ?_)
  · exact absurd ((iz_lt0 hrj).mp h) (by omega)
  refine lv_iload_n hx hb dJ3_checkIndex_8e157_4 rfl (lv_at hl 0 rfl) ?_
  refine lv_iload_n hx hb dJ3_checkIndex_8e157_5 rfl (lv_at hl 1 rfl) ?_
  refine lv_icmp_lt hx hb dJ3_checkIndex_8e157_6 (show ((6 : Nat) : Int) + 10 = ((16 : Nat) : Int) from rfl) (fun h => ?_) (fun h => ?_)
  · refine lv_iload_n hx hb dJ3_checkIndex_8e157_16 rfl (lv_at hl 0 rfl) ?_
    exact W.iret (v := iz j) hx hb hr (fun t ht hW => ⟨⟨some (vi j), S, m, rfl, Qi_mk rfl, ht ▸ hR, hZ⟩, va_S.rf.F ht⟩) (fun q hq => by cases hq) dJ3_checkIndex_8e157_17 hlocks
  · exact absurd ((iz_lt hrj hn).mpr hj.2) h
set_option maxHeartbeats 1000000 in
theorem cv_J3r (j n : Int) (t : Nat) (hj : 0 ≤ j ∧ j < n) (hn : rg n) : CV Γ mJ3_checkIndex_8e157 0 0 0 0 [.int (iz j), .int (iz n), (.ref t)] S m (Qi S m j) := by
  refine Met.ofW (cc := cJ3_checkIndex_8e157) (maxL := 3) (ret := some .int) (by decide) rfl ?_
  intro p e s mi args below meth c s₁ B hml hv
  obtain ⟨rfl, hR, hZ, hE⟩ := hv
  have hx := B.exec
  have hb : c.code = cJ3_checkIndex_8e157 := B.bytes
  have hr := B.returns
  have hlocks := B.notSynchronized
  have hrj : rg j := ⟨by have := hn.1; omega, by have := hn.2; omega⟩
  have hl := lv_entry ([.int (iz j), .int (iz n), (.ref t)]) (n := 3) (Nat.le_of_ble_eq_true rfl)
  rw [lg_entry_eq]
  generalize (lg_sl ([.int (iz j), .int (iz n), (.ref t)]) ++ List.replicate (3 - (lg_sl ([.int (iz j), .int (iz n), (.ref t)])).length) Slot.unset).toArray = ls at hl ⊢
  have hl : lv_has ls 3 [(0, .int (iz j)), (1, .int (iz n)), (2, (.ref t))] := hl
  refine lv_iload_n hx hb dJ3_checkIndex_8e157_0 rfl (lv_at hl 0 rfl) ?_
  refine lv_if_lt hx hb dJ3_checkIndex_8e157_1 (show ((1 : Nat) : Int) + 8 = ((9 : Nat) : Int) from rfl) (fun h => ?_) (fun h => ?_)
  · exact absurd ((iz_lt0 hrj).mp h) (by omega)
  refine lv_iload_n hx hb dJ3_checkIndex_8e157_4 rfl (lv_at hl 0 rfl) ?_
  refine lv_iload_n hx hb dJ3_checkIndex_8e157_5 rfl (lv_at hl 1 rfl) ?_
  refine lv_icmp_lt hx hb dJ3_checkIndex_8e157_6 (show ((6 : Nat) : Int) + 10 = ((16 : Nat) : Int) from rfl) (fun h => ?_) (fun h => ?_)
  · refine lv_iload_n hx hb dJ3_checkIndex_8e157_16 rfl (lv_at hl 0 rfl) ?_
    exact W.iret (v := iz j) hx hb hr (fun t ht hW => ⟨⟨some (vi j), S, m, rfl, Qi_mk rfl, ht ▸ hR, hZ⟩, va_S.rf.F ht⟩) (fun q hq => by cases hq) dJ3_checkIndex_8e157_17 hlocks
  · exact absurd ((iz_lt hrj hn).mpr hj.2) h
theorem vaPc_blind (As : List Value) (P : State → Prop) (h : ∀ (U : State) g mk a, P U → P (U.calling g mk a)) : FrameBlind (va_Pc As P) := by
  intro a U g mk q
  obtain ⟨h1, h2⟩ := q
  exact ⟨h1, h _ _ _ _ h2⟩
set_option maxHeartbeats 2000000 in
theorem c_J0_checkIndex (j n : Int) (hj : 0 ≤ j ∧ j < n) (hn : rg n) : C Γ mJ0_checkIndex_df160 1 40 0 0 [vi j, vi n] S m (Qv S m) := by
  refine C_of_R rfl (Nat.le_of_ble_eq_true rfl) ?_
  refine R_iload_n 1 rfl dJ0_checkIndex_df160_0 rfl ?_
  refine R_iload_n 2 rfl dJ0_checkIndex_df160_1 rfl ?_
  intro p e s mi args below meth c H locs ls hc hZ hS hH hl
  have hts := hc.2.2.2.2.2.2.1
  have h10 := hc.2.2.2.2.2.2.2.2.2.2.2.2.2.2.1
  have fin : R Γ mJ0_checkIndex_df160 { frames := 1, cells := 0, slots := 0, locals := 40 } 0 0 (Qv S m) 0 0 9 [some (vi j), some (vi n)] [] S m := R_return dJ0_checkIndex_df160_9 rfl (Qv_mk rfl)
  have key : ∀ v : Value, v.category = 1 → CV Γ mJ3_checkIndex_8e157 0 0 0 0 [.int (iz j), .int (iz n), v] S m (Qi S m j) → W p Γ.1 e { frames := 1, cells := 0, slots := 0, locals := 40 } s mi args below meth c H locs 0 0 (MQ below (QcOf Γ 0 (Qv S m)) args s 0 0 (gA Γ)) (F0 mi 5 ls [v, .int (iz n), .int (iz j)]) := by
    intro v hcat hcv
    refine ra_size (M := mJ0_checkIndex_df160) hc hZ hS hH (fun hsz => ?_)
    refine ra_call (A := gA Γ) (mc := 0) (ms := 0) (rest := []) (Qa := QcOf Γ 0 (Qi S m j) ([.int (iz j), .int (iz n), v] : List Value).toArray) (va_runS (As := [.int (iz j), .int (iz n), v]) (bytes := cJ3_checkIndex_8e157) (maxL := 3) (ret := some .int) (n := 3) (Ts := TW) (own := RJ0) (nL := 2) ⟨hc.1, hc.2.1, hc.2.2.1, hc.2.2.2.2.2.1, hts⟩ hcv ⟨callB_of 3 hts kmJ3_checkIndex_8e157.good rfl rfl rfl (hts _ kmJ3_checkIndex_8e157.2.1) (hts _ ml_J0_1059) kmJ3_checkIndex_8e157.2.2 ⟨Nat.le_of_ble_eq_true rfl, Nat.le_of_ble_eq_true rfl⟩, hts _ st_J3_checkIndex_8e157⟩ ⟨vaPc_blind _ _ (fun U g mk a q => ⟨q.1, q.2.1, q.2.2.calling⟩), fun U hU hW => ⟨rfl, hU ▸ hH, by rw [hU]; exact hsz, hc.2.2.2.2.2.2.2.2.to hS hU hW⟩⟩ rfl rfl hl.1 rfl ?_ dJ0_checkIndex_df160_5 ⟨Nat.le_of_ble_eq_true rfl, Nat.le_of_ble_eq_true rfl⟩) hS (fun st o t h => h.2) (fun v st₁ t locs1 h0 hq hS1 => ?_)
    · exact Nat.le_of_ble_eq_true rfl
    · obtain ⟨⟨r, S', m', hv, ⟨rfl, rfl, rfl⟩, hR, hsz'⟩, -⟩ := hq
      cases hv
      refine lv_pop (va := .int (iz j)) hc.1 hc.2.1 dJ0_checkIndex_df160_8 rfl ?_
      exact fin p e s mi args below meth c t.heap locs1 ls hc (by omega) hS1 hR hl
  rcases h10 with h | ⟨t, h⟩
  · exact va_gets (own := RJ0) hc.1 hc.2.1 h hS hc.2.2.2.2.2.1 (hts _ fl_J0_1053) (fun _ h => h) dJ0_checkIndex_df160_2 (key .null rfl (cv_J3n j n hj hn))
  · exact va_gets (own := RJ0) hc.1 hc.2.1 h hS hc.2.2.2.2.2.1 (hts _ fl_J0_1053) (fun _ h => h) dJ0_checkIndex_df160_2 (key (.ref t) rfl (cv_J3r j n t hj hn))
theorem c_J1_charAt (a : Int) (j : Nat) (hΓ : GOk Γ) (hi : i < 12) (ha : a = (j : Int)) (hj : j < lenJS.getD i 0) : C Γ mJ1_charAt_3b067 2 80 0 0 [vr (1000100 + i), vi a] S m (Qi S m (ltr i j)) := by
  refine C_of_R rfl (Nat.le_of_ble_eq_true rfl) ?_
  have hl := len_rg i hi
  have hr := ltr_rg i hi j hj
  refine R_iload_n 1 rfl dJ1_charAt_3b067_0 rfl ?_
  refine R_aload_n 2 rfl dJ1_charAt_3b067_1 rfl ?_
  refine R_taln 3 hΓ rfl hi dJ1_charAt_3b067_2 ?_
  refine R_callS_v (M' := mJ0_checkIndex_df160) 6 rfl dJ1_charAt_3b067_3 ml_J1_9 kmJ0_checkIndex_df160 st_J0_checkIndex_df160 (c_J0_checkIndex _ _ (by omega) ⟨by omega, by omega⟩) rfl rfl ⟨Nat.le_of_ble_eq_true rfl, Nat.le_of_ble_eq_true rfl⟩ (Nat.le_of_ble_eq_true rfl) ⟨Nat.le_of_ble_eq_true rfl, Nat.le_of_ble_eq_true rfl⟩ ?_
  refine R_aload_n 7 rfl dJ1_charAt_3b067_6 rfl ?_
  refine R_iload_n 8 rfl dJ1_charAt_3b067_7 rfl ?_
  refine R_tald j 9 hΓ rfl hi ha hj dJ1_charAt_3b067_8 ?_
  refine R_sipush 12 rfl dJ1_charAt_3b067_9 (by decide) ?_
  refine R_top (b := 2 ^ 8 - 1) (by decide) ?_
  refine R_iandm 8 13 rfl dJ1_charAt_3b067_12 (by decide) ?_
  refine R_top (b := ltr i j) (by omega) ?_
  refine R_i2c256 14 rfl dJ1_charAt_3b067_13 (by omega) ?_
  exact R_creturn dJ1_charAt_3b067_14 rfl (by omega) (Qi_mk rfl)
theorem c_charAt (a : Int) (j : Nat) (hΓ : GOk Γ) (hi : i < 12) (ha : a = (j : Int)) (hj : j < lenJS.getD i 0) : C Γ mJ0_charAt_5068e 3 120 0 0 [vr (1000000 + i), vi a] S m (Qi S m (ltr i j)) := by
  refine C_of_R rfl (Nat.le_of_ble_eq_true rfl) ?_
  have hr := ltr_rg i hi j hj
  refine R_aload_n 1 rfl dJ0_charAt_5068e_0 rfl ?_
  refine R_callT (M' := mJ0_isLatin1_aae02) 4 rfl dJ0_charAt_5068e_1 ml_J0_492 kmJ0_isLatin1_aae02 im_J0_isLatin1_aae02 se_J0_isLatin1_aae02 hi rfl (c_isLatin1 hi) (as := []) rfl rfl ⟨Nat.le_of_ble_eq_true rfl, Nat.le_of_ble_eq_true rfl⟩ ⟨Nat.le_of_ble_eq_true rfl, Nat.le_of_ble_eq_true rfl⟩ (Nat.le_of_ble_eq_true rfl) ?_
  rintro r S' m' ⟨rfl, rfl, rfl⟩
  refine R_if_eq 7 16 rfl rfl dJ0_charAt_5068e_4 ⟨by omega, by omega⟩ (fun h => ?_) (fun h => ?_)
  · omega
  refine R_aload_n 8 rfl dJ0_charAt_5068e_7 rfl ?_
  refine R_getSV 11 hΓ rfl rfl hi dJ0_charAt_5068e_8 ?_
  refine R_iload_n 12 rfl dJ0_charAt_5068e_11 rfl ?_
  refine R_callS_i (M' := mJ1_charAt_3b067) 15 rfl dJ0_charAt_5068e_12 ml_J0_495 kmJ1_charAt_3b067 st_J1_charAt_3b067 (c_J1_charAt _ j hΓ hi ha hj) rfl rfl ⟨Nat.le_of_ble_eq_true rfl, Nat.le_of_ble_eq_true rfl⟩ (Nat.le_of_ble_eq_true rfl) ⟨Nat.le_of_ble_eq_true rfl, Nat.le_of_ble_eq_true rfl⟩ ?_
  exact R_creturn dJ0_charAt_5068e_15 rfl (by omega) (Qi_mk rfl)
end
section
variable {Γ : GX} {M : MD} {rm : Room} {mc ms : Nat} {Q : Option AV → Shp → Mem → Prop} {k n pc : Nat} {loc : List (Option AV)} {st : List AV} {S : Shp} {m : Mem} {ix : Nat}
theorem R_strlen {i : Nat} (q : Nat) (hΓ : GOk Γ) (hi : i < 12) (hq : pc + 3 = q) (hd : decode M.2.1 pc = .ok (.invokevirtual ix, 3)) (hl : Cond.methodLink M.1.cls ix yJ0_length_8abf5 ∈ TW) (hrm : 2 ≤ rm.frames ∧ 80 ≤ rm.locals) (hal : k ≤ rm.cells ∧ n ≤ rm.slots) (hrest : (st.map catN).sum ≤ 8) (kk : R Γ M rm mc ms Q k n q loc (vi (lenJS.getD i 0 : Nat) :: st) S m) : R Γ M rm mc ms Q k n pc loc (vr (1000000 + i) :: st) S m := by
  refine R_callT (M' := mJ0_length_8abf5) q hq hd hl kmJ0_length_8abf5 im_J0_length_8abf5 se_J0_length_8abf5 hi rfl (c_length hΓ hi) (as := []) rfl rfl ⟨hrm.1, by show 8 + (1 + 11) + 40 ≤ _; omega⟩ hal hrest ?_
  rintro r S' m' ⟨rfl, rfl, rfl⟩
  exact kk
theorem R_strchar {i : Nat} {a : Int} (j q : Nat) (hΓ : GOk Γ) (hi : i < 12) (ha : a = (j : Int)) (hj : j < lenJS.getD i 0) (hq : pc + 3 = q) (hd : decode M.2.1 pc = .ok (.invokevirtual ix, 3)) (hl : Cond.methodLink M.1.cls ix yJ0_charAt_5068e ∈ TW) (hrm : 4 ≤ rm.frames ∧ 160 ≤ rm.locals) (hal : k ≤ rm.cells ∧ n ≤ rm.slots) (hrest : (st.map catN).sum ≤ 8) (kk : R Γ M rm mc ms Q k n q loc (vi (ltr i j) :: st) S m) : R Γ M rm mc ms Q k n pc loc (vi a :: vr (1000000 + i) :: st) S m := by
  refine R_callT (M' := mJ0_charAt_5068e) q hq hd hl kmJ0_charAt_5068e im_J0_charAt_5068e se_J0_charAt_5068e hi rfl (c_charAt _ j hΓ hi ha hj) (as := [vi a]) rfl rfl ⟨hrm.1, by show 8 + (2 + 11) + 120 ≤ _; omega⟩ hal hrest ?_
  rintro r S' m' ⟨rfl, rfl, rfl⟩
  exact kk
end
