section ARR
variable {Γ : GX} {M : MD} {rm : Room} {mc ms : Nat} {Q : Option AV → Shp → Mem → Prop} {k n pc : Nat} {loc : List (Option AV)} {st : List AV} {S : Shp} {m : Mem}
theorem cE_arr_set {Γ : GX} {S : Shp} {m : Mem} {o t len j : Nat} {z : Int} (h : S.2 o = (t, len)) (h1 : 12 ≤ t) (h2 : t < 15) : cE Γ S (setI m o j z) o = .inl (gC Γ (t - 12), len, .inl (upd (fun i => iz (m.1 o i)) j (iz z))) := by
  rw [cE_arr h h1 h2]
  congr 4
  funext i
  unfold upd setI
  by_cases e : i = j <;> simp [e]
theorem R_iald {o len : Nat} {a : Int} (j q : Nat) (hq : pc + 1 = q) (hd : decode M.2.1 pc = .ok (.iaload, 1)) (hs : shp S o = some (12, len)) (hj : a = (j : Int)) (hb : j < len) (hz : len < 2147483648)
    (kk : R Γ M rm mc ms Q k n q loc (vi (m.1 o j) :: st) S m) : R Γ M rm mc ms Q k n pc loc (vi a :: vr o :: st) S m := by
  subst hq
  subst hj
  intro p e s mi args below meth c H locs ls hc hZ hS hH hl
  obtain ⟨ho, hs2⟩ := shp_sp hs
  have hcell : (wcl Γ S m)[o]? = some (gB Γ + o, .inl (gC Γ 0, len, .inl (fun i => iz (m.1 o i)))) := by rw [wcl_at ho, cE_arr hs2 (by omega) (by omega)]
  show W p Γ.1 e rm s mi args below meth c H locs k n _ (F0 mi pc ls (.int (iz (j : Int)) :: tr Γ (vr o) :: st.map (tr Γ)))
  rw [tr_ref hH ho]
  refine va_iald hc.1 hc.2.1 hc.2.2.2.2.2.2.2.2.1 hH.2 o 0 hcell rfl (iz_in hz (by omega) (by omega)) hd ?_
  rw [iz_clamp (rg_n (by omega)), Int.toNat_natCast]
  exact kk p e s mi args below meth c H locs ls hc hZ hS hH hl
theorem R_bald {o len : Nat} {a : Int} (j q : Nat) (hq : pc + 1 = q) (hd : decode M.2.1 pc = .ok (.baload, 1)) (hs : shp S o = some (13, len)) (hj : a = (j : Int)) (hb : j < len) (hz : len < 2147483648)
    (kk : R Γ M rm mc ms Q k n q loc (vi (m.1 o j) :: st) S m) : R Γ M rm mc ms Q k n pc loc (vi a :: vr o :: st) S m := by
  subst hq
  subst hj
  intro p e s mi args below meth c H locs ls hc hZ hS hH hl
  obtain ⟨ho, hs2⟩ := shp_sp hs
  have hcell : (wcl Γ S m)[o]? = some (gB Γ + o, .inl (gC Γ 1, len, .inl (fun i => iz (m.1 o i)))) := by rw [wcl_at ho, cE_arr hs2 (by omega) (by omega)]
  show W p Γ.1 e rm s mi args below meth c H locs k n _ (F0 mi pc ls (.int (iz (j : Int)) :: tr Γ (vr o) :: st.map (tr Γ)))
  rw [tr_ref hH ho]
  refine va_bald hc.1 hc.2.1 hc.2.2.2.2.2.2.2.2.1 hH.2 o 1 hcell rfl (iz_in hz (by omega) (by omega)) hd ?_
  rw [iz_clamp (rg_n (by omega)), Int.toNat_natCast]
  exact kk p e s mi args below meth c H locs ls hc hZ hS hH hl
theorem R_zald {o len : Nat} {a : Int} (j q : Nat) (hq : pc + 1 = q) (hd : decode M.2.1 pc = .ok (.baload, 1)) (hs : shp S o = some (14, len)) (hj : a = (j : Int)) (hb : j < len) (hz : len < 2147483648)
    (kk : R Γ M rm mc ms Q k n q loc (vi (m.1 o j) :: st) S m) : R Γ M rm mc ms Q k n pc loc (vi a :: vr o :: st) S m := by
  subst hq
  subst hj
  intro p e s mi args below meth c H locs ls hc hZ hS hH hl
  obtain ⟨ho, hs2⟩ := shp_sp hs
  have hcell : (wcl Γ S m)[o]? = some (gB Γ + o, .inl (gC Γ 2, len, .inl (fun i => iz (m.1 o i)))) := by rw [wcl_at ho, cE_arr hs2 (by omega) (by omega)]
  show W p Γ.1 e rm s mi args below meth c H locs k n _ (F0 mi pc ls (.int (iz (j : Int)) :: tr Γ (vr o) :: st.map (tr Γ)))
  rw [tr_ref hH ho]
  refine va_zald hc.1 hc.2.1 hc.2.2.2.2.2.2.2.2.1 hH.2 o 2 hcell rfl (iz_in hz (by omega) (by omega)) hd ?_
  rw [iz_clamp (rg_n (by omega)), Int.toNat_natCast]
  exact kk p e s mi args below meth c H locs ls hc hZ hS hH hl
theorem R_iast {o len : Nat} {a z : Int} (j q : Nat) (hq : pc + 1 = q) (hd : decode M.2.1 pc = .ok (.iastore, 1)) (hs : shp S o = some (12, len)) (hj : a = (j : Int)) (hb : j < len) (hz : len < 2147483648)
    (kk : R Γ M rm mc ms Q k n q loc st S (setI m o j z)) : R Γ M rm mc ms Q k n pc loc (vi z :: vi a :: vr o :: st) S m := by
  subst hq
  subst hj
  intro p e s mi args below meth c H locs ls hc hZ hS hH hl
  obtain ⟨ho, hs2⟩ := shp_sp hs
  have hcell : (wcl Γ S m)[o]? = some (gB Γ + o, .inl (gC Γ 0, len, .inl (fun i => iz (m.1 o i)))) := by rw [wcl_at ho, cE_arr hs2 (by omega) (by omega)]
  show W p Γ.1 e rm s mi args below meth c H locs k n _ (F0 mi pc ls (.int (iz z) :: .int (iz (j : Int)) :: tr Γ (vr o) :: st.map (tr Γ)))
  rw [tr_ref hH ho]
  refine va_iast hc.1 hc.2.1 hc.2.2.2.2.2.2.2.2.1 hH.2 (wcl_D Γ S m) hS o 0 hcell rfl (iz_in hz (by omega) (by omega)) hd (fun H1 locs1 hP1 hD1 hS1 => ?_)
  rw [iz_clamp (rg_n (by omega)), Int.toNat_natCast] at hP1
  rw [wcl_set (m' := setI m o j z) (by rw [cE_arr_set hs2 (by omega) (by omega)]) (fun o' h => cE_setI_ne h)] at hP1
  exact kk p e s mi args below meth c H1 locs1 ls hc hZ hS1 ⟨hH.1, hP1⟩ hl
theorem R_bast {o len : Nat} {a z : Int} (j q : Nat) (hq : pc + 1 = q) (hd : decode M.2.1 pc = .ok (.bastore, 1)) (hs : shp S o = some (13, len)) (hj : a = (j : Int)) (hb : j < len) (hz : len < 2147483648)
    (kk : R Γ M rm mc ms Q k n q loc st S (setI m o j (z.bmod 256))) : R Γ M rm mc ms Q k n pc loc (vi z :: vi a :: vr o :: st) S m := by
  subst hq
  subst hj
  intro p e s mi args below meth c H locs ls hc hZ hS hH hl
  obtain ⟨ho, hs2⟩ := shp_sp hs
  have hcell : (wcl Γ S m)[o]? = some (gB Γ + o, .inl (gC Γ 1, len, .inl (fun i => iz (m.1 o i)))) := by rw [wcl_at ho, cE_arr hs2 (by omega) (by omega)]
  show W p Γ.1 e rm s mi args below meth c H locs k n _ (F0 mi pc ls (.int (iz z) :: .int (iz (j : Int)) :: tr Γ (vr o) :: st.map (tr Γ)))
  rw [tr_ref hH ho]
  refine va_bast hc.1 hc.2.1 hc.2.2.2.2.2.2.2.2.1 hH.2 (wcl_D Γ S m) hS o 1 hcell rfl (iz_in hz (by omega) (by omega)) hd (fun H1 locs1 hP1 hD1 hS1 => ?_)
  rw [iz_clamp (rg_n (by omega)), Int.toNat_natCast, vp_nar_byte, iz_b] at hP1
  rw [wcl_set (m' := setI m o j (z.bmod 256)) (by rw [cE_arr_set hs2 (by omega) (by omega)]) (fun o' h => cE_setI_ne h)] at hP1
  exact kk p e s mi args below meth c H1 locs1 ls hc hZ hS1 ⟨hH.1, hP1⟩ hl
theorem R_zast {o len : Nat} {a z : Int} (j q : Nat) (hq : pc + 1 = q) (hd : decode M.2.1 pc = .ok (.bastore, 1)) (hs : shp S o = some (14, len)) (hj : a = (j : Int)) (hb : j < len) (hz : len < 2147483648) (h01 : z = 0 ∨ z = 1)
    (kk : R Γ M rm mc ms Q k n q loc st S (setI m o j z)) : R Γ M rm mc ms Q k n pc loc (vi z :: vi a :: vr o :: st) S m := by
  subst hq
  subst hj
  intro p e s mi args below meth c H locs ls hc hZ hS hH hl
  obtain ⟨ho, hs2⟩ := shp_sp hs
  have hcell : (wcl Γ S m)[o]? = some (gB Γ + o, .inl (gC Γ 2, len, .inl (fun i => iz (m.1 o i)))) := by rw [wcl_at ho, cE_arr hs2 (by omega) (by omega)]
  show W p Γ.1 e rm s mi args below meth c H locs k n _ (F0 mi pc ls (.int (iz z) :: .int (iz (j : Int)) :: tr Γ (vr o) :: st.map (tr Γ)))
  rw [tr_ref hH ho]
  refine va_zast hc.1 hc.2.1 hc.2.2.2.2.2.2.2.2.1 hH.2 (wcl_D Γ S m) hS o 2 hcell rfl (iz_in hz (by omega) (by omega)) hd (fun H1 locs1 hP1 hD1 hS1 => ?_)
  have hv : vp_nar .boolean (iz z) = iz z := by rcases h01 with rfl | rfl <;> rfl
  rw [iz_clamp (rg_n (by omega)), Int.toNat_natCast, hv] at hP1
  rw [wcl_set (m' := setI m o j z) (by rw [cE_arr_set hs2 (by omega) (by omega)]) (fun o' h => cE_setI_ne h)] at hP1
  exact kk p e s mi args below meth c H1 locs1 ls hc hZ hS1 ⟨hH.1, hP1⟩ hl
theorem R_aald {o t len r : Nat} {a : Int} (j q : Nat) (hq : pc + 1 = q) (hd : decode M.2.1 pc = .ok (.aaload, 1)) (hs : shp S o = some (t, len)) (ht : (decide (15 ≤ t) && decide (t < 19)) = true) (hj : a = (j : Int)) (hb : j < len) (hz : len < 2147483648) (hp : m.2 o j = some r)
    (kk : R Γ M rm mc ms Q k n q loc (vr r :: st) S m) : R Γ M rm mc ms Q k n pc loc (vi a :: vr o :: st) S m := by
  subst hq
  subst hj
  simp only [Bool.and_eq_true, decide_eq_true_eq] at ht
  intro p e s mi args below meth c H locs ls hc hZ hS hH hl
  obtain ⟨ho, hs2⟩ := shp_sp hs
  have hcell : (wcl Γ S m)[o]? = some (gB Γ + o, .inl (gC Γ (t - 12), len, .inr (.inr (.inr (.inr (fun i => (m.2 o i).map (adr Γ))))))) := by rw [wcl_at ho, cE_ref hs2 (by omega)]
  show W p Γ.1 e rm s mi args below meth c H locs k n _ (F0 mi pc ls (.int (iz (j : Int)) :: tr Γ (vr o) :: st.map (tr Γ)))
  rw [tr_ref hH ho]
  have hin : vp_in (iz (j : Int)) len := iz_in hz (by omega) (by omega)
  have hcl : (iz (j : Int)).toNatClampNeg = j := by rw [iz_clamp (rg_n (by omega)), Int.toNat_natCast]
  obtain ⟨ty, hty, hrf⟩ : ∃ ty : FieldType, (tys Γ)[t - 12]? = some (gC Γ (t - 12), ty) ∧ ty.isReference = true := by
    rcases (show t = 15 ∨ t = 16 ∨ t = 17 ∨ t = 18 by omega) with rfl | rfl | rfl | rfl
    · exact ⟨_, rfl, rfl⟩
    · exact ⟨_, rfl, rfl⟩
    · exact ⟨_, rfl, rfl⟩
    · exact ⟨_, rfl, rfl⟩
  have hK := hc.2.2.2.2.2.2.2.2.1
  refine W.aald (v := tr Γ (vr r)) (ty := ty) hc.1 hc.2.1 (hH.2 o _ hcell) ((hK.2 (t - 12) _ hty).1 len (fun i => va_rf ((m.2 o i).map (adr Γ)))) hrf (fun q => by cases q) (by show ¬ (_ < 0 ∨ (arrV _ _ _).slots.size ≤ _); rw [arrV_size]; exact hin) ?_ rfl rfl hd (kk p e s mi args below meth c H locs ls hc hZ hS hH hl)
  show (arrV _ _ _).slots[_]? = _
  rw [hcl, arrV_read _ _ hb]
  show some (va_rf ((m.2 o j).map (adr Γ))) = _
  rw [hp]
  rfl
theorem R_alen {o t len : Nat} (q : Nat) (hq : pc + 1 = q) (hd : decode M.2.1 pc = .ok (.arraylength, 1)) (hs : shp S o = some (t, len)) (ht : (decide (12 ≤ t) && decide (t < 19)) = true)
    (kk : R Γ M rm mc ms Q k n q loc (vi (len : Int) :: st) S m) : R Γ M rm mc ms Q k n pc loc (vr o :: st) S m := by
  subst hq
  simp only [Bool.and_eq_true, decide_eq_true_eq] at ht
  intro p e s mi args below meth c H locs ls hc hZ hS hH hl
  obtain ⟨ho, hs2⟩ := shp_sp hs
  show W p Γ.1 e rm s mi args below meth c H locs k n _ (F0 mi pc ls (tr Γ (vr o) :: st.map (tr Γ)))
  rw [tr_ref hH ho]
  have hcell : ∃ x : vp_A, x.1 = len ∧ (wcl Γ S m)[o]? = some (gB Γ + o, .inl (gC Γ (t - 12), x)) := by
    by_cases h : t < 15
    · exact ⟨_, rfl, by rw [wcl_at ho, cE_arr hs2 (by omega) (by omega)]⟩
    · exact ⟨_, rfl, by rw [wcl_at ho, cE_ref hs2 (by omega)]⟩
  obtain ⟨x, hx, hcell⟩ := hcell
  obtain ⟨ty, hty⟩ : ∃ ty : FieldType, (tys Γ)[t - 12]? = some (gC Γ (t - 12), ty) := by
    rcases (show t = 12 ∨ t = 13 ∨ t = 14 ∨ t = 15 ∨ t = 16 ∨ t = 17 ∨ t = 18 by omega) with rfl | rfl | rfl | rfl | rfl | rfl | rfl
    · exact ⟨_, rfl⟩
    · exact ⟨_, rfl⟩
    · exact ⟨_, rfl⟩
    · exact ⟨_, rfl⟩
    · exact ⟨_, rfl⟩
    · exact ⟨_, rfl⟩
    · exact ⟨_, rfl⟩
  exact va_alen hc.1 hc.2.1 hc.2.2.2.2.2.2.2.2.1 hH.2 o (t - 12) hcell hty (v := iz (len : Int)) (by rw [hx]; exact (iz_nat len).symm) hd (kk p e s mi args below meth c H locs ls hc hZ hS hH hl)
/-- System.arraycopy between two rows of ints (they may be one) -/
def cpyI (m : Mem) (a b sp dp c : Nat) : Mem := (fun o k => if o = b ∧ dp ≤ k ∧ k < dp + c then m.1 a (sp + (k - dp)) else m.1 o k, m.2)
set_option maxHeartbeats 1000000 in
theorem R_acopy {ix oa ob la lb : Nat} {zs zd zc : Int} (sp dp c q : Nat) (hq : pc + 3 = q) (hd : decode M.2.1 pc = .ok (.invokestatic ix, 3)) (hw : Cond.methodLink M.1.cls ix arraycopyName ∈ TW) (hsa : shp S oa = some (12, la)) (hsb : shp S ob = some (12, lb)) (hzs : zs = (sp : Int)) (hzd : zd = (dp : Int)) (hzc : zc = (c : Int)) (h1 : sp + c ≤ la) (h2 : dp + c ≤ lb) (hz : la < 2147483648 ∧ lb < 2147483648) (hst : (st.map fun v => if cat1 v = true then 1 else 2).sum ≤ 8) (hrm : 1 ≤ rm.frames ∧ 40 ≤ rm.locals)
    (kk : R Γ M rm mc ms Q k n q loc st S (cpyI m oa ob sp dp c)) : R Γ M rm mc ms Q k n pc loc (vi zc :: vi zd :: vr ob :: vi zs :: vr oa :: st) S m := by
  subst hq; subst hzs; subst hzd; subst hzc
  intro p e s mi args below meth co H locs ls hc hZ hS hH hl
  obtain ⟨ho, hs2⟩ := shp_sp hsa
  obtain ⟨ho', hs2'⟩ := shp_sp hsb
  have hcell : (wcl Γ S m)[oa]? = some (gB Γ + oa, .inl (gC Γ 0, la, .inl (fun i => iz (m.1 oa i)))) := by rw [wcl_at ho, cE_arr hs2 (by omega) (by omega)]
  have hcell' : (wcl Γ S m)[ob]? = some (gB Γ + ob, .inl (gC Γ 0, lb, .inl (fun i => iz (m.1 ob i)))) := by rw [wcl_at ho', cE_arr hs2' (by omega) (by omega)]
  show W p Γ.1 e rm s mi args below meth co H locs k n _ (F0 mi pc ls (.int (iz (c : Int)) :: .int (iz (dp : Int)) :: tr Γ (vr ob) :: .int (iz (sp : Int)) :: tr Γ (vr oa) :: st.map (tr Γ)))
  rw [tr_ref hH ho, tr_ref hH ho']
  have c1 : (iz (sp : Int)).toNatClampNeg = sp := by rw [iz_clamp (rg_n (by omega)), Int.toNat_natCast]
  have c2 : (iz (dp : Int)).toNatClampNeg = dp := by rw [iz_clamp (rg_n (by omega)), Int.toNat_natCast]
  have c3 : (iz (c : Int)).toNatClampNeg = c := by rw [iz_clamp (rg_n (by omega)), Int.toNat_natCast]
  have hts := hc.2.2.2.2.2.2.1
  have hsum : ((st.map (tr Γ)).map fun v => v.category).sum ≤ 8 := by
    rw [List.map_map]
    have : (st.map ((fun v => v.category) ∘ tr Γ)) = st.map (fun v => if cat1 v = true then 1 else 2) := List.map_congr_left (fun v _ => cat_tr Γ v)
    rw [this]; exact hst
  refine va_copyi hc.1 hc.2.1 (hc.2.2.1.trans hl.1.symm) hc.2.2.2.2.2.1 (hts _ hw) (hts _ nat_arraycopy) (hts _ st_arraycopy) (hts _ ini_J10) hc.2.2.2.2.2.2.2.2.1 hH.2 (wcl_D Γ S m) hS oa ob 0 0 hcell hcell' rfl rfl rfl (fun h => ?_) (fun h => ?_) (fun h => ?_) (by rw [c1, c3]; exact h1) (by rw [c2, c3]; exact h2) (fun i _ => rfl) hrm.1 ?_ hd (fun H1 locs1 hP1 hD1 hS1 => ?_)
  · have := (iz_lt0 (rg_n (n := sp) (by omega))).mp h; omega
  · have := (iz_lt0 (rg_n (n := dp) (by omega))).mp h; omega
  · have := (iz_lt0 (rg_n (n := c) (by omega))).mp h; omega
  · have h9 : nativeFrameWords "java/lang/System" "arraycopy" 5 + 11 ≤ 32 := by decide +kernel
    omega
  · rw [c1, c2, c3] at hP1
    rw [wcl_set (m' := cpyI m oa ob sp dp c) ?_ ?_] at hP1
    · exact kk p e s mi args below meth co H1 locs1 ls hc hZ hS1 ⟨hH.1, hP1⟩ hl
    · rw [cE_arr hs2' (by omega) (by omega)]
      congr 4
      funext i
      unfold cpyI va_cpy
      by_cases h : dp ≤ i ∧ i < dp + c <;> simp [h]
    · intro o' ho9
      unfold cE flds cpyI
      simp [ho9]
end ARR
