def cR (t : Nat) : String := (vwCl.getD t ("", fun _ => ("", "", "", false), 0)).1
def cT (t : Nat) : u_T := (vwCl.getD t ("", fun _ => ("", "", "", false), 0)).2.1
theorem vw_at {t : Nat} (h : t < 12) : vwCl[t]? = some (cR t, cT t, nF t) := by
  have h' : t < vwCl.length := h
  rw [List.getElem?_eq_getElem h']
  unfold cR cT nF
  rw [List.getD_eq_getElem?_getD, List.getElem?_eq_getElem h']
  rfl
theorem uw_at : ∀ {t : Nat}, t < 12 → ∀ w ∈ u_ws (cR t) (cT t) (nF t), w ∈ TW
  | 0, _ => uw_X0 | 1, _ => uw_X1 | 2, _ => uw_X2 | 3, _ => uw_X3 | 4, _ => uw_X4 | 5, _ => uw_X5 | 6, _ => uw_X6 | 7, _ => uw_X7 | 8, _ => uw_X8 | 9, _ => uw_X9 | 10, _ => uw_X10 | 11, _ => uw_X11
  | _ + 12, h => absurd h (by omega)
theorem ty_at : ∀ {t : Nat}, t < 12 → ∀ k, k < nF t → parseFieldDescriptor (cT t k).2.2.1 = some (tyOf t k)
  | 0, _ => tyX0_ok | 1, _ => tyX1_ok | 2, _ => tyX2_ok | 3, _ => tyX3_ok | 4, _ => tyX4_ok | 5, _ => tyX5_ok | 6, _ => tyX6_ok | 7, _ => tyX7_ok | 8, _ => tyX8_ok | 9, _ => tyX9_ok | 10, _ => tyX10_ok | 11, _ => tyX11_ok
  | _ + 12, h => absurd h (by omega)
theorem nm_at : ∀ {t : Nat}, t < 12 → ∀ a, a < nF t → ∀ b, b < nF t → a ≠ b → (cT t a).2.1 ≠ (cT t b).2.1
  | 0, _ => nmX0 | 1, _ => nmX1 | 2, _ => nmX2 | 3, _ => nmX3 | 4, _ => nmX4 | 5, _ => nmX5 | 6, _ => nmX6 | 7, _ => nmX7 | 8, _ => nmX8 | 9, _ => nmX9 | 10, _ => nmX10 | 11, _ => nmX11
  | _ + 12, h => absurd h (by omega)
def shp (S : Shp) (o : Nat) : Option (Nat × Nat) := if o < S.1 then some (S.2 o) else none
theorem shp_sp {S : Shp} {o t len : Nat} (h : shp S o = some (t, len)) : o < S.1 ∧ S.2 o = (t, len) := by
  unfold shp at h
  split at h
  · exact ⟨by assumption, Option.some.inj h⟩
  · cases h
theorem cE_obj {Γ : GX} {S : Shp} {m : Mem} {o t len : Nat} (h : S.2 o = (t, len)) (ht : t < 12) : cE Γ S m o = .inr (t, flds Γ m t o) := by
  unfold cE
  rw [h, if_pos ht]
theorem cE_arr {Γ : GX} {S : Shp} {m : Mem} {o t len : Nat} (h : S.2 o = (t, len)) (h1 : 12 ≤ t) (h2 : t < 15) : cE Γ S m o = .inl (gC Γ (t - 12), len, .inl (fun i => iz (m.1 o i))) := by
  unfold cE
  rw [h, if_neg (by simp; omega), if_pos (by simp; omega)]
theorem cE_ref {Γ : GX} {S : Shp} {m : Mem} {o t len : Nat} (h : S.2 o = (t, len)) (h1 : 15 ≤ t) : cE Γ S m o = .inl (gC Γ (t - 12), len, .inr (.inr (.inr (.inr (fun i => (m.2 o i).map (adr Γ)))))) := by
  unfold cE
  rw [h, if_neg (by simp; omega), if_neg (by simp; omega)]
theorem flds_len (Γ : GX) (m : Mem) (t o : Nat) : (flds Γ m t o).length = nF t := by simp [flds]
theorem flds_at {Γ : GX} {m : Mem} {t o k : Nat} (hk : k < nF t) : (flds Γ m t o)[k]? = some (fv Γ (fkd (tyOf t k)) (m.1 o k) (m.2 o k)) := by
  unfold flds
  rw [List.getElem?_map, List.getElem?_range hk]
  rfl
theorem flds_set {Γ : GX} {m m' : Mem} {t o k : Nat} {v : Value} (hk : k < nF t) (hv : fv Γ (fkd (tyOf t k)) (m'.1 o k) (m'.2 o k) = v) (hn : ∀ j, j ≠ k → m'.1 o j = m.1 o j ∧ m'.2 o j = m.2 o j) : (flds Γ m t o).set k v = flds Γ m' t o := by
  apply List.ext_getElem?
  intro i
  by_cases hi : i < nF t
  · by_cases e : i = k
    · subst e
      rw [List.getElem?_set_self (by rw [flds_len]; exact hi), flds_at hi, hv]
    · rw [List.getElem?_set_ne (Ne.symm e), flds_at hi, flds_at hi, (hn i e).1, (hn i e).2]
  · rw [List.getElem?_eq_none (by rw [List.length_set, flds_len]; omega), List.getElem?_eq_none (by rw [flds_len]; omega)]
theorem adr_lt {Γ : GX} {o : Nat} (h : o < 1000000) : adr Γ o = gB Γ + o := by unfold adr; rw [if_pos h]
theorem tr_ref {Γ : GX} {S : Shp} {m : Mem} {H : Heap} {o : Nat} (hH : RepH Γ S m H) (ho : o < S.1) : tr Γ (vr o) = .ref (gB Γ + o) := by
  show rv Γ (some o) = _
  unfold rv
  have : o < 1000000 := by have := hH.1; omega
  simp [va_rf, adr_lt this]
section HEAP
variable {Γ : GX} {M : MD} {rm : Room} {mc ms : Nat} {Q : Option AV → Shp → Mem → Prop} {k n pc : Nat} {loc : List (Option AV)} {st : List AV} {S : Shp} {m : Mem}
theorem R_getV {o t len kf ix : Nat} {v : AV} (q : Nat) (hq : pc + 3 = q) (hd : decode M.2.1 pc = .ok (.getfield ix, 3)) (hs : shp S o = some (t, len)) (ht : t < 12) (hk : kf < nF t) (hw : Cond.fieldLink M.1.cls ix (cT t kf).1 (cT t kf).2.1 (cT t kf).2.2.1 ∈ TW) (hv : fv Γ (fkd (tyOf t kf)) (m.1 o kf) (m.2 o kf) = tr Γ v)
    (kk : R Γ M rm mc ms Q k n q loc (v :: st) S m) : R Γ M rm mc ms Q k n pc loc (vr o :: st) S m := by
  subst hq
  intro p e s mi args below meth c H locs ls hc hZ hS hH hl
  obtain ⟨ho, hs2⟩ := shp_sp hs
  have hcell : (wcl Γ S m)[o]? = some (gB Γ + o, .inr (t, flds Γ m t o)) := by rw [wcl_at ho, cE_obj hs2 ht]
  show W p Γ.1 e rm s mi args below meth c H locs k n _ (F0 mi pc ls (tr Γ (vr o) :: st.map (tr Γ)))
  rw [tr_ref hH ho]
  exact va_get (own := M.1.cls) (ref := (cT t kf).1) hc.1 hc.2.1 hc.2.2.2.2.2.2.1 (uw_at ht) hc.2.2.2.2.2.1 hc.2.2.2.2.2.2.2.2.1 hH.2 o hcell (vw_at ht) kf hk (hc.2.2.2.2.2.2.1 _ hw) (fun _ h => h) (v := tr Γ v) (by rw [flds_at hk, hv]) hd (kk p e s mi args below meth c H locs ls hc hZ hS hH hl)
theorem R_getI {o t len ix : Nat} (kf q : Nat) (hq : pc + 3 = q) (hd : decode M.2.1 pc = .ok (.getfield ix, 3)) (hs : shp S o = some (t, len)) (hf : (decide (t < 12) && decide (kf < nF t) && decide (fkd (tyOf t kf) = 0)) = true) (hw : Cond.fieldLink M.1.cls ix (cT t kf).1 (cT t kf).2.1 (cT t kf).2.2.1 ∈ TW)
    (kk : R Γ M rm mc ms Q k n q loc (vi (m.1 o kf) :: st) S m) : R Γ M rm mc ms Q k n pc loc (vr o :: st) S m := by
  simp only [Bool.and_eq_true, decide_eq_true_eq] at hf
  exact R_getV q hq hd hs hf.1.1 hf.1.2 hw (by rw [hf.2]; rfl) kk
theorem R_getL {o t len ix : Nat} (kf q : Nat) (hq : pc + 3 = q) (hd : decode M.2.1 pc = .ok (.getfield ix, 3)) (hs : shp S o = some (t, len)) (hf : (decide (t < 12) && decide (kf < nF t) && decide (fkd (tyOf t kf) = 1)) = true) (hw : Cond.fieldLink M.1.cls ix (cT t kf).1 (cT t kf).2.1 (cT t kf).2.2.1 ∈ TW)
    (kk : R Γ M rm mc ms Q k n q loc (vl (m.1 o kf) :: st) S m) : R Γ M rm mc ms Q k n pc loc (vr o :: st) S m := by
  simp only [Bool.and_eq_true, decide_eq_true_eq] at hf
  exact R_getV q hq hd hs hf.1.1 hf.1.2 hw (by rw [hf.2]; rfl) kk
theorem R_getP {o t len ix r : Nat} (kf q : Nat) (hq : pc + 3 = q) (hd : decode M.2.1 pc = .ok (.getfield ix, 3)) (hs : shp S o = some (t, len)) (hf : (decide (t < 12) && decide (kf < nF t) && decide (fkd (tyOf t kf) = 2)) = true) (hw : Cond.fieldLink M.1.cls ix (cT t kf).1 (cT t kf).2.1 (cT t kf).2.2.1 ∈ TW) (hp : m.2 o kf = some r)
    (kk : R Γ M rm mc ms Q k n q loc (vr r :: st) S m) : R Γ M rm mc ms Q k n pc loc (vr o :: st) S m := by
  simp only [Bool.and_eq_true, decide_eq_true_eq] at hf
  exact R_getV q hq hd hs hf.1.1 hf.1.2 hw (by rw [hf.2, hp]; rfl) kk
/-- a field's new value; m' is m but for it -/
theorem R_putV {o t len kf ix : Nat} {v : AV} {m' : Mem} (q : Nat) (hq : pc + 3 = q) (hd : decode M.2.1 pc = .ok (.putfield ix, 3)) (hs : shp S o = some (t, len)) (ht : t < 12) (hk : kf < nF t) (hw : Cond.fieldLink M.1.cls ix (cT t kf).1 (cT t kf).2.1 (cT t kf).2.2.1 ∈ TW) (hfin : (cT t kf).2.2.2 = false) (hn : narrow (tyOf t kf) (tr Γ v) = tr Γ v) (hfit : fits (tyOf t kf) (tr Γ v) = true)
    (hv : fv Γ (fkd (tyOf t kf)) (m'.1 o kf) (m'.2 o kf) = tr Γ v) (hn2 : ∀ j, j ≠ kf → m'.1 o j = m.1 o j ∧ m'.2 o j = m.2 o j) (hne : ∀ o', o' ≠ o → cE Γ S m' o' = cE Γ S m o')
    (kk : R Γ M rm mc ms Q k n q loc st S m') : R Γ M rm mc ms Q k n pc loc (v :: vr o :: st) S m := by
  subst hq
  intro p e s mi args below meth c H locs ls hc hZ hS hH hl
  obtain ⟨ho, hs2⟩ := shp_sp hs
  have hcell : (wcl Γ S m)[o]? = some (gB Γ + o, .inr (t, flds Γ m t o)) := by rw [wcl_at ho, cE_obj hs2 ht]
  show W p Γ.1 e rm s mi args below meth c H locs k n _ (F0 mi pc ls (tr Γ v :: tr Γ (vr o) :: st.map (tr Γ)))
  rw [tr_ref hH ho]
  refine va_put (own := M.1.cls) (ref := (cT t kf).1) hc.1 hc.2.1 hc.2.2.2.2.2.2.1 (uw_at ht) (tyOf t) (ty_at ht) (nm_at ht) hc.2.2.2.2.2.1 hc.2.2.2.2.2.2.2.2.1 hH.2 (wcl_D Γ S m) hS o hcell (vw_at ht) kf hk (hc.2.2.2.2.2.2.1 _ hw) (fun _ h => h) hfin (ty_at ht kf hk) hn hfit (by rw [flds_len]; exact hk) hd (fun H1 locs1 hP1 hD1 hS1 => ?_)
  rw [wcl_set (m' := m') (by rw [cE_obj hs2 ht, flds_set hk hv hn2]) hne] at hP1
  exact kk p e s mi args below meth c H1 locs1 ls hc hZ hS1 ⟨hH.1, hP1⟩ hl
/-- the same for a final field, in a constructor -/
theorem R_putW {o t len kf ix : Nat} {v : AV} {m' : Mem} (q : Nat) (hq : pc + 3 = q) (hd : decode M.2.1 pc = .ok (.putfield ix, 3)) (hs : shp S o = some (t, len)) (ht : t < 12) (hk : kf < nF t) (hw : Cond.fieldLink M.1.cls ix (cT t kf).1 (cT t kf).2.1 (cT t kf).2.2.1 ∈ TW) (hfin : (cT t kf).2.2.2 = true) (hin : M.1.name = "<init>") (hown : (cT t kf).1 = M.1.cls) (hn : narrow (tyOf t kf) (tr Γ v) = tr Γ v) (hfit : fits (tyOf t kf) (tr Γ v) = true)
    (hv : fv Γ (fkd (tyOf t kf)) (m'.1 o kf) (m'.2 o kf) = tr Γ v) (hn2 : ∀ j, j ≠ kf → m'.1 o j = m.1 o j ∧ m'.2 o j = m.2 o j) (hne : ∀ o', o' ≠ o → cE Γ S m' o' = cE Γ S m o')
    (kk : R Γ M rm mc ms Q k n q loc st S m') : R Γ M rm mc ms Q k n pc loc (v :: vr o :: st) S m := by
  subst hq
  intro p e s mi args below meth c H locs ls hc hZ hS hH hl
  obtain ⟨ho, hs2⟩ := shp_sp hs
  have hcell : (wcl Γ S m)[o]? = some (gB Γ + o, .inr (t, flds Γ m t o)) := by rw [wcl_at ho, cE_obj hs2 ht]
  show W p Γ.1 e rm s mi args below meth c H locs k n _ (F0 mi pc ls (tr Γ v :: tr Γ (vr o) :: st.map (tr Γ)))
  rw [tr_ref hH ho]
  refine va_putF (own := M.1.cls) (ref := (cT t kf).1) hc.1 hc.2.1 hc.2.2.2.2.2.2.1 (uw_at ht) (tyOf t) (ty_at ht) (nm_at ht) hc.2.2.2.2.2.1 hc.2.2.2.2.2.2.2.2.1 hH.2 (wcl_D Γ S m) hS o hcell (vw_at ht) kf hk (hc.2.2.2.2.2.2.1 _ hw) (fun _ h => h) hfin (hc.2.2.2.2.2.2.2.1.trans hin) hown (ty_at ht kf hk) hn hfit (by rw [flds_len]; exact hk) hd (fun H1 locs1 hP1 hD1 hS1 => ?_)
  rw [wcl_set (m' := m') (by rw [cE_obj hs2 ht, flds_set hk hv hn2]) hne] at hP1
  exact kk p e s mi args below meth c H1 locs1 ls hc hZ hS1 ⟨hH.1, hP1⟩ hl
theorem setI_at {m : Mem} {o k : Nat} {z : Int} : (setI m o k z).1 o k = z := by simp [setI]
theorem setI_nk {m : Mem} {o k j : Nat} {z : Int} (h : j ≠ k) : (setI m o k z).1 o j = m.1 o j ∧ (setI m o k z).2 o j = m.2 o j := by simp [setI, h]
theorem setP_at {m : Mem} {o k : Nat} {r : Option Nat} : (setP m o k r).2 o k = r := by simp [setP]
theorem setP_nk {m : Mem} {o k j : Nat} {r : Option Nat} (h : j ≠ k) : (setP m o k r).1 o j = m.1 o j ∧ (setP m o k r).2 o j = m.2 o j := by simp [setP, h]
def isIntTy (t : FieldType) : Bool := match t with
  | .int => true
  | _ => false
def isBoolTy (t : FieldType) : Bool := match t with
  | .boolean => true
  | _ => false
def isLongTy (t : FieldType) : Bool := match t with
  | .long => true
  | _ => false
def isRefTy (t : FieldType) : Bool := match t with
  | .object _ => true
  | .array _ => true
  | _ => false
theorem R_putI {o t len ix : Nat} {z : Int} (kf q : Nat) (hq : pc + 3 = q) (hd : decode M.2.1 pc = .ok (.putfield ix, 3)) (hs : shp S o = some (t, len)) (hf : (decide (t < 12) && decide (kf < nF t) && isIntTy (tyOf t kf) && !(cT t kf).2.2.2) = true) (hw : Cond.fieldLink M.1.cls ix (cT t kf).1 (cT t kf).2.1 (cT t kf).2.2.1 ∈ TW)
    (kk : R Γ M rm mc ms Q k n q loc st S (setI m o kf z)) : R Γ M rm mc ms Q k n pc loc (vi z :: vr o :: st) S m := by
  simp only [Bool.and_eq_true, decide_eq_true_eq, Bool.not_eq_true'] at hf
  obtain ⟨⟨⟨h1, h2⟩, h3⟩, h4⟩ := hf
  have h5 : tyOf t kf = .int := by revert h3; cases tyOf t kf <;> simp [isIntTy]
  exact R_putV q hq hd hs h1 h2 hw h4 (by rw [h5]; rfl) (by rw [h5]; rfl) (by rw [h5, setI_at]; rfl) (fun j hj => setI_nk hj) (fun o' h => cE_setI_ne h) kk
theorem R_putZ {o t len ix : Nat} {z : Int} (kf q : Nat) (hq : pc + 3 = q) (hd : decode M.2.1 pc = .ok (.putfield ix, 3)) (hs : shp S o = some (t, len)) (hf : (decide (t < 12) && decide (kf < nF t) && isBoolTy (tyOf t kf) && !(cT t kf).2.2.2) = true) (hw : Cond.fieldLink M.1.cls ix (cT t kf).1 (cT t kf).2.1 (cT t kf).2.2.1 ∈ TW) (hz : z = 0 ∨ z = 1)
    (kk : R Γ M rm mc ms Q k n q loc st S (setI m o kf z)) : R Γ M rm mc ms Q k n pc loc (vi z :: vr o :: st) S m := by
  simp only [Bool.and_eq_true, decide_eq_true_eq, Bool.not_eq_true'] at hf
  obtain ⟨⟨⟨h1, h2⟩, h3⟩, h4⟩ := hf
  have h5 : tyOf t kf = .boolean := by revert h3; cases tyOf t kf <;> simp [isBoolTy]
  refine R_putV q hq hd hs h1 h2 hw h4 ?_ ?_ (by rw [h5, setI_at]; rfl) (fun j hj => setI_nk hj) (fun o' h => cE_setI_ne h) kk
  · rw [h5]
    rcases hz with rfl | rfl <;> rfl
  · rw [h5]
    rcases hz with rfl | rfl <;> rfl
theorem R_putL {o t len ix : Nat} {z : Int} (kf q : Nat) (hq : pc + 3 = q) (hd : decode M.2.1 pc = .ok (.putfield ix, 3)) (hs : shp S o = some (t, len)) (hf : (decide (t < 12) && decide (kf < nF t) && isLongTy (tyOf t kf) && !(cT t kf).2.2.2) = true) (hw : Cond.fieldLink M.1.cls ix (cT t kf).1 (cT t kf).2.1 (cT t kf).2.2.1 ∈ TW)
    (kk : R Γ M rm mc ms Q k n q loc st S (setI m o kf z)) : R Γ M rm mc ms Q k n pc loc (vl z :: vr o :: st) S m := by
  simp only [Bool.and_eq_true, decide_eq_true_eq, Bool.not_eq_true'] at hf
  obtain ⟨⟨⟨h1, h2⟩, h3⟩, h4⟩ := hf
  have h5 : tyOf t kf = .long := by revert h3; cases tyOf t kf <;> simp [isLongTy]
  exact R_putV q hq hd hs h1 h2 hw h4 (by rw [h5]; rfl) (by rw [h5]; rfl) (by rw [h5, setI_at]; rfl) (fun j hj => setI_nk hj) (fun o' h => cE_setI_ne h) kk
theorem R_putP {o t len ix r : Nat} (kf q : Nat) (hq : pc + 3 = q) (hd : decode M.2.1 pc = .ok (.putfield ix, 3)) (hs : shp S o = some (t, len)) (hf : (decide (t < 12) && decide (kf < nF t) && isRefTy (tyOf t kf) && !(cT t kf).2.2.2) = true) (hw : Cond.fieldLink M.1.cls ix (cT t kf).1 (cT t kf).2.1 (cT t kf).2.2.1 ∈ TW)
    (kk : R Γ M rm mc ms Q k n q loc st S (setP m o kf (some r))) : R Γ M rm mc ms Q k n pc loc (vr r :: vr o :: st) S m := by
  simp only [Bool.and_eq_true, decide_eq_true_eq, Bool.not_eq_true'] at hf
  obtain ⟨⟨⟨h1, h2⟩, h3⟩, h4⟩ := hf
  refine R_putV q hq hd hs h1 h2 hw h4 ?_ ?_ ?_ (fun j hj => setP_nk hj) (fun o' h => cE_setP_ne h) kk
  · revert h3; cases tyOf t kf <;> simp [isRefTy] <;> rfl
  · revert h3; cases tyOf t kf <;> simp [isRefTy] <;> rfl
  · rw [setP_at]; revert h3; cases tyOf t kf <;> simp [isRefTy, fkd] <;> rfl
theorem R_putFP {o t len ix r : Nat} (kf q : Nat) (hq : pc + 3 = q) (hd : decode M.2.1 pc = .ok (.putfield ix, 3)) (hs : shp S o = some (t, len)) (hf : (decide (t < 12) && decide (kf < nF t) && isRefTy (tyOf t kf) && (cT t kf).2.2.2) = true) (hw : Cond.fieldLink M.1.cls ix (cT t kf).1 (cT t kf).2.1 (cT t kf).2.2.1 ∈ TW) (hin : M.1.name = "<init>") (hown : (cT t kf).1 = M.1.cls)
    (kk : R Γ M rm mc ms Q k n q loc st S (setP m o kf (some r))) : R Γ M rm mc ms Q k n pc loc (vr r :: vr o :: st) S m := by
  simp only [Bool.and_eq_true, decide_eq_true_eq, Bool.not_eq_true'] at hf
  obtain ⟨⟨⟨h1, h2⟩, h3⟩, h4⟩ := hf
  refine R_putW q hq hd hs h1 h2 hw h4 hin hown ?_ ?_ ?_ (fun j hj => setP_nk hj) (fun o' h => cE_setP_ne h) kk
  · revert h3; cases tyOf t kf <;> simp [isRefTy] <;> rfl
  · revert h3; cases tyOf t kf <;> simp [isRefTy] <;> rfl
  · rw [setP_at]; revert h3; cases tyOf t kf <;> simp [isRefTy, fkd] <;> rfl
end HEAP
