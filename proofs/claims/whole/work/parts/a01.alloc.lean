/-! new cells -/
section ALLOC
variable {Γ : GX} {M : MD} {rm : Room} {mc ms : Nat} {Q : Option AV → Shp → Mem → Prop} {k n pc : Nat} {loc : List (Option AV)} {st : List AV} {S : Shp} {m : Mem} {f : Nat → Nat × Nat}
theorem cE_newM_ne {o o' : Nat} (h : o' ≠ o) : cE Γ S (newM m o) o' = cE Γ S m o' := by
  unfold cE flds newM
  simp [h]
theorem wcl_push (Γ : GX) (o : Nat) (f : Nat → Nat × Nat) (m : Mem) : wcl Γ (o + 1, f) (newM m o) = wcl Γ (o, f) m ++ [(gB Γ + o, cE Γ (o, f) (newM m o) o)] := by
  unfold wcl
  show (List.range (o + 1)).map _ = (List.range o).map _ ++ _
  rw [List.range_succ, List.map_append]
  congr 1
  exact List.map_congr_left (fun x hx => by
    have h := List.mem_range.mp hx
    show (gB Γ + x, cE Γ (o, f) (newM m o) x) = _
    rw [cE_newM_ne (by omega)])
theorem RepH.push {o : Nat} {H H1 : Heap} (hH : RepH Γ (o, f) m H) (ho : ∀ q, q < H.size → H1[q]? = H[q]?) (hlt : o + 1 < 1000000) (hx : va_at (gD Γ) vwCl (gB Γ + o, cE Γ (o, f) (newM m o) o) H1) : RepH Γ (o + 1, f) (newM m o) H1 := by
  refine ⟨hlt, ?_⟩
  rw [wcl_push]
  refine (hH.2.kept (fun k x hk => ho x.1 ((hH.2 k x hk).lt))).app (fun k x hk => ?_)
  have hz : k < 1 := (List.getElem?_eq_some_iff.mp hk).1
  rw [show k = 0 by omega] at hk
  cases hk
  exact hx
theorem va_S.grow {A : Nat → Prop} {H0 H H1 : Heap} {locs : List Loc} (hS : va_S A H0 H locs) (hz : H.size ≤ H1.size) (ho : ∀ q, q < H.size → H1[q]? = H[q]?) : va_S A H0 H1 locs := ⟨Nat.le_trans hS.1 hz, fun x h1 h2 => (ho x (Nat.lt_of_lt_of_le h1 hS.1)).trans (hS.2.1 x h1 h2), hS.2.2⟩
def okTy (t : FieldType) : Bool := match t with
  | .int => true
  | .boolean => true
  | .long => true
  | .object _ => true
  | .array _ => true
  | _ => false
theorem ok_ty : ∀ t, t < 12 → ∀ k, k < nF t → okTy (tyOf t k) = true := by decide +kernel
theorem fv_def {t : FieldType} (h : okTy t = true) : defaultValue t = fv Γ (fkd t) 0 none := by
  cases t <;> first | rfl | (exact absurd h (by decide))
theorem R_new {ix o : Nat} (t q o' k' n' : Nat) (hq : pc + 3 = q) (hd : decode M.2.1 pc = .ok (.new ix, 3)) (ht : t < 12) (hs : (f o).1 = t) (ho : o + 1 = o') (hlt : o' < 1000000) (hk : k + 1 = k') (hn : n + nF t = n') (hw : Cond.classLink M.1.cls ix (cR t) ∈ TW) (hin : Cond.instantiable (cR t) (nF t) ∈ TW) (hini : Cond.initialized (cR t) ∈ TW) (hal : k' ≤ rm.cells ∧ n' ≤ rm.slots)
    (kk : R Γ M rm mc ms Q k' n' q loc (vr o :: st) (o', f) (newM m o)) : R Γ M rm mc ms Q k n pc loc st (o, f) m := by
  subst hq ho hk hn
  intro p e s mi args below meth c H locs ls hc hZ hS hH hl
  refine ra_size (M := M) hc hZ hS hH (fun hsz => ?_)
  have hts := hc.2.2.2.2.2.2.1
  have hK := hc.2.2.2.2.2.2.2.2.1
  have hKn := hK.1 t _ (vw_at ht)
  have hZ' : s.heap.size + k = gB Γ + o := hZ
  refine W.newcK hc.1 hc.2.1 (own := M.1.cls) hc.2.2.2.2.2.1 (hts _ hw) (hts _ hin) (hts _ hini) rfl hd hal.1 hal.2 hKn.2.1 hsz fun H1 kC hkC e1 z1 o1 => ?_
  have o2 : ∀ q, q < H.size → H1[q]? = H[q]? := fun q h => o1 q (by rw [← hsz]; exact h)
  have hH1 : RepH Γ (o + 1, f) (newM m o) H1 := by
    refine hH.push o2 hlt ?_
    rw [cE_obj (t := t) (len := (f o).2) (by show f o = _; rw [← hs]) ht]
    refine ⟨_, vw_at ht, (u_born (tyOf t) hts (uw_at ht) hKn hkC e1 (ty_at ht)).to (fun j hj => ?_)⟩
    rw [fv_def (Γ := Γ) (ok_ty t ht j hj)]
    unfold vp_V
    rw [List.getD_eq_getElem?_getD, flds_at hj]
    simp [newM]
  show W p Γ.1 e rm s mi args below meth c H1 locs (k + 1) (n + nF t) _ (F0 mi (pc + 3) ls (.ref (gB Γ + o) :: st.map (tr Γ)))
  rw [← tr_ref hH1 (Nat.lt_succ_self o)]
  exact kk p e s mi args below meth c H1 locs ls hc (by show s.heap.size + (k + 1) = gB Γ + (o + 1); omega) (hS.grow (by rw [z1, hsz]; exact Nat.le_succ _) o2) hH1 hl
theorem R_newaI {o : Nat} {z : Int} (len q o' k' n' : Nat) (hq : pc + 2 = q) (hd : decode M.2.1 pc = .ok (.newarray .int, 2)) (hz : z = (len : Int)) (hs : f o = (12, len)) (hlen : len ≤ 100000) (ho : o + 1 = o') (hlt : o' < 1000000) (hk : k + 1 = k') (hn : n + len = n') (hal : k' ≤ rm.cells ∧ n' ≤ rm.slots)
    (kk : R Γ M rm mc ms Q k' n' q loc (vr o :: st) (o', f) (newM m o)) : R Γ M rm mc ms Q k n pc loc (vi z :: st) (o, f) m := by
  subst hq ho hk hn hz
  intro p e s mi args below meth c H locs ls hc hZ hS hH hl
  refine ra_size (M := M) hc hZ hS hH (fun hsz => ?_)
  have hts := hc.2.2.2.2.2.2.1
  have hK := hc.2.2.2.2.2.2.2.2.1
  have hZ' : s.heap.size + k = gB Γ + o := hZ
  have hrg : rg (len : Int) := rg_n (by omega)
  have hcl : (iz (len : Int)).toNatClampNeg = len := by rw [iz_clamp hrg, Int.toNat_natCast]
  have hn0 : ¬ iz (len : Int) < 0 := fun q => by have := (iz_lt0 hrg).mp q; omega
  refine va_newaK (atype := .int) hc.1 hc.2.1 (hts _ ac_int) rfl hd rfl hn0 hcl (by show len * _ ≤ 536870912; first | (show len * 4 ≤ _; omega) | (show len * 1 ≤ _; omega)) hal.1 hal.2 hsz fun H1 cA e1 z1 o1 hAr hNm => ?_
  have o2 : ∀ q, q < H.size → H1[q]? = H[q]? := fun q h => o1 q (by rw [← hsz]; exact h)
  have hcA : cA = gC Γ 0 := Option.some.inj (hNm.symm.trans (hK.2 0 (gC Γ 0, .int) rfl).2)
  subst hcA
  have hH1 : RepH Γ (o + 1, f) (newM m o) H1 := by
    refine hH.push o2 hlt ?_
    rw [cE_arr (t := 12) (len := len) hs (by omega) (by omega)]
    show H1[gB Γ + o]? = some (vp_cell (gC Γ 0) (len, .inl (fun i => iz ((newM m o).1 o i))))
    rw [vp_cell_i]
    have ef : (fun j => Value.int (iz ((newM m o).1 o j))) = (fun _ => defaultValue (newarray.typeOf .int)) := by
      funext j
      simp only [newM, if_true]
      rfl
    rw [ef]
    exact e1
  show W p Γ.1 e rm s mi args below meth c H1 locs (k + 1) (n + len) _ (F0 mi (pc + 2) ls (.ref (gB Γ + o) :: st.map (tr Γ)))
  rw [← tr_ref hH1 (Nat.lt_succ_self o)]
  exact kk p e s mi args below meth c H1 locs ls hc (by show s.heap.size + (k + 1) = gB Γ + (o + 1); omega) (hS.grow (by rw [z1, hsz]; exact Nat.le_succ _) o2) hH1 hl
theorem R_newaB {o : Nat} {z : Int} (len q o' k' n' : Nat) (hq : pc + 2 = q) (hd : decode M.2.1 pc = .ok (.newarray .byte, 2)) (hz : z = (len : Int)) (hs : f o = (13, len)) (hlen : len ≤ 100000) (ho : o + 1 = o') (hlt : o' < 1000000) (hk : k + 1 = k') (hn : n + len = n') (hal : k' ≤ rm.cells ∧ n' ≤ rm.slots)
    (kk : R Γ M rm mc ms Q k' n' q loc (vr o :: st) (o', f) (newM m o)) : R Γ M rm mc ms Q k n pc loc (vi z :: st) (o, f) m := by
  subst hq ho hk hn hz
  intro p e s mi args below meth c H locs ls hc hZ hS hH hl
  refine ra_size (M := M) hc hZ hS hH (fun hsz => ?_)
  have hts := hc.2.2.2.2.2.2.1
  have hK := hc.2.2.2.2.2.2.2.2.1
  have hZ' : s.heap.size + k = gB Γ + o := hZ
  have hrg : rg (len : Int) := rg_n (by omega)
  have hcl : (iz (len : Int)).toNatClampNeg = len := by rw [iz_clamp hrg, Int.toNat_natCast]
  have hn0 : ¬ iz (len : Int) < 0 := fun q => by have := (iz_lt0 hrg).mp q; omega
  refine va_newaK (atype := .byte) hc.1 hc.2.1 (hts _ ac_byte) rfl hd rfl hn0 hcl (by show len * _ ≤ 536870912; first | (show len * 4 ≤ _; omega) | (show len * 1 ≤ _; omega)) hal.1 hal.2 hsz fun H1 cA e1 z1 o1 hAr hNm => ?_
  have o2 : ∀ q, q < H.size → H1[q]? = H[q]? := fun q h => o1 q (by rw [← hsz]; exact h)
  have hcA : cA = gC Γ 1 := Option.some.inj (hNm.symm.trans (hK.2 1 (gC Γ 1, .byte) rfl).2)
  subst hcA
  have hH1 : RepH Γ (o + 1, f) (newM m o) H1 := by
    refine hH.push o2 hlt ?_
    rw [cE_arr (t := 13) (len := len) hs (by omega) (by omega)]
    show H1[gB Γ + o]? = some (vp_cell (gC Γ 1) (len, .inl (fun i => iz ((newM m o).1 o i))))
    rw [vp_cell_i]
    have ef : (fun j => Value.int (iz ((newM m o).1 o j))) = (fun _ => defaultValue (newarray.typeOf .byte)) := by
      funext j
      simp only [newM, if_true]
      rfl
    rw [ef]
    exact e1
  show W p Γ.1 e rm s mi args below meth c H1 locs (k + 1) (n + len) _ (F0 mi (pc + 2) ls (.ref (gB Γ + o) :: st.map (tr Γ)))
  rw [← tr_ref hH1 (Nat.lt_succ_self o)]
  exact kk p e s mi args below meth c H1 locs ls hc (by show s.heap.size + (k + 1) = gB Γ + (o + 1); omega) (hS.grow (by rw [z1, hsz]; exact Nat.le_succ _) o2) hH1 hl
theorem R_newaZ {o : Nat} {z : Int} (len q o' k' n' : Nat) (hq : pc + 2 = q) (hd : decode M.2.1 pc = .ok (.newarray .boolean, 2)) (hz : z = (len : Int)) (hs : f o = (14, len)) (hlen : len ≤ 100000) (ho : o + 1 = o') (hlt : o' < 1000000) (hk : k + 1 = k') (hn : n + len = n') (hal : k' ≤ rm.cells ∧ n' ≤ rm.slots)
    (kk : R Γ M rm mc ms Q k' n' q loc (vr o :: st) (o', f) (newM m o)) : R Γ M rm mc ms Q k n pc loc (vi z :: st) (o, f) m := by
  subst hq ho hk hn hz
  intro p e s mi args below meth c H locs ls hc hZ hS hH hl
  refine ra_size (M := M) hc hZ hS hH (fun hsz => ?_)
  have hts := hc.2.2.2.2.2.2.1
  have hK := hc.2.2.2.2.2.2.2.2.1
  have hZ' : s.heap.size + k = gB Γ + o := hZ
  have hrg : rg (len : Int) := rg_n (by omega)
  have hcl : (iz (len : Int)).toNatClampNeg = len := by rw [iz_clamp hrg, Int.toNat_natCast]
  have hn0 : ¬ iz (len : Int) < 0 := fun q => by have := (iz_lt0 hrg).mp q; omega
  refine va_newaK (atype := .boolean) hc.1 hc.2.1 (hts _ ac_boolean) rfl hd rfl hn0 hcl (by show len * _ ≤ 536870912; first | (show len * 4 ≤ _; omega) | (show len * 1 ≤ _; omega)) hal.1 hal.2 hsz fun H1 cA e1 z1 o1 hAr hNm => ?_
  have o2 : ∀ q, q < H.size → H1[q]? = H[q]? := fun q h => o1 q (by rw [← hsz]; exact h)
  have hcA : cA = gC Γ 2 := Option.some.inj (hNm.symm.trans (hK.2 2 (gC Γ 2, .boolean) rfl).2)
  subst hcA
  have hH1 : RepH Γ (o + 1, f) (newM m o) H1 := by
    refine hH.push o2 hlt ?_
    rw [cE_arr (t := 14) (len := len) hs (by omega) (by omega)]
    show H1[gB Γ + o]? = some (vp_cell (gC Γ 2) (len, .inl (fun i => iz ((newM m o).1 o i))))
    rw [vp_cell_i]
    have ef : (fun j => Value.int (iz ((newM m o).1 o j))) = (fun _ => defaultValue (newarray.typeOf .boolean)) := by
      funext j
      simp only [newM, if_true]
      rfl
    rw [ef]
    exact e1
  show W p Γ.1 e rm s mi args below meth c H1 locs (k + 1) (n + len) _ (F0 mi (pc + 2) ls (.ref (gB Γ + o) :: st.map (tr Γ)))
  rw [← tr_ref hH1 (Nat.lt_succ_self o)]
  exact kk p e s mi args below meth c H1 locs ls hc (by show s.heap.size + (k + 1) = gB Γ + (o + 1); omega) (hS.grow (by rw [z1, hsz]; exact Nat.le_succ _) o2) hH1 hl
theorem R_anewX1 {o jx : Nat} {z : Int} (len q o' k' n' : Nat) (hq : pc + 3 = q) (hd : decode M.2.1 pc = .ok (.anewarray jx, 3)) (hw : Cond.classLink M.1.cls jx RX1 ∈ TW) (hz : z = (len : Int)) (hs : f o = (16, len)) (hlen : len ≤ 100000) (ho : o + 1 = o') (hlt : o' < 1000000) (hk : k + 1 = k') (hn : n + len = n') (hal : k' ≤ rm.cells ∧ n' ≤ rm.slots)
    (kk : R Γ M rm mc ms Q k' n' q loc (vr o :: st) (o', f) (newM m o)) : R Γ M rm mc ms Q k n pc loc (vi z :: st) (o, f) m := by
  subst hq ho hk hn hz
  intro p e s mi args below meth c H locs ls hc hZ hS hH hl
  refine ra_size (M := M) hc hZ hS hH (fun hsz => ?_)
  have hts := hc.2.2.2.2.2.2.1
  have hK := hc.2.2.2.2.2.2.2.2.1
  have hAO := hc.2.2.2.2.2.2.2.2.2.2.1.2.1
  have hZ' : s.heap.size + k = gB Γ + o := hZ
  have hrg : rg (len : Int) := rg_n (by omega)
  have hcl : (iz (len : Int)).toNatClampNeg = len := by rw [iz_clamp hrg, Int.toNat_natCast]
  have hn0 : ¬ iz (len : Int) < 0 := fun q => by have := (iz_lt0 hrg).mp q; omega
  refine W.anew hc.1 hc.2.1 (own := M.1.cls) hc.2.2.2.2.2.1 (hts _ hw) (va_AO.use hAO) rfl hd rfl hn0 (by rw [hcl]; omega) hal.1 (by rw [hcl]; exact hal.2) fun cA kA comp f1 f2 f3 f4 => ?_
  rw [hcl]
  generalize hH1 : H.push ({ cls := cA, slots := Array.replicate len .null, vm := .none } : Cell) = H1
  have z1 : H1.size = H.size + 1 := by rw [← hH1, Array.size_push]
  have e1 : H1[H.size]? = some (arrV cA len (fun _ => .null)) := by rw [← hH1, Array.getElem?_push_size, ← arrV_new]
  have o2 : ∀ q : Nat, q < H.size → H1[q]? = H[q]? := fun q hq => by rw [← hH1, Array.getElem?_push, if_neg (Nat.ne_of_lt hq)]
  clear hH1
  obtain ⟨kA', comp', g1, g2, g3, g4⟩ := (hK.2 4 (gC Γ 4, .object RX1) rfl).2
  have hcA : cA = gC Γ 4 := Option.some.inj (f1.symm.trans g4)
  subst hcA
  have hsz' : H.size = gB Γ + o := hsz
  have hH1 : RepH Γ (o + 1, f) (newM m o) H1 := by
    refine hH.push o2 hlt ?_
    rw [cE_ref (t := 16) (len := len) hs (by omega)]
    show H1[gB Γ + o]? = some (vp_cell (gC Γ 4) (len, .inr (.inr (.inr (.inr (fun i => ((newM m o).2 o i).map (adr Γ)))))))
    rw [vp_cell_q]
    have ef : (fun j => va_rf (((newM m o).2 o j).map (adr Γ))) = (fun _ => Value.null) := by
      funext j
      simp only [newM, if_true]
      rfl
    rw [ef, ← hsz']
    exact e1
  rw [hsz']
  show W p Γ.1 e rm s mi args below meth c H1 locs (k + 1) (n + len) _ (F0 mi (pc + 3) ls (.ref (gB Γ + o) :: st.map (tr Γ)))
  rw [← tr_ref hH1 (Nat.lt_succ_self o)]
  exact kk p e s mi args below meth c H1 locs ls hc (by show s.heap.size + (k + 1) = gB Γ + (o + 1); omega) (hS.grow (by omega) o2) hH1 hl
theorem R_aastX1 {o len v vlen : Nat} {a : Int} (j q : Nat) (hq : pc + 1 = q) (hd : decode M.2.1 pc = .ok (.aastore, 1)) (hs : shp S o = some (16, len)) (hv : shp S v = some (1, vlen)) (hj : a = (j : Int)) (hb : j < len) (hz : len < 2147483648)
    (kk : R Γ M rm mc ms Q k n q loc st S (setP m o j (some v))) : R Γ M rm mc ms Q k n pc loc (vr v :: vi a :: vr o :: st) S m := by
  subst hq
  subst hj
  intro p e s mi args below meth c H locs ls hc hZ hS hH hl
  obtain ⟨ho, hs2⟩ := shp_sp hs
  obtain ⟨hv1, hv2⟩ := shp_sp hv
  have hcell : (wcl Γ S m)[o]? = some (gB Γ + o, .inl (gC Γ 4, len, .inr (.inr (.inr (.inr (fun i => (m.2 o i).map (adr Γ))))))) := by rw [wcl_at ho, cE_ref hs2 (by omega)]
  have hval : (wcl Γ S m)[v]? = some (gB Γ + v, .inr (1, flds Γ m 1 v)) := by rw [wcl_at hv1, cE_obj hv2 (by omega)]
  show W p Γ.1 e rm s mi args below meth c H locs k n _ (F0 mi pc ls (tr Γ (vr v) :: .int (iz (j : Int)) :: tr Γ (vr o) :: st.map (tr Γ)))
  rw [tr_ref hH ho, tr_ref hH hv1]
  refine va_astq hc.1 hc.2.1 hc.2.2.2.2.2.2.2.2.1 hH.2 (wcl_D Γ S m) hS o 4 v 1 hcell (r := (RX1, cT 1, nF 1)) rfl hval (vw_at (t := 1) (by omega)) (iz_in hz (by omega) (by omega)) hd (fun H1 locs1 hP1 hD1 hS1 => ?_)
  rw [iz_clamp (rg_n (by omega)), Int.toNat_natCast] at hP1
  rw [wcl_set (m' := setP m o j (some v)) (by
    rw [cE_ref hs2 (by omega)]
    congr 7
    funext i
    unfold va_up setP
    have hv3 : v < 1000000 := by have := hH.1; omega
    by_cases e : i = j
    · subst e
      simp [adr, hv3]
    · simp [e]) (fun o' h => cE_setP_ne h)] at hP1
  exact kk p e s mi args below meth c H1 locs1 ls hc hZ hS1 ⟨hH.1, hP1⟩ hl
theorem R_anewX2 {o jx : Nat} {z : Int} (len q o' k' n' : Nat) (hq : pc + 3 = q) (hd : decode M.2.1 pc = .ok (.anewarray jx, 3)) (hw : Cond.classLink M.1.cls jx RX2 ∈ TW) (hz : z = (len : Int)) (hs : f o = (17, len)) (hlen : len ≤ 100000) (ho : o + 1 = o') (hlt : o' < 1000000) (hk : k + 1 = k') (hn : n + len = n') (hal : k' ≤ rm.cells ∧ n' ≤ rm.slots)
    (kk : R Γ M rm mc ms Q k' n' q loc (vr o :: st) (o', f) (newM m o)) : R Γ M rm mc ms Q k n pc loc (vi z :: st) (o, f) m := by
  subst hq ho hk hn hz
  intro p e s mi args below meth c H locs ls hc hZ hS hH hl
  refine ra_size (M := M) hc hZ hS hH (fun hsz => ?_)
  have hts := hc.2.2.2.2.2.2.1
  have hK := hc.2.2.2.2.2.2.2.2.1
  have hAO := hc.2.2.2.2.2.2.2.2.2.2.1.2.2.1
  have hZ' : s.heap.size + k = gB Γ + o := hZ
  have hrg : rg (len : Int) := rg_n (by omega)
  have hcl : (iz (len : Int)).toNatClampNeg = len := by rw [iz_clamp hrg, Int.toNat_natCast]
  have hn0 : ¬ iz (len : Int) < 0 := fun q => by have := (iz_lt0 hrg).mp q; omega
  refine W.anew hc.1 hc.2.1 (own := M.1.cls) hc.2.2.2.2.2.1 (hts _ hw) (va_AO.use hAO) rfl hd rfl hn0 (by rw [hcl]; omega) hal.1 (by rw [hcl]; exact hal.2) fun cA kA comp f1 f2 f3 f4 => ?_
  rw [hcl]
  generalize hH1 : H.push ({ cls := cA, slots := Array.replicate len .null, vm := .none } : Cell) = H1
  have z1 : H1.size = H.size + 1 := by rw [← hH1, Array.size_push]
  have e1 : H1[H.size]? = some (arrV cA len (fun _ => .null)) := by rw [← hH1, Array.getElem?_push_size, ← arrV_new]
  have o2 : ∀ q : Nat, q < H.size → H1[q]? = H[q]? := fun q hq => by rw [← hH1, Array.getElem?_push, if_neg (Nat.ne_of_lt hq)]
  clear hH1
  obtain ⟨kA', comp', g1, g2, g3, g4⟩ := (hK.2 5 (gC Γ 5, .object RX2) rfl).2
  have hcA : cA = gC Γ 5 := Option.some.inj (f1.symm.trans g4)
  subst hcA
  have hsz' : H.size = gB Γ + o := hsz
  have hH1 : RepH Γ (o + 1, f) (newM m o) H1 := by
    refine hH.push o2 hlt ?_
    rw [cE_ref (t := 17) (len := len) hs (by omega)]
    show H1[gB Γ + o]? = some (vp_cell (gC Γ 5) (len, .inr (.inr (.inr (.inr (fun i => ((newM m o).2 o i).map (adr Γ)))))))
    rw [vp_cell_q]
    have ef : (fun j => va_rf (((newM m o).2 o j).map (adr Γ))) = (fun _ => Value.null) := by
      funext j
      simp only [newM, if_true]
      rfl
    rw [ef, ← hsz']
    exact e1
  rw [hsz']
  show W p Γ.1 e rm s mi args below meth c H1 locs (k + 1) (n + len) _ (F0 mi (pc + 3) ls (.ref (gB Γ + o) :: st.map (tr Γ)))
  rw [← tr_ref hH1 (Nat.lt_succ_self o)]
  exact kk p e s mi args below meth c H1 locs ls hc (by show s.heap.size + (k + 1) = gB Γ + (o + 1); omega) (hS.grow (by omega) o2) hH1 hl
theorem R_aastX2 {o len v vlen : Nat} {a : Int} (j q : Nat) (hq : pc + 1 = q) (hd : decode M.2.1 pc = .ok (.aastore, 1)) (hs : shp S o = some (17, len)) (hv : shp S v = some (2, vlen)) (hj : a = (j : Int)) (hb : j < len) (hz : len < 2147483648)
    (kk : R Γ M rm mc ms Q k n q loc st S (setP m o j (some v))) : R Γ M rm mc ms Q k n pc loc (vr v :: vi a :: vr o :: st) S m := by
  subst hq
  subst hj
  intro p e s mi args below meth c H locs ls hc hZ hS hH hl
  obtain ⟨ho, hs2⟩ := shp_sp hs
  obtain ⟨hv1, hv2⟩ := shp_sp hv
  have hcell : (wcl Γ S m)[o]? = some (gB Γ + o, .inl (gC Γ 5, len, .inr (.inr (.inr (.inr (fun i => (m.2 o i).map (adr Γ))))))) := by rw [wcl_at ho, cE_ref hs2 (by omega)]
  have hval : (wcl Γ S m)[v]? = some (gB Γ + v, .inr (2, flds Γ m 2 v)) := by rw [wcl_at hv1, cE_obj hv2 (by omega)]
  show W p Γ.1 e rm s mi args below meth c H locs k n _ (F0 mi pc ls (tr Γ (vr v) :: .int (iz (j : Int)) :: tr Γ (vr o) :: st.map (tr Γ)))
  rw [tr_ref hH ho, tr_ref hH hv1]
  refine va_astq hc.1 hc.2.1 hc.2.2.2.2.2.2.2.2.1 hH.2 (wcl_D Γ S m) hS o 5 v 2 hcell (r := (RX2, cT 2, nF 2)) rfl hval (vw_at (t := 2) (by omega)) (iz_in hz (by omega) (by omega)) hd (fun H1 locs1 hP1 hD1 hS1 => ?_)
  rw [iz_clamp (rg_n (by omega)), Int.toNat_natCast] at hP1
  rw [wcl_set (m' := setP m o j (some v)) (by
    rw [cE_ref hs2 (by omega)]
    congr 7
    funext i
    unfold va_up setP
    have hv3 : v < 1000000 := by have := hH.1; omega
    by_cases e : i = j
    · subst e
      simp [adr, hv3]
    · simp [e]) (fun o' h => cE_setP_ne h)] at hP1
  exact kk p e s mi args below meth c H1 locs1 ls hc hZ hS1 ⟨hH.1, hP1⟩ hl
theorem R_anewX7 {o jx : Nat} {z : Int} (len q o' k' n' : Nat) (hq : pc + 3 = q) (hd : decode M.2.1 pc = .ok (.anewarray jx, 3)) (hw : Cond.classLink M.1.cls jx RX7 ∈ TW) (hz : z = (len : Int)) (hs : f o = (18, len)) (hlen : len ≤ 100000) (ho : o + 1 = o') (hlt : o' < 1000000) (hk : k + 1 = k') (hn : n + len = n') (hal : k' ≤ rm.cells ∧ n' ≤ rm.slots)
    (kk : R Γ M rm mc ms Q k' n' q loc (vr o :: st) (o', f) (newM m o)) : R Γ M rm mc ms Q k n pc loc (vi z :: st) (o, f) m := by
  subst hq ho hk hn hz
  intro p e s mi args below meth c H locs ls hc hZ hS hH hl
  refine ra_size (M := M) hc hZ hS hH (fun hsz => ?_)
  have hts := hc.2.2.2.2.2.2.1
  have hK := hc.2.2.2.2.2.2.2.2.1
  have hAO := hc.2.2.2.2.2.2.2.2.2.2.1.2.2.2
  have hZ' : s.heap.size + k = gB Γ + o := hZ
  have hrg : rg (len : Int) := rg_n (by omega)
  have hcl : (iz (len : Int)).toNatClampNeg = len := by rw [iz_clamp hrg, Int.toNat_natCast]
  have hn0 : ¬ iz (len : Int) < 0 := fun q => by have := (iz_lt0 hrg).mp q; omega
  refine W.anew hc.1 hc.2.1 (own := M.1.cls) hc.2.2.2.2.2.1 (hts _ hw) (va_AO.use hAO) rfl hd rfl hn0 (by rw [hcl]; omega) hal.1 (by rw [hcl]; exact hal.2) fun cA kA comp f1 f2 f3 f4 => ?_
  rw [hcl]
  generalize hH1 : H.push ({ cls := cA, slots := Array.replicate len .null, vm := .none } : Cell) = H1
  have z1 : H1.size = H.size + 1 := by rw [← hH1, Array.size_push]
  have e1 : H1[H.size]? = some (arrV cA len (fun _ => .null)) := by rw [← hH1, Array.getElem?_push_size, ← arrV_new]
  have o2 : ∀ q : Nat, q < H.size → H1[q]? = H[q]? := fun q hq => by rw [← hH1, Array.getElem?_push, if_neg (Nat.ne_of_lt hq)]
  clear hH1
  obtain ⟨kA', comp', g1, g2, g3, g4⟩ := (hK.2 6 (gC Γ 6, .object RX7) rfl).2
  have hcA : cA = gC Γ 6 := Option.some.inj (f1.symm.trans g4)
  subst hcA
  have hsz' : H.size = gB Γ + o := hsz
  have hH1 : RepH Γ (o + 1, f) (newM m o) H1 := by
    refine hH.push o2 hlt ?_
    rw [cE_ref (t := 18) (len := len) hs (by omega)]
    show H1[gB Γ + o]? = some (vp_cell (gC Γ 6) (len, .inr (.inr (.inr (.inr (fun i => ((newM m o).2 o i).map (adr Γ)))))))
    rw [vp_cell_q]
    have ef : (fun j => va_rf (((newM m o).2 o j).map (adr Γ))) = (fun _ => Value.null) := by
      funext j
      simp only [newM, if_true]
      rfl
    rw [ef, ← hsz']
    exact e1
  rw [hsz']
  show W p Γ.1 e rm s mi args below meth c H1 locs (k + 1) (n + len) _ (F0 mi (pc + 3) ls (.ref (gB Γ + o) :: st.map (tr Γ)))
  rw [← tr_ref hH1 (Nat.lt_succ_self o)]
  exact kk p e s mi args below meth c H1 locs ls hc (by show s.heap.size + (k + 1) = gB Γ + (o + 1); omega) (hS.grow (by omega) o2) hH1 hl
theorem R_aastX7 {o len v vlen : Nat} {a : Int} (j q : Nat) (hq : pc + 1 = q) (hd : decode M.2.1 pc = .ok (.aastore, 1)) (hs : shp S o = some (18, len)) (hv : shp S v = some (7, vlen)) (hj : a = (j : Int)) (hb : j < len) (hz : len < 2147483648)
    (kk : R Γ M rm mc ms Q k n q loc st S (setP m o j (some v))) : R Γ M rm mc ms Q k n pc loc (vr v :: vi a :: vr o :: st) S m := by
  subst hq
  subst hj
  intro p e s mi args below meth c H locs ls hc hZ hS hH hl
  obtain ⟨ho, hs2⟩ := shp_sp hs
  obtain ⟨hv1, hv2⟩ := shp_sp hv
  have hcell : (wcl Γ S m)[o]? = some (gB Γ + o, .inl (gC Γ 6, len, .inr (.inr (.inr (.inr (fun i => (m.2 o i).map (adr Γ))))))) := by rw [wcl_at ho, cE_ref hs2 (by omega)]
  have hval : (wcl Γ S m)[v]? = some (gB Γ + v, .inr (7, flds Γ m 7 v)) := by rw [wcl_at hv1, cE_obj hv2 (by omega)]
  show W p Γ.1 e rm s mi args below meth c H locs k n _ (F0 mi pc ls (tr Γ (vr v) :: .int (iz (j : Int)) :: tr Γ (vr o) :: st.map (tr Γ)))
  rw [tr_ref hH ho, tr_ref hH hv1]
  refine va_astq hc.1 hc.2.1 hc.2.2.2.2.2.2.2.2.1 hH.2 (wcl_D Γ S m) hS o 6 v 7 hcell (r := (RX7, cT 7, nF 7)) rfl hval (vw_at (t := 7) (by omega)) (iz_in hz (by omega) (by omega)) hd (fun H1 locs1 hP1 hD1 hS1 => ?_)
  rw [iz_clamp (rg_n (by omega)), Int.toNat_natCast] at hP1
  rw [wcl_set (m' := setP m o j (some v)) (by
    rw [cE_ref hs2 (by omega)]
    congr 7
    funext i
    unfold va_up setP
    have hv3 : v < 1000000 := by have := hH.1; omega
    by_cases e : i = j
    · subst e
      simp [adr, hv3]
    · simp [e]) (fun o' h => cE_setP_ne h)] at hP1
  exact kk p e s mi args below meth c H1 locs1 ls hc hZ hS1 ⟨hH.1, hP1⟩ hl
theorem cd_objectInit : Cond.code objectInit ⟨#[0xb1]⟩ 1 none ∈ TW := mTW 115 (by decide +kernel) rfl
theorem R_objInit {ix o : Nat} (q : Nat) (hq : pc + 3 = q) (hd : decode M.2.1 pc = .ok (.invokespecial ix, 3)) (hw : Cond.methodLink M.1.cls ix objectInit ∈ TW) (hs : o < S.1) (hr : 1 ≤ rm.frames ∧ 12 ≤ rm.locals)
    (kk : R Γ M rm mc ms Q k n q loc [] S m) : R Γ M rm mc ms Q k n pc loc [vr o] S m := by
  subst hq
  intro p e s mi args below meth c H locs ls hc hZ hS hH hl
  have hts := hc.2.2.2.2.2.2.1
  show W p Γ.1 e rm s mi args below meth c H locs k n _ (F0 mi pc ls [tr Γ (vr o)])
  rw [tr_ref hH hs]
  exact W.objInit hc.1 hc.2.1 (own := M.1.cls) hc.2.2.2.2.2.1 (hts _ hw) (hts _ im_objectInit) (hts _ cd_objectInit) rfl (hl.1.trans hc.2.2.1.symm) rfl hd hr.1 hr.2 (kk p e s mi args below meth c H locs ls hc hZ hS hH hl)
end ALLOC
